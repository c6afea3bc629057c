section
-- ===== PART A: goes FIRST, ahead of the names: the tables' words, and 'selects' of the private methods out of them =====
/-- a private method of a class that the tables say can be made, by its rows of tables_1 -/
def lw_okq (q : MethodName × Nat) : Prop := (q.1.cls ≠ "java/lang/invoke/MethodHandle" ∧ q.1.cls ≠ "java/lang/invoke/VarHandle") ∧ Cond.instantiable q.1.cls q.2 ∈ tables_1 ∧ Cond.privateMethod q.1 ∈ tables_1 ∧ Cond.instanceMethod q.1 ∈ tables_1
theorem lw_p0 : lw_okq (⟨"RungBackwards", "refuse", "(I)I"⟩, 8) := ⟨⟨by decide +kernel, by decide +kernel⟩, List.mem_of_getElem? (i := 17) (by decide +kernel), List.mem_of_getElem? (i := 196) (by decide +kernel), List.mem_of_getElem? (i := 197) (by decide +kernel)⟩
theorem lw_p1 : lw_okq (⟨"RungBackwards$Shelves", "putLong", "(IIJ)V"⟩, 3) := ⟨⟨by decide +kernel, by decide +kernel⟩, List.mem_of_getElem? (i := 104) (by decide +kernel), List.mem_of_getElem? (i := 211) (by decide +kernel), List.mem_of_getElem? (i := 212) (by decide +kernel)⟩
theorem lw_p2 : lw_okq (⟨"RungBackwards", "refusalOfRow", "(I)I"⟩, 8) := ⟨⟨by decide +kernel, by decide +kernel⟩, List.mem_of_getElem? (i := 17) (by decide +kernel), List.mem_of_getElem? (i := 219) (by decide +kernel), List.mem_of_getElem? (i := 220) (by decide +kernel)⟩
theorem lw_p3 : lw_okq (⟨"RungBackwards$Band", "slipAs", "(III)I"⟩, 4) := ⟨⟨by decide +kernel, by decide +kernel⟩, List.mem_of_getElem? (i := 31) (by decide +kernel), List.mem_of_getElem? (i := 320) (by decide +kernel), List.mem_of_getElem? (i := 321) (by decide +kernel)⟩
theorem lw_p4 : lw_okq (⟨"RungBackwards$Reader", "advance", "(LRungBackwards$Tape;)V"⟩, 6) := ⟨⟨by decide +kernel, by decide +kernel⟩, List.mem_of_getElem? (i := 135) (by decide +kernel), List.mem_of_getElem? (i := 475) (by decide +kernel), List.mem_of_getElem? (i := 476) (by decide +kernel)⟩
theorem lw_p5 : lw_okq (⟨"RungBackwards$Reader", "numberHere", "(LRungBackwards$Tape;)I"⟩, 6) := ⟨⟨by decide +kernel, by decide +kernel⟩, List.mem_of_getElem? (i := 135) (by decide +kernel), List.mem_of_getElem? (i := 490) (by decide +kernel), List.mem_of_getElem? (i := 491) (by decide +kernel)⟩
theorem lw_p6 : lw_okq (⟨"RungBackwards$Reader", "readStatement", "(LRungBackwards$Tape;LRungBackwards$Tower;)Z"⟩, 6) := ⟨⟨by decide +kernel, by decide +kernel⟩, List.mem_of_getElem? (i := 135) (by decide +kernel), List.mem_of_getElem? (i := 494) (by decide +kernel), List.mem_of_getElem? (i := 495) (by decide +kernel)⟩
theorem lw_p7 : lw_okq (⟨"RungBackwards$Reader", "wordHere", "(LRungBackwards$Tape;)I"⟩, 6) := ⟨⟨by decide +kernel, by decide +kernel⟩, List.mem_of_getElem? (i := 135) (by decide +kernel), List.mem_of_getElem? (i := 498) (by decide +kernel), List.mem_of_getElem? (i := 499) (by decide +kernel)⟩
theorem lw_p8 : lw_okq (⟨"RungBackwards$Reader", "isHere", "(LRungBackwards$Tape;Ljava/lang/String;)Z"⟩, 6) := ⟨⟨by decide +kernel, by decide +kernel⟩, List.mem_of_getElem? (i := 135) (by decide +kernel), List.mem_of_getElem? (i := 515) (by decide +kernel), List.mem_of_getElem? (i := 516) (by decide +kernel)⟩
theorem lw_p9 : lw_okq (⟨"RungBackwards$Reader", "mostOf", "(LRungBackwards$Tower;II)I"⟩, 6) := ⟨⟨by decide +kernel, by decide +kernel⟩, List.mem_of_getElem? (i := 135) (by decide +kernel), List.mem_of_getElem? (i := 575) (by decide +kernel), List.mem_of_getElem? (i := 576) (by decide +kernel)⟩
theorem lw_p10 : lw_okq (⟨"RungBackwards$Reader", "carryOut", "(LRungBackwards$Tower;I)V"⟩, 6) := ⟨⟨by decide +kernel, by decide +kernel⟩, List.mem_of_getElem? (i := 135) (by decide +kernel), List.mem_of_getElem? (i := 582) (by decide +kernel), List.mem_of_getElem? (i := 583) (by decide +kernel)⟩
theorem lw_p11 : lw_okq (⟨"RungBackwards$Tower", "measureDepths", "()V"⟩, 12) := ⟨⟨by decide +kernel, by decide +kernel⟩, List.mem_of_getElem? (i := 25) (by decide +kernel), List.mem_of_getElem? (i := 805) (by decide +kernel), List.mem_of_getElem? (i := 806) (by decide +kernel)⟩
theorem lw_p12 : lw_okq (⟨"RungBackwards$Tower", "leastHungAt", "(II)I"⟩, 12) := ⟨⟨by decide +kernel, by decide +kernel⟩, List.mem_of_getElem? (i := 25) (by decide +kernel), List.mem_of_getElem? (i := 917) (by decide +kernel), List.mem_of_getElem? (i := 918) (by decide +kernel)⟩
theorem lw_p13 : lw_okq (⟨"RungBackwards", "refusalOfPeal", "(II)I"⟩, 8) := ⟨⟨by decide +kernel, by decide +kernel⟩, List.mem_of_getElem? (i := 17) (by decide +kernel), List.mem_of_getElem? (i := 937) (by decide +kernel), List.mem_of_getElem? (i := 938) (by decide +kernel)⟩
theorem lw_p14 : lw_okq (⟨"RungBackwards", "wrongPlace", "(II)I"⟩, 8) := ⟨⟨by decide +kernel, by decide +kernel⟩, List.mem_of_getElem? (i := 17) (by decide +kernel), List.mem_of_getElem? (i := 941) (by decide +kernel), List.mem_of_getElem? (i := 942) (by decide +kernel)⟩
theorem lw_p15 : lw_okq (⟨"RungBackwards$Tower", "ringByDraws", "()I"⟩, 12) := ⟨⟨by decide +kernel, by decide +kernel⟩, List.mem_of_getElem? (i := 25) (by decide +kernel), List.mem_of_getElem? (i := 980) (by decide +kernel), List.mem_of_getElem? (i := 981) (by decide +kernel)⟩
def lw_privs_1 : List (MethodName × Nat) := [(⟨"RungBackwards", "refuse", "(I)I"⟩, 8), (⟨"RungBackwards$Shelves", "putLong", "(IIJ)V"⟩, 3), (⟨"RungBackwards", "refusalOfRow", "(I)I"⟩, 8), (⟨"RungBackwards$Band", "slipAs", "(III)I"⟩, 4), (⟨"RungBackwards$Reader", "advance", "(LRungBackwards$Tape;)V"⟩, 6), (⟨"RungBackwards$Reader", "numberHere", "(LRungBackwards$Tape;)I"⟩, 6), (⟨"RungBackwards$Reader", "readStatement", "(LRungBackwards$Tape;LRungBackwards$Tower;)Z"⟩, 6), (⟨"RungBackwards$Reader", "wordHere", "(LRungBackwards$Tape;)I"⟩, 6), (⟨"RungBackwards$Reader", "isHere", "(LRungBackwards$Tape;Ljava/lang/String;)Z"⟩, 6), (⟨"RungBackwards$Reader", "mostOf", "(LRungBackwards$Tower;II)I"⟩, 6), (⟨"RungBackwards$Reader", "carryOut", "(LRungBackwards$Tower;I)V"⟩, 6), (⟨"RungBackwards$Tower", "measureDepths", "()V"⟩, 12), (⟨"RungBackwards$Tower", "leastHungAt", "(II)I"⟩, 12), (⟨"RungBackwards", "refusalOfPeal", "(II)I"⟩, 8), (⟨"RungBackwards", "wrongPlace", "(II)I"⟩, 8), (⟨"RungBackwards$Tower", "ringByDraws", "()I"⟩, 12)]
theorem lw_r1 : ∀ q ∈ lw_privs_1, lw_okq q := List.forall_mem_cons.mpr ⟨lw_p0, List.forall_mem_cons.mpr ⟨lw_p1, List.forall_mem_cons.mpr ⟨lw_p2, List.forall_mem_cons.mpr ⟨lw_p3, List.forall_mem_cons.mpr ⟨lw_p4, List.forall_mem_cons.mpr ⟨lw_p5, List.forall_mem_cons.mpr ⟨lw_p6, List.forall_mem_cons.mpr ⟨lw_p7, List.forall_mem_cons.mpr ⟨lw_p8, List.forall_mem_cons.mpr ⟨lw_p9, List.forall_mem_cons.mpr ⟨lw_p10, List.forall_mem_cons.mpr ⟨lw_p11, List.forall_mem_cons.mpr ⟨lw_p12, List.forall_mem_cons.mpr ⟨lw_p13, List.forall_mem_cons.mpr ⟨lw_p14, List.forall_mem_cons.mpr ⟨lw_p15, fun _ h => absurd h List.not_mem_nil⟩⟩⟩⟩⟩⟩⟩⟩⟩⟩⟩⟩⟩⟩⟩⟩
theorem lw_p16 : lw_okq (⟨"RungBackwardsModel", "no", "(I)I"⟩, 18) := ⟨⟨by decide +kernel, by decide +kernel⟩, List.mem_of_getElem? (i := 1013) (by decide +kernel), List.mem_of_getElem? (i := 1085) (by decide +kernel), List.mem_of_getElem? (i := 1086) (by decide +kernel)⟩
theorem lw_p17 : lw_okq (⟨"RungBackwardsModel", "many", "()I"⟩, 18) := ⟨⟨by decide +kernel, by decide +kernel⟩, List.mem_of_getElem? (i := 1013) (by decide +kernel), List.mem_of_getElem? (i := 1089) (by decide +kernel), List.mem_of_getElem? (i := 1090) (by decide +kernel)⟩
theorem lw_p18 : lw_okq (⟨"RungBackwardsModel", "addThing", "(II)I"⟩, 18) := ⟨⟨by decide +kernel, by decide +kernel⟩, List.mem_of_getElem? (i := 1013) (by decide +kernel), List.mem_of_getElem? (i := 1093) (by decide +kernel), List.mem_of_getElem? (i := 1094) (by decide +kernel)⟩
theorem lw_p19 : lw_okq (⟨"RungBackwardsModel", "becomes", "(III)I"⟩, 18) := ⟨⟨by decide +kernel, by decide +kernel⟩, List.mem_of_getElem? (i := 1013) (by decide +kernel), List.mem_of_getElem? (i := 1097) (by decide +kernel), List.mem_of_getElem? (i := 1098) (by decide +kernel)⟩
theorem lw_p20 : lw_okq (⟨"RungBackwardsModel", "of", "(II)I"⟩, 18) := ⟨⟨by decide +kernel, by decide +kernel⟩, List.mem_of_getElem? (i := 1013) (by decide +kernel), List.mem_of_getElem? (i := 1101) (by decide +kernel), List.mem_of_getElem? (i := 1102) (by decide +kernel)⟩
theorem lw_p21 : lw_okq (⟨"RungBackwardsModel", "addRinger", "(III)I"⟩, 18) := ⟨⟨by decide +kernel, by decide +kernel⟩, List.mem_of_getElem? (i := 1013) (by decide +kernel), List.mem_of_getElem? (i := 1109) (by decide +kernel), List.mem_of_getElem? (i := 1110) (by decide +kernel)⟩
theorem lw_p22 : lw_okq (⟨"RungBackwardsModel", "isThing", "(I)Z"⟩, 18) := ⟨⟨by decide +kernel, by decide +kernel⟩, List.mem_of_getElem? (i := 1013) (by decide +kernel), List.mem_of_getElem? (i := 1117) (by decide +kernel), List.mem_of_getElem? (i := 1118) (by decide +kernel)⟩
theorem lw_p23 : lw_okq (⟨"RungBackwardsModel", "happens", "()Z"⟩, 18) := ⟨⟨by decide +kernel, by decide +kernel⟩, List.mem_of_getElem? (i := 1013) (by decide +kernel), List.mem_of_getElem? (i := 1144) (by decide +kernel), List.mem_of_getElem? (i := 1145) (by decide +kernel)⟩
theorem lw_p24 : lw_okq (⟨"RungBackwardsModel", "read", "()V"⟩, 18) := ⟨⟨by decide +kernel, by decide +kernel⟩, List.mem_of_getElem? (i := 1013) (by decide +kernel), List.mem_of_getElem? (i := 1148) (by decide +kernel), List.mem_of_getElem? (i := 1149) (by decide +kernel)⟩
theorem lw_p25 : lw_okq (⟨"RungBackwardsModel", "isLetter", "(I)Z"⟩, 18) := ⟨⟨by decide +kernel, by decide +kernel⟩, List.mem_of_getElem? (i := 1013) (by decide +kernel), List.mem_of_getElem? (i := 1152) (by decide +kernel), List.mem_of_getElem? (i := 1153) (by decide +kernel)⟩
theorem lw_p26 : lw_okq (⟨"RungBackwardsModel", "isDigit", "(I)Z"⟩, 18) := ⟨⟨by decide +kernel, by decide +kernel⟩, List.mem_of_getElem? (i := 1013) (by decide +kernel), List.mem_of_getElem? (i := 1156) (by decide +kernel), List.mem_of_getElem? (i := 1157) (by decide +kernel)⟩
theorem lw_p27 : lw_okq (⟨"RungBackwardsModel", "word", "()I"⟩, 18) := ⟨⟨by decide +kernel, by decide +kernel⟩, List.mem_of_getElem? (i := 1013) (by decide +kernel), List.mem_of_getElem? (i := 1160) (by decide +kernel), List.mem_of_getElem? (i := 1161) (by decide +kernel)⟩
theorem lw_p28 : lw_okq (⟨"RungBackwardsModel", "reads", "(I)Z"⟩, 18) := ⟨⟨by decide +kernel, by decide +kernel⟩, List.mem_of_getElem? (i := 1013) (by decide +kernel), List.mem_of_getElem? (i := 1164) (by decide +kernel), List.mem_of_getElem? (i := 1165) (by decide +kernel)⟩
theorem lw_p29 : lw_okq (⟨"RungBackwardsModel", "readRinger", "()Z"⟩, 18) := ⟨⟨by decide +kernel, by decide +kernel⟩, List.mem_of_getElem? (i := 1013) (by decide +kernel), List.mem_of_getElem? (i := 1168) (by decide +kernel), List.mem_of_getElem? (i := 1169) (by decide +kernel)⟩
theorem lw_p30 : lw_okq (⟨"RungBackwardsModel", "been", "()I"⟩, 18) := ⟨⟨by decide +kernel, by decide +kernel⟩, List.mem_of_getElem? (i := 1013) (by decide +kernel), List.mem_of_getElem? (i := 1176) (by decide +kernel), List.mem_of_getElem? (i := 1177) (by decide +kernel)⟩
theorem lw_p31 : lw_okq (⟨"RungBackwardsModel", "standsBy", "(I)I"⟩, 18) := ⟨⟨by decide +kernel, by decide +kernel⟩, List.mem_of_getElem? (i := 1013) (by decide +kernel), List.mem_of_getElem? (i := 1180) (by decide +kernel), List.mem_of_getElem? (i := 1181) (by decide +kernel)⟩
def lw_privs_2 : List (MethodName × Nat) := [(⟨"RungBackwardsModel", "no", "(I)I"⟩, 18), (⟨"RungBackwardsModel", "many", "()I"⟩, 18), (⟨"RungBackwardsModel", "addThing", "(II)I"⟩, 18), (⟨"RungBackwardsModel", "becomes", "(III)I"⟩, 18), (⟨"RungBackwardsModel", "of", "(II)I"⟩, 18), (⟨"RungBackwardsModel", "addRinger", "(III)I"⟩, 18), (⟨"RungBackwardsModel", "isThing", "(I)Z"⟩, 18), (⟨"RungBackwardsModel", "happens", "()Z"⟩, 18), (⟨"RungBackwardsModel", "read", "()V"⟩, 18), (⟨"RungBackwardsModel", "isLetter", "(I)Z"⟩, 18), (⟨"RungBackwardsModel", "isDigit", "(I)Z"⟩, 18), (⟨"RungBackwardsModel", "word", "()I"⟩, 18), (⟨"RungBackwardsModel", "reads", "(I)Z"⟩, 18), (⟨"RungBackwardsModel", "readRinger", "()Z"⟩, 18), (⟨"RungBackwardsModel", "been", "()I"⟩, 18), (⟨"RungBackwardsModel", "standsBy", "(I)I"⟩, 18)]
theorem lw_r2 : ∀ q ∈ lw_privs_2, lw_okq q := List.forall_mem_cons.mpr ⟨lw_p16, List.forall_mem_cons.mpr ⟨lw_p17, List.forall_mem_cons.mpr ⟨lw_p18, List.forall_mem_cons.mpr ⟨lw_p19, List.forall_mem_cons.mpr ⟨lw_p20, List.forall_mem_cons.mpr ⟨lw_p21, List.forall_mem_cons.mpr ⟨lw_p22, List.forall_mem_cons.mpr ⟨lw_p23, List.forall_mem_cons.mpr ⟨lw_p24, List.forall_mem_cons.mpr ⟨lw_p25, List.forall_mem_cons.mpr ⟨lw_p26, List.forall_mem_cons.mpr ⟨lw_p27, List.forall_mem_cons.mpr ⟨lw_p28, List.forall_mem_cons.mpr ⟨lw_p29, List.forall_mem_cons.mpr ⟨lw_p30, List.forall_mem_cons.mpr ⟨lw_p31, fun _ h => absurd h List.not_mem_nil⟩⟩⟩⟩⟩⟩⟩⟩⟩⟩⟩⟩⟩⟩⟩⟩
theorem lw_p32 : lw_okq (⟨"RungBackwardsModel", "isOpen", "(I)Z"⟩, 18) := ⟨⟨by decide +kernel, by decide +kernel⟩, List.mem_of_getElem? (i := 1013) (by decide +kernel), List.mem_of_getElem? (i := 1184) (by decide +kernel), List.mem_of_getElem? (i := 1185) (by decide +kernel)⟩
theorem lw_p33 : lw_okq (⟨"RungBackwardsModel", "may", "(I)I"⟩, 18) := ⟨⟨by decide +kernel, by decide +kernel⟩, List.mem_of_getElem? (i := 1013) (by decide +kernel), List.mem_of_getElem? (i := 1188) (by decide +kernel), List.mem_of_getElem? (i := 1189) (by decide +kernel)⟩
theorem lw_p34 : lw_okq (⟨"RungBackwardsModel", "isRinger", "(I)Z"⟩, 18) := ⟨⟨by decide +kernel, by decide +kernel⟩, List.mem_of_getElem? (i := 1013) (by decide +kernel), List.mem_of_getElem? (i := 1196) (by decide +kernel), List.mem_of_getElem? (i := 1197) (by decide +kernel)⟩
theorem lw_p35 : lw_okq (⟨"RungBackwardsModel", "slip", "(I)I"⟩, 18) := ⟨⟨by decide +kernel, by decide +kernel⟩, List.mem_of_getElem? (i := 1013) (by decide +kernel), List.mem_of_getElem? (i := 1200) (by decide +kernel), List.mem_of_getElem? (i := 1201) (by decide +kernel)⟩
theorem lw_p36 : lw_okq (⟨"RungBackwardsModel", "slipBy", "(III)I"⟩, 18) := ⟨⟨by decide +kernel, by decide +kernel⟩, List.mem_of_getElem? (i := 1013) (by decide +kernel), List.mem_of_getElem? (i := 1204) (by decide +kernel), List.mem_of_getElem? (i := 1205) (by decide +kernel)⟩
theorem lw_p37 : lw_okq (⟨"RungBackwardsModel", "areRingers", "(I)Z"⟩, 18) := ⟨⟨by decide +kernel, by decide +kernel⟩, List.mem_of_getElem? (i := 1013) (by decide +kernel), List.mem_of_getElem? (i := 1217) (by decide +kernel), List.mem_of_getElem? (i := 1218) (by decide +kernel)⟩
theorem lw_p38 : lw_okq (⟨"RungBackwardsModel", "wellOf", "(I)I"⟩, 18) := ⟨⟨by decide +kernel, by decide +kernel⟩, List.mem_of_getElem? (i := 1013) (by decide +kernel), List.mem_of_getElem? (i := 1221) (by decide +kernel), List.mem_of_getElem? (i := 1222) (by decide +kernel)⟩
theorem lw_p39 : lw_okq (⟨"RungBackwardsModel", "valueBy", "(I)I"⟩, 18) := ⟨⟨by decide +kernel, by decide +kernel⟩, List.mem_of_getElem? (i := 1013) (by decide +kernel), List.mem_of_getElem? (i := 1234) (by decide +kernel), List.mem_of_getElem? (i := 1235) (by decide +kernel)⟩
theorem lw_p40 : lw_okq (⟨"RungBackwardsModel", "worthOf", "(I)I"⟩, 18) := ⟨⟨by decide +kernel, by decide +kernel⟩, List.mem_of_getElem? (i := 1013) (by decide +kernel), List.mem_of_getElem? (i := 1238) (by decide +kernel), List.mem_of_getElem? (i := 1239) (by decide +kernel)⟩
theorem lw_p41 : lw_okq (⟨"RungBackwardsModel", "mayBits", "(I)I"⟩, 18) := ⟨⟨by decide +kernel, by decide +kernel⟩, List.mem_of_getElem? (i := 1013) (by decide +kernel), List.mem_of_getElem? (i := 1242) (by decide +kernel), List.mem_of_getElem? (i := 1243) (by decide +kernel)⟩
theorem lw_p42 : lw_okq (⟨"RungBackwardsModel", "offBy", "(I)I"⟩, 18) := ⟨⟨by decide +kernel, by decide +kernel⟩, List.mem_of_getElem? (i := 1013) (by decide +kernel), List.mem_of_getElem? (i := 1250) (by decide +kernel), List.mem_of_getElem? (i := 1251) (by decide +kernel)⟩
theorem lw_p43 : lw_okq (⟨"RungBackwardsModel", "downOf", "(I)I"⟩, 18) := ⟨⟨by decide +kernel, by decide +kernel⟩, List.mem_of_getElem? (i := 1013) (by decide +kernel), List.mem_of_getElem? (i := 1258) (by decide +kernel), List.mem_of_getElem? (i := 1259) (by decide +kernel)⟩
theorem lw_p44 : lw_okq (⟨"RungBackwardsModel", "areThings", "(I)Z"⟩, 18) := ⟨⟨by decide +kernel, by decide +kernel⟩, List.mem_of_getElem? (i := 1013) (by decide +kernel), List.mem_of_getElem? (i := 1270) (by decide +kernel), List.mem_of_getElem? (i := 1271) (by decide +kernel)⟩
theorem lw_p45 : lw_okq (⟨"RungBackwardsModel", "untilAll", "(I)I"⟩, 18) := ⟨⟨by decide +kernel, by decide +kernel⟩, List.mem_of_getElem? (i := 1013) (by decide +kernel), List.mem_of_getElem? (i := 1286) (by decide +kernel), List.mem_of_getElem? (i := 1287) (by decide +kernel)⟩
theorem lw_p46 : lw_okq (⟨"RungBackwardsModel", "turns", "(IIZ)I"⟩, 18) := ⟨⟨by decide +kernel, by decide +kernel⟩, List.mem_of_getElem? (i := 1013) (by decide +kernel), List.mem_of_getElem? (i := 1314) (by decide +kernel), List.mem_of_getElem? (i := 1315) (by decide +kernel)⟩
theorem lw_p47 : lw_okq (⟨"RungBackwardsModel", "extreme", "(ZI)I"⟩, 18) := ⟨⟨by decide +kernel, by decide +kernel⟩, List.mem_of_getElem? (i := 1013) (by decide +kernel), List.mem_of_getElem? (i := 1330) (by decide +kernel), List.mem_of_getElem? (i := 1331) (by decide +kernel)⟩
def lw_privs_3 : List (MethodName × Nat) := [(⟨"RungBackwardsModel", "isOpen", "(I)Z"⟩, 18), (⟨"RungBackwardsModel", "may", "(I)I"⟩, 18), (⟨"RungBackwardsModel", "isRinger", "(I)Z"⟩, 18), (⟨"RungBackwardsModel", "slip", "(I)I"⟩, 18), (⟨"RungBackwardsModel", "slipBy", "(III)I"⟩, 18), (⟨"RungBackwardsModel", "areRingers", "(I)Z"⟩, 18), (⟨"RungBackwardsModel", "wellOf", "(I)I"⟩, 18), (⟨"RungBackwardsModel", "valueBy", "(I)I"⟩, 18), (⟨"RungBackwardsModel", "worthOf", "(I)I"⟩, 18), (⟨"RungBackwardsModel", "mayBits", "(I)I"⟩, 18), (⟨"RungBackwardsModel", "offBy", "(I)I"⟩, 18), (⟨"RungBackwardsModel", "downOf", "(I)I"⟩, 18), (⟨"RungBackwardsModel", "areThings", "(I)Z"⟩, 18), (⟨"RungBackwardsModel", "untilAll", "(I)I"⟩, 18), (⟨"RungBackwardsModel", "turns", "(IIZ)I"⟩, 18), (⟨"RungBackwardsModel", "extreme", "(ZI)I"⟩, 18)]
theorem lw_r3 : ∀ q ∈ lw_privs_3, lw_okq q := List.forall_mem_cons.mpr ⟨lw_p32, List.forall_mem_cons.mpr ⟨lw_p33, List.forall_mem_cons.mpr ⟨lw_p34, List.forall_mem_cons.mpr ⟨lw_p35, List.forall_mem_cons.mpr ⟨lw_p36, List.forall_mem_cons.mpr ⟨lw_p37, List.forall_mem_cons.mpr ⟨lw_p38, List.forall_mem_cons.mpr ⟨lw_p39, List.forall_mem_cons.mpr ⟨lw_p40, List.forall_mem_cons.mpr ⟨lw_p41, List.forall_mem_cons.mpr ⟨lw_p42, List.forall_mem_cons.mpr ⟨lw_p43, List.forall_mem_cons.mpr ⟨lw_p44, List.forall_mem_cons.mpr ⟨lw_p45, List.forall_mem_cons.mpr ⟨lw_p46, List.forall_mem_cons.mpr ⟨lw_p47, fun _ h => absurd h List.not_mem_nil⟩⟩⟩⟩⟩⟩⟩⟩⟩⟩⟩⟩⟩⟩⟩⟩
theorem lw_p48 : lw_okq (⟨"RungBackwardsModel", "depthOf", "(I)I"⟩, 18) := ⟨⟨by decide +kernel, by decide +kernel⟩, List.mem_of_getElem? (i := 1013) (by decide +kernel), List.mem_of_getElem? (i := 1342) (by decide +kernel), List.mem_of_getElem? (i := 1343) (by decide +kernel)⟩
theorem lw_p49 : lw_okq (⟨"RungBackwardsModel", "peal", "(II)I"⟩, 18) := ⟨⟨by decide +kernel, by decide +kernel⟩, List.mem_of_getElem? (i := 1013) (by decide +kernel), List.mem_of_getElem? (i := 1437) (by decide +kernel), List.mem_of_getElem? (i := 1438) (by decide +kernel)⟩
theorem lw_p50 : lw_okq (⟨"RungBackwardsModel", "pealed", "(II)I"⟩, 18) := ⟨⟨by decide +kernel, by decide +kernel⟩, List.mem_of_getElem? (i := 1013) (by decide +kernel), List.mem_of_getElem? (i := 1441) (by decide +kernel), List.mem_of_getElem? (i := 1442) (by decide +kernel)⟩
theorem lw_p51 : lw_okq (⟨"RungBackwardsModel", "rings", "(I)V"⟩, 18) := ⟨⟨by decide +kernel, by decide +kernel⟩, List.mem_of_getElem? (i := 1013) (by decide +kernel), List.mem_of_getElem? (i := 1445) (by decide +kernel), List.mem_of_getElem? (i := 1446) (by decide +kernel)⟩
theorem lw_p52 : lw_okq (⟨"RungBackwardsModel", "year", "()I"⟩, 18) := ⟨⟨by decide +kernel, by decide +kernel⟩, List.mem_of_getElem? (i := 1013) (by decide +kernel), List.mem_of_getElem? (i := 1465) (by decide +kernel), List.mem_of_getElem? (i := 1466) (by decide +kernel)⟩
theorem lw_p53 : lw_okq (⟨"RungBackwardsModel", "draw", "(I)I"⟩, 18) := ⟨⟨by decide +kernel, by decide +kernel⟩, List.mem_of_getElem? (i := 1013) (by decide +kernel), List.mem_of_getElem? (i := 1469) (by decide +kernel), List.mem_of_getElem? (i := 1470) (by decide +kernel)⟩
def lw_privs_4 : List (MethodName × Nat) := [(⟨"RungBackwardsModel", "depthOf", "(I)I"⟩, 18), (⟨"RungBackwardsModel", "peal", "(II)I"⟩, 18), (⟨"RungBackwardsModel", "pealed", "(II)I"⟩, 18), (⟨"RungBackwardsModel", "rings", "(I)V"⟩, 18), (⟨"RungBackwardsModel", "year", "()I"⟩, 18), (⟨"RungBackwardsModel", "draw", "(I)I"⟩, 18)]
theorem lw_r4 : ∀ q ∈ lw_privs_4, lw_okq q := List.forall_mem_cons.mpr ⟨lw_p48, List.forall_mem_cons.mpr ⟨lw_p49, List.forall_mem_cons.mpr ⟨lw_p50, List.forall_mem_cons.mpr ⟨lw_p51, List.forall_mem_cons.mpr ⟨lw_p52, List.forall_mem_cons.mpr ⟨lw_p53, fun _ h => absurd h List.not_mem_nil⟩⟩⟩⟩⟩⟩
def lw_privs : List (MethodName × Nat) := lw_privs_1 ++ (lw_privs_2 ++ (lw_privs_3 ++ (lw_privs_4)))
def lw_tbl : List Cond := k2_sels lw_privs ++ tables_1
theorem lw_privs_ok : ∀ q ∈ lw_privs, lw_okq q := by
  show ∀ q ∈ lw_privs_1 ++ (lw_privs_2 ++ (lw_privs_3 ++ (lw_privs_4))), lw_okq q
  exact List.forall_mem_append.mpr ⟨lw_r1, List.forall_mem_append.mpr ⟨lw_r2, List.forall_mem_append.mpr ⟨lw_r3, lw_r4⟩⟩⟩
end
section
def RX0 : String := "RungBackwards$Band"
def TX0 : u_T := fun k => match k with
  | 0 => ("RungBackwards$Band", "count", "I", false)
  | 1 => ("RungBackwards$Band", "kind", "[I", true)
  | 2 => ("RungBackwards$Band", "a", "[I", true)
  | _ => ("RungBackwards$Band", "bells", "[I", true)
def tyX0 : Nat → FieldType := fun k => match k with
  | 0 => .int
  | 1 => .array .int
  | 2 => .array .int
  | _ => .array .int
abbrev wsX00 : List Cond := u_ws RX0 TX0 4
theorem nmX0 : ∀ a, a < 4 → ∀ b, b < 4 → a ≠ b → (TX0 a).2.1 ≠ (TX0 b).2.1 := by decide +kernel
theorem tyX0_ok : ∀ k, k < 4 → parseFieldDescriptor (TX0 k).2.2.1 = some (tyX0 k) := by decide +kernel
abbrev cX0_init : ByteArray := prog_2_method_1_code
def yX0_init : MethodName := ⟨RX0, "<init>", "()V"⟩
abbrev cX0_takeFrom : ByteArray := prog_2_method_2_code
def yX0_takeFrom : MethodName := ⟨RX0, "takeFrom", "(LRungBackwards$Band;)V"⟩
abbrev cX0_isRinger : ByteArray := prog_2_method_3_code
def yX0_isRinger : MethodName := ⟨RX0, "isRinger", "(I)Z"⟩
abbrev cX0_everyRinger : ByteArray := prog_2_method_4_code
def yX0_everyRinger : MethodName := ⟨RX0, "everyRinger", "()I"⟩
abbrev cX0_areRingers : ByteArray := prog_2_method_5_code
def yX0_areRingers : MethodName := ⟨RX0, "areRingers", "(I)Z"⟩
abbrev cX0_hasRoom : ByteArray := prog_2_method_6_code
def yX0_hasRoom : MethodName := ⟨RX0, "hasRoom", "()Z"⟩
abbrev cX0_addRinger : ByteArray := prog_2_method_7_code
def yX0_addRinger : MethodName := ⟨RX0, "addRinger", "(III)I"⟩
abbrev cX0_kindOf : ByteArray := prog_2_method_8_code
def yX0_kindOf : MethodName := ⟨RX0, "kindOf", "(I)I"⟩
abbrev cX0_aOf : ByteArray := prog_2_method_9_code
def yX0_aOf : MethodName := ⟨RX0, "aOf", "(I)I"⟩
abbrev cX0_bellOf : ByteArray := prog_2_method_10_code
def yX0_bellOf : MethodName := ⟨RX0, "bellOf", "(I)I"⟩
abbrev cX0_kindAbove : ByteArray := prog_2_method_11_code
def yX0_kindAbove : MethodName := ⟨RX0, "kindAbove", "(I)I"⟩
abbrev cX0_isUnder : ByteArray := prog_2_method_12_code
def yX0_isUnder : MethodName := ⟨RX0, "isUnder", "(II)Z"⟩
abbrev cX0_slipWithin : ByteArray := prog_2_method_13_code
def yX0_slipWithin : MethodName := ⟨RX0, "slipWithin", "(I)I"⟩
abbrev cX0_slipAs : ByteArray := prog_2_method_14_code
def yX0_slipAs : MethodName := ⟨RX0, "slipAs", "(III)I"⟩
abbrev cX0_slipOf : ByteArray := prog_2_method_15_code
def yX0_slipOf : MethodName := ⟨RX0, "slipOf", "(II)I"⟩
abbrev cX0_wellOf : ByteArray := prog_2_method_16_code
def yX0_wellOf : MethodName := ⟨RX0, "wellOf", "(II)I"⟩
abbrev cX0_onceOf : ByteArray := prog_2_method_17_code
def yX0_onceOf : MethodName := ⟨RX0, "onceOf", "(II)I"⟩
abbrev cX0_slippingBy : ByteArray := prog_2_method_18_code
def yX0_slippingBy : MethodName := ⟨RX0, "slippingBy", "(II)I"⟩
abbrev cX0_kindsSlippingBy : ByteArray := prog_2_method_19_code
def yX0_kindsSlippingBy : MethodName := ⟨RX0, "kindsSlippingBy", "(III)I"⟩
abbrev cX0_bestCrew : ByteArray := prog_2_method_20_code
def yX0_bestCrew : MethodName := ⟨RX0, "bestCrew", "(II)I"⟩
abbrev cX0_countOfKind : ByteArray := prog_2_method_21_code
def yX0_countOfKind : MethodName := ⟨RX0, "countOfKind", "(I)I"⟩
def RX1 : String := "RungBackwards$Choice"
def TX1 : u_T := fun k => match k with
  | _ => ("", "", "", false)
def tyX1 : Nat → FieldType := fun k => match k with
  | _ => .int
abbrev wsX10 : List Cond := u_ws RX1 TX1 0
theorem nmX1 : ∀ a, a < 0 → ∀ b, b < 0 → a ≠ b → (TX1 a).2.1 ≠ (TX1 b).2.1 := by decide +kernel
theorem tyX1_ok : ∀ k, k < 0 → parseFieldDescriptor (TX1 k).2.2.1 = some (tyX1 k) := by decide +kernel
abbrev cX1_isFewer : ByteArray := prog_3_method_2_code
def yX1_isFewer : MethodName := ⟨RX1, "isFewer", "(II)Z"⟩
abbrev cX1_leastLeaving : ByteArray := prog_3_method_3_code
def yX1_leastLeaving : MethodName := ⟨RX1, "leastLeaving", "(LRungBackwards$Tower;I)I"⟩
abbrev cX1_leastUnsaying : ByteArray := prog_3_method_4_code
def yX1_leastUnsaying : MethodName := ⟨RX1, "leastUnsaying", "(LRungBackwards$Tower;I)I"⟩
abbrev cX1_leastUnder : ByteArray := prog_3_method_5_code
def yX1_leastUnder : MethodName := ⟨RX1, "leastUnder", "(LRungBackwards$Tower;I)I"⟩
abbrev cX1_countLeaving : ByteArray := prog_3_method_6_code
def yX1_countLeaving : MethodName := ⟨RX1, "countLeaving", "(LRungBackwards$Tower;I)I"⟩
abbrev cX1_isRemembered : ByteArray := prog_3_method_7_code
def yX1_isRemembered : MethodName := ⟨RX1, "isRemembered", "(LRungBackwards$Tower;II)Z"⟩
abbrev cX1_countRemembered : ByteArray := prog_3_method_8_code
def yX1_countRemembered : MethodName := ⟨RX1, "countRemembered", "(LRungBackwards$Tower;I)I"⟩
abbrev cX1_leastRemembered : ByteArray := prog_3_method_9_code
def yX1_leastRemembered : MethodName := ⟨RX1, "leastRemembered", "(LRungBackwards$Tower;I)I"⟩
abbrev cX1_worstBack : ByteArray := prog_3_method_10_code
def yX1_worstBack : MethodName := ⟨RX1, "worstBack", "(LRungBackwards$Tower;I)I"⟩
abbrev cX1_bestForwards : ByteArray := prog_3_method_11_code
def yX1_bestForwards : MethodName := ⟨RX1, "bestForwards", "(LRungBackwards$Tower;)I"⟩
abbrev cX1_worstPair : ByteArray := prog_3_method_12_code
def yX1_worstPair : MethodName := ⟨RX1, "worstPair", "(LRungBackwards$Tower;)I"⟩
abbrev cX1_playedOut : ByteArray := prog_3_method_13_code
def yX1_playedOut : MethodName := ⟨RX1, "playedOut", "(LRungBackwards$Tower;IIZII)I"⟩
abbrev cX1_valuePlayed : ByteArray := prog_3_method_14_code
def yX1_valuePlayed : MethodName := ⟨RX1, "valuePlayed", "(LRungBackwards$Tower;I)I"⟩
abbrev cX1_firstPlayed : ByteArray := prog_3_method_15_code
def yX1_firstPlayed : MethodName := ⟨RX1, "firstPlayed", "(LRungBackwards$Tower;I)I"⟩
def RX2 : String := "RungBackwards$Reader"
def TX2 : u_T := fun k => match k with
  | 0 => ("RungBackwards$Reader", "fault", "I", false)
  | 1 => ("RungBackwards$Reader", "token", "I", false)
  | 2 => ("RungBackwards$Reader", "start", "I", false)
  | 3 => ("RungBackwards$Reader", "next", "I", false)
  | 4 => ("RungBackwards$Reader", "number", "I", false)
  | _ => ("RungBackwards$Reader", "numbers", "[I", true)
def tyX2 : Nat → FieldType := fun k => match k with
  | 0 => .int
  | 1 => .int
  | 2 => .int
  | 3 => .int
  | 4 => .int
  | _ => .array .int
abbrev wsX20 : List Cond := u_ws RX2 TX2 6
theorem nmX2 : ∀ a, a < 6 → ∀ b, b < 6 → a ≠ b → (TX2 a).2.1 ≠ (TX2 b).2.1 := by decide +kernel
theorem tyX2_ok : ∀ k, k < 6 → parseFieldDescriptor (TX2 k).2.2.1 = some (tyX2 k) := by decide +kernel
abbrev cX2_init : ByteArray := prog_4_method_1_code
def yX2_init : MethodName := ⟨RX2, "<init>", "()V"⟩
abbrev cX2_readTower : ByteArray := prog_4_method_2_code
def yX2_readTower : MethodName := ⟨RX2, "readTower", "(LRungBackwards$Tape;LRungBackwards$Tower;)I"⟩
abbrev cX2_readStatement : ByteArray := prog_4_method_3_code
def yX2_readStatement : MethodName := ⟨RX2, "readStatement", "(LRungBackwards$Tape;LRungBackwards$Tower;)Z"⟩
abbrev cX2_hasNoRoom : ByteArray := prog_4_method_4_code
def yX2_hasNoRoom : MethodName := ⟨RX2, "hasNoRoom", "(LRungBackwards$Tower;I)Z"⟩
abbrev cX2_countOf : ByteArray := prog_4_method_5_code
def yX2_countOf : MethodName := ⟨RX2, "countOf", "(I)I"⟩
abbrev cX2_mostOf : ByteArray := prog_4_method_6_code
def yX2_mostOf : MethodName := ⟨RX2, "mostOf", "(LRungBackwards$Tower;II)I"⟩
abbrev cX2_carryOut : ByteArray := prog_4_method_7_code
def yX2_carryOut : MethodName := ⟨RX2, "carryOut", "(LRungBackwards$Tower;I)V"⟩
abbrev cX2_advance : ByteArray := prog_4_method_8_code
def yX2_advance : MethodName := ⟨RX2, "advance", "(LRungBackwards$Tape;)V"⟩
abbrev cX2_isSmall : ByteArray := prog_4_method_9_code
def yX2_isSmall : MethodName := ⟨RX2, "isSmall", "(I)Z"⟩
abbrev cX2_isDigit : ByteArray := prog_4_method_10_code
def yX2_isDigit : MethodName := ⟨RX2, "isDigit", "(I)Z"⟩
abbrev cX2_numberHere : ByteArray := prog_4_method_11_code
def yX2_numberHere : MethodName := ⟨RX2, "numberHere", "(LRungBackwards$Tape;)I"⟩
abbrev cX2_wordHere : ByteArray := prog_4_method_12_code
def yX2_wordHere : MethodName := ⟨RX2, "wordHere", "(LRungBackwards$Tape;)I"⟩
abbrev cX2_isHere : ByteArray := prog_4_method_13_code
def yX2_isHere : MethodName := ⟨RX2, "isHere", "(LRungBackwards$Tape;Ljava/lang/String;)Z"⟩
abbrev cX2_lettersOf : ByteArray := prog_4_method_14_code
def yX2_lettersOf : MethodName := ⟨RX2, "lettersOf", "(I)Ljava/lang/String;"⟩
def RX3 : String := "RungBackwards$Shelves"
def TX3 : u_T := fun k => match k with
  | 0 => ("RungBackwards$Shelves", "held", "[I", true)
  | 1 => ("RungBackwards$Shelves", "sizes", "[I", true)
  | _ => ("RungBackwards$Shelves", "elements", "[J", true)
def tyX3 : Nat → FieldType := fun k => match k with
  | 0 => .array .int
  | 1 => .array .int
  | _ => .array .long
abbrev wsX30 : List Cond := u_ws RX3 TX3 3
theorem nmX3 : ∀ a, a < 3 → ∀ b, b < 3 → a ≠ b → (TX3 a).2.1 ≠ (TX3 b).2.1 := by decide +kernel
theorem tyX3_ok : ∀ k, k < 3 → parseFieldDescriptor (TX3 k).2.2.1 = some (tyX3 k) := by decide +kernel
abbrev cX3_init : ByteArray := prog_5_method_1_code
def yX3_init : MethodName := ⟨RX3, "<init>", "()V"⟩
abbrev cX3_isShelf : ByteArray := prog_5_method_2_code
def yX3_isShelf : MethodName := ⟨RX3, "isShelf", "(I)Z"⟩
abbrev cX3_heldIn : ByteArray := prog_5_method_3_code
def yX3_heldIn : MethodName := ⟨RX3, "heldIn", "(I)I"⟩
abbrev cX3_hasRow : ByteArray := prog_5_method_4_code
def yX3_hasRow : MethodName := ⟨RX3, "hasRow", "(I)Z"⟩
abbrev cX3_hasRinger : ByteArray := prog_5_method_5_code
def yX3_hasRinger : MethodName := ⟨RX3, "hasRinger", "(I)Z"⟩
abbrev cX3_ringerIn : ByteArray := prog_5_method_6_code
def yX3_ringerIn : MethodName := ⟨RX3, "ringerIn", "(I)I"⟩
abbrev cX3_sizeOf : ByteArray := prog_5_method_7_code
def yX3_sizeOf : MethodName := ⟨RX3, "sizeOf", "(I)I"⟩
abbrev cX3_hasPart : ByteArray := prog_5_method_8_code
def yX3_hasPart : MethodName := ⟨RX3, "hasPart", "(III)Z"⟩
abbrev cX3_putRow : ByteArray := prog_5_method_9_code
def yX3_putRow : MethodName := ⟨RX3, "putRow", "(III)V"⟩
abbrev cX3_putRinger : ByteArray := prog_5_method_10_code
def yX3_putRinger : MethodName := ⟨RX3, "putRinger", "(II)V"⟩
abbrev cX3_putElement : ByteArray := prog_5_method_11_code
def yX3_putElement : MethodName := ⟨RX3, "putElement", "(IIJ)V"⟩
abbrev cX3_putLong : ByteArray := prog_5_method_12_code
def yX3_putLong : MethodName := ⟨RX3, "putLong", "(IIJ)V"⟩
abbrev cX3_asSort : ByteArray := prog_5_method_13_code
def yX3_asSort : MethodName := ⟨RX3, "asSort", "(IJ)J"⟩
abbrev cX3_elementAt : ByteArray := prog_5_method_14_code
def yX3_elementAt : MethodName := ⟨RX3, "elementAt", "(II)J"⟩
abbrev cX3_move : ByteArray := prog_5_method_15_code
def yX3_move : MethodName := ⟨RX3, "move", "(IIIII)V"⟩
abbrev cX3_forgetRingersFrom : ByteArray := prog_5_method_16_code
def yX3_forgetRingersFrom : MethodName := ⟨RX3, "forgetRingersFrom", "(I)V"⟩
abbrev cX3_countHeld : ByteArray := prog_5_method_17_code
def yX3_countHeld : MethodName := ⟨RX3, "countHeld", "()I"⟩
def RX4 : String := "RungBackwards$Tape"
def TX4 : u_T := fun k => match k with
  | 0 => ("RungBackwards$Tape", "size", "I", false)
  | _ => ("RungBackwards$Tape", "letters", "[I", true)
def tyX4 : Nat → FieldType := fun k => match k with
  | 0 => .int
  | _ => .array .int
abbrev wsX40 : List Cond := u_ws RX4 TX4 2
theorem nmX4 : ∀ a, a < 2 → ∀ b, b < 2 → a ≠ b → (TX4 a).2.1 ≠ (TX4 b).2.1 := by decide +kernel
theorem tyX4_ok : ∀ k, k < 2 → parseFieldDescriptor (TX4 k).2.2.1 = some (tyX4 k) := by decide +kernel
abbrev cX4_init : ByteArray := prog_6_method_1_code
def yX4_init : MethodName := ⟨RX4, "<init>", "()V"⟩
abbrev cX4_hasRoom : ByteArray := prog_6_method_2_code
def yX4_hasRoom : MethodName := ⟨RX4, "hasRoom", "()Z"⟩
abbrev cX4_add : ByteArray := prog_6_method_3_code
def yX4_add : MethodName := ⟨RX4, "add", "(I)I"⟩
abbrev cX4_empty : ByteArray := prog_6_method_4_code
def yX4_empty : MethodName := ⟨RX4, "empty", "()I"⟩
abbrev cX4_letterAt : ByteArray := prog_6_method_5_code
def yX4_letterAt : MethodName := ⟨RX4, "letterAt", "(I)I"⟩
def RX5 : String := "RungBackwards$Tower"
def TX5 : u_T := fun k => match k with
  | 0 => ("RungBackwards$Tower", "things", "I", false)
  | 1 => ("RungBackwards$Tower", "worth", "[I", true)
  | 2 => ("RungBackwards$Tower", "rungIn", "[I", true)
  | 3 => ("RungBackwards$Tower", "age", "[I", true)
  | 4 => ("RungBackwards$Tower", "hung", "[I", true)
  | 5 => ("RungBackwards$Tower", "been", "I", false)
  | 6 => ("RungBackwards$Tower", "weather", "I", false)
  | 7 => ("RungBackwards$Tower", "year", "I", false)
  | 8 => ("RungBackwards$Tower", "cracked", "I", false)
  | 9 => ("RungBackwards$Tower", "seed", "I", false)
  | 10 => ("RungBackwards$Tower", "band", "LRungBackwards$Band;", true)
  | _ => ("RungBackwards$Tower", "depths", "[I", true)
def tyX5 : Nat → FieldType := fun k => match k with
  | 0 => .int
  | 1 => .array .int
  | 2 => .array .int
  | 3 => .array .int
  | 4 => .array .int
  | 5 => .int
  | 6 => .int
  | 7 => .int
  | 8 => .int
  | 9 => .int
  | 10 => .object "RungBackwards$Band"
  | _ => .array .int
abbrev wsX50 : List Cond := u_ws RX5 TX5 12
theorem nmX5 : ∀ a, a < 12 → ∀ b, b < 12 → a ≠ b → (TX5 a).2.1 ≠ (TX5 b).2.1 := by decide +kernel
theorem tyX5_ok : ∀ k, k < 12 → parseFieldDescriptor (TX5 k).2.2.1 = some (tyX5 k) := by decide +kernel
abbrev cX5_init : ByteArray := prog_7_method_1_code
def yX5_init : MethodName := ⟨RX5, "<init>", "()V"⟩
abbrev cX5_takeFrom : ByteArray := prog_7_method_2_code
def yX5_takeFrom : MethodName := ⟨RX5, "takeFrom", "(LRungBackwards$Tower;)V"⟩
abbrev cX5_isThing : ByteArray := prog_7_method_3_code
def yX5_isThing : MethodName := ⟨RX5, "isThing", "(I)Z"⟩
abbrev cX5_everyThing : ByteArray := prog_7_method_4_code
def yX5_everyThing : MethodName := ⟨RX5, "everyThing", "()I"⟩
abbrev cX5_areThings : ByteArray := prog_7_method_5_code
def yX5_areThings : MethodName := ⟨RX5, "areThings", "(I)Z"⟩
abbrev cX5_hasRoom : ByteArray := prog_7_method_6_code
def yX5_hasRoom : MethodName := ⟨RX5, "hasRoom", "()Z"⟩
abbrev cX5_addThing : ByteArray := prog_7_method_7_code
def yX5_addThing : MethodName := ⟨RX5, "addThing", "(II)I"⟩
abbrev cX5_hangThing : ByteArray := prog_7_method_8_code
def yX5_hangThing : MethodName := ⟨RX5, "hangThing", "(IIZ)V"⟩
abbrev cX5_freeThing : ByteArray := prog_7_method_9_code
def yX5_freeThing : MethodName := ⟨RX5, "freeThing", "(I)V"⟩
abbrev cX5_hungOf : ByteArray := prog_7_method_10_code
def yX5_hungOf : MethodName := ⟨RX5, "hungOf", "(I)I"⟩
abbrev cX5_most : ByteArray := prog_7_method_11_code
def yX5_most : MethodName := ⟨RX5, "most", "(I)I"⟩
abbrev cX5_partOf : ByteArray := prog_7_method_12_code
def yX5_partOf : MethodName := ⟨RX5, "partOf", "(II)I"⟩
abbrev cX5_changePart : ByteArray := prog_7_method_13_code
def yX5_changePart : MethodName := ⟨RX5, "changePart", "(III)V"⟩
abbrev cX5_tellBeen : ByteArray := prog_7_method_14_code
def yX5_tellBeen : MethodName := ⟨RX5, "tellBeen", "(IZ)V"⟩
abbrev cX5_mostTold : ByteArray := prog_7_method_15_code
def yX5_mostTold : MethodName := ⟨RX5, "mostTold", "(I)I"⟩
abbrev cX5_toldOf : ByteArray := prog_7_method_16_code
def yX5_toldOf : MethodName := ⟨RX5, "toldOf", "(I)I"⟩
abbrev cX5_changeTold : ByteArray := prog_7_method_17_code
def yX5_changeTold : MethodName := ⟨RX5, "changeTold", "(II)V"⟩
abbrev cX5_isOpen : ByteArray := prog_7_method_18_code
def yX5_isOpen : MethodName := ⟨RX5, "isOpen", "(I)Z"⟩
abbrev cX5_mayBeRung : ByteArray := prog_7_method_19_code
def yX5_mayBeRung : MethodName := ⟨RX5, "mayBeRung", "(I)I"⟩
abbrev cX5_allThatMay : ByteArray := prog_7_method_20_code
def yX5_allThatMay : MethodName := ⟨RX5, "allThatMay", "(I)I"⟩
abbrev cX5_ringThing : ByteArray := prog_7_method_21_code
def yX5_ringThing : MethodName := ⟨RX5, "ringThing", "(I)V"⟩
abbrev cX5_passDay : ByteArray := prog_7_method_22_code
def yX5_passDay : MethodName := ⟨RX5, "passDay", "()V"⟩
abbrev cX5_draw : ByteArray := prog_7_method_23_code
def yX5_draw : MethodName := ⟨RX5, "draw", "(I)I"⟩
abbrev cX5_passYearByDraws : ByteArray := prog_7_method_24_code
def yX5_passYearByDraws : MethodName := ⟨RX5, "passYearByDraws", "()I"⟩
abbrev cX5_ringByDraws : ByteArray := prog_7_method_25_code
def yX5_ringByDraws : MethodName := ⟨RX5, "ringByDraws", "()I"⟩
abbrev cX5_standing : ByteArray := prog_7_method_26_code
def yX5_standing : MethodName := ⟨RX5, "standing", "(I)I"⟩
abbrev cX5_valueIf : ByteArray := prog_7_method_27_code
def yX5_valueIf : MethodName := ⟨RX5, "valueIf", "(I)I"⟩
abbrev cX5_valueNow : ByteArray := prog_7_method_28_code
def yX5_valueNow : MethodName := ⟨RX5, "valueNow", "()I"⟩
abbrev cX5_offBy : ByteArray := prog_7_method_29_code
def yX5_offBy : MethodName := ⟨RX5, "offBy", "(I)I"⟩
abbrev cX5_beyond : ByteArray := prog_7_method_30_code
def yX5_beyond : MethodName := ⟨RX5, "beyond", "(II)I"⟩
abbrev cX5_downOf : ByteArray := prog_7_method_31_code
def yX5_downOf : MethodName := ⟨RX5, "downOf", "(I)I"⟩
abbrev cX5_upOf : ByteArray := prog_7_method_32_code
def yX5_upOf : MethodName := ⟨RX5, "upOf", "(I)I"⟩
abbrev cX5_daysUntil : ByteArray := prog_7_method_33_code
def yX5_daysUntil : MethodName := ⟨RX5, "daysUntil", "(I)I"⟩
abbrev cX5_stepsToPutBack : ByteArray := prog_7_method_34_code
def yX5_stepsToPutBack : MethodName := ⟨RX5, "stepsToPutBack", "(I)I"⟩
abbrev cX5_highest : ByteArray := prog_7_method_35_code
def yX5_highest : MethodName := ⟨RX5, "highest", "()I"⟩
abbrev cX5_lowest : ByteArray := prog_7_method_36_code
def yX5_lowest : MethodName := ⟨RX5, "lowest", "()I"⟩
abbrev cX5_measureDepths : ByteArray := prog_7_method_37_code
def yX5_measureDepths : MethodName := ⟨RX5, "measureDepths", "()V"⟩
abbrev cX5_depthOf : ByteArray := prog_7_method_38_code
def yX5_depthOf : MethodName := ⟨RX5, "depthOf", "(I)I"⟩
abbrev cX5_chainFrom : ByteArray := prog_7_method_39_code
def yX5_chainFrom : MethodName := ⟨RX5, "chainFrom", "(I)I"⟩
abbrev cX5_leastHungAt : ByteArray := prog_7_method_40_code
def yX5_leastHungAt : MethodName := ⟨RX5, "leastHungAt", "(II)I"⟩
abbrev cX5_rungInWeather : ByteArray := prog_7_method_41_code
def yX5_rungInWeather : MethodName := ⟨RX5, "rungInWeather", "(I)I"⟩
abbrev cX5_countBackIn : ByteArray := prog_7_method_42_code
def yX5_countBackIn : MethodName := ⟨RX5, "countBackIn", "(I)I"⟩
abbrev cX5_fullestWeather : ByteArray := prog_7_method_43_code
def yX5_fullestWeather : MethodName := ⟨RX5, "fullestWeather", "()I"⟩
abbrev cX5_countOpenOn : ByteArray := prog_7_method_44_code
def yX5_countOpenOn : MethodName := ⟨RX5, "countOpenOn", "(I)I"⟩
abbrev cX5_fullestBell : ByteArray := prog_7_method_45_code
def yX5_fullestBell : MethodName := ⟨RX5, "fullestBell", "()I"⟩
abbrev cX5_oldestBeen : ByteArray := prog_7_method_46_code
def yX5_oldestBeen : MethodName := ⟨RX5, "oldestBeen", "(Z)I"⟩
def RX6 : String := "RungBackwards"
def TX6 : u_T := fun k => match k with
  | 0 => ("RungBackwards", "now", "LRungBackwards$Tower;", true)
  | 1 => ("RungBackwards", "kept", "LRungBackwards$Tower;", true)
  | 2 => ("RungBackwards", "draft", "LRungBackwards$Tower;", true)
  | 3 => ("RungBackwards", "shelves", "LRungBackwards$Shelves;", true)
  | 4 => ("RungBackwards", "tape", "LRungBackwards$Tape;", true)
  | 5 => ("RungBackwards", "reader", "LRungBackwards$Reader;", true)
  | 6 => ("RungBackwards", "refusals", "[I", true)
  | _ => ("RungBackwards", "somethingKept", "Z", false)
def tyX6 : Nat → FieldType := fun k => match k with
  | 0 => .object "RungBackwards$Tower"
  | 1 => .object "RungBackwards$Tower"
  | 2 => .object "RungBackwards$Tower"
  | 3 => .object "RungBackwards$Shelves"
  | 4 => .object "RungBackwards$Tape"
  | 5 => .object "RungBackwards$Reader"
  | 6 => .array .int
  | _ => .boolean
abbrev wsX60 : List Cond := u_ws RX6 TX6 8
theorem nmX6 : ∀ a, a < 8 → ∀ b, b < 8 → a ≠ b → (TX6 a).2.1 ≠ (TX6 b).2.1 := by decide +kernel
theorem tyX6_ok : ∀ k, k < 8 → parseFieldDescriptor (TX6 k).2.2.1 = some (tyX6 k) := by decide +kernel
abbrev cX6_init : ByteArray := prog_1_method_1_code
def yX6_init : MethodName := ⟨RX6, "<init>", "()V"⟩
abbrev cX6_row : ByteArray := prog_1_method_2_code
def yX6_row : MethodName := ⟨RX6, "row", "(III)I"⟩
abbrev cX6_set : ByteArray := prog_1_method_3_code
def yX6_set : MethodName := ⟨RX6, "set", "(IIJ)I"⟩
abbrev cX6_copy : ByteArray := prog_1_method_4_code
def yX6_copy : MethodName := ⟨RX6, "copy", "(IIIII)I"⟩
abbrev cX6_element : ByteArray := prog_1_method_5_code
def yX6_element : MethodName := ⟨RX6, "element", "(II)J"⟩
abbrev cX6_holds : ByteArray := prog_1_method_6_code
def yX6_holds : MethodName := ⟨RX6, "holds", "(I)I"⟩
abbrev cX6_show : ByteArray := prog_1_method_7_code
def yX6_show : MethodName := ⟨RX6, "show", "(II)I"⟩
abbrev cX6_says : ByteArray := prog_1_method_8_code
def yX6_says : MethodName := ⟨RX6, "says", "(II)I"⟩
abbrev cX6_thing : ByteArray := prog_1_method_9_code
def yX6_thing : MethodName := ⟨RX6, "thing", "(II)I"⟩
abbrev cX6_ringer : ByteArray := prog_1_method_10_code
def yX6_ringer : MethodName := ⟨RX6, "ringer", "(III)I"⟩
abbrev cX6_hang : ByteArray := prog_1_method_11_code
def yX6_hang : MethodName := ⟨RX6, "hang", "(III)I"⟩
abbrev cX6_give : ByteArray := prog_1_method_12_code
def yX6_give : MethodName := ⟨RX6, "give", "(III)I"⟩
abbrev cX6_tell : ByteArray := prog_1_method_13_code
def yX6_tell : MethodName := ⟨RX6, "tell", "(II)I"⟩
abbrev cX6_feed : ByteArray := prog_1_method_14_code
def yX6_feed : MethodName := ⟨RX6, "feed", "(I)I"⟩
abbrev cX6_wipe : ByteArray := prog_1_method_15_code
def yX6_wipe : MethodName := ⟨RX6, "wipe", "()I"⟩
abbrev cX6_tower : ByteArray := prog_1_method_16_code
def yX6_tower : MethodName := ⟨RX6, "tower", "()I"⟩
abbrev cX6_thingOf : ByteArray := prog_1_method_17_code
def yX6_thingOf : MethodName := ⟨RX6, "thingOf", "(II)I"⟩
abbrev cX6_ringerOf : ByteArray := prog_1_method_18_code
def yX6_ringerOf : MethodName := ⟨RX6, "ringerOf", "(II)I"⟩
abbrev cX6_well : ByteArray := prog_1_method_19_code
def yX6_well : MethodName := ⟨RX6, "well", "(I)I"⟩
abbrev cX6_all : ByteArray := prog_1_method_20_code
def yX6_all : MethodName := ⟨RX6, "all", "(I)I"⟩
abbrev cX6_off : ByteArray := prog_1_method_21_code
def yX6_off : MethodName := ⟨RX6, "off", "(I)I"⟩
abbrev cX6_down : ByteArray := prog_1_method_22_code
def yX6_down : MethodName := ⟨RX6, "down", "(I)I"⟩
abbrev cX6_up : ByteArray := prog_1_method_23_code
def yX6_up : MethodName := ⟨RX6, "up", "(I)I"⟩
abbrev cX6_to : ByteArray := prog_1_method_24_code
def yX6_to : MethodName := ⟨RX6, "to", "(I)I"⟩
abbrev cX6_unsay : ByteArray := prog_1_method_25_code
def yX6_unsay : MethodName := ⟨RX6, "unsay", "(I)I"⟩
abbrev cX6_until : ByteArray := prog_1_method_26_code
def yX6_until : MethodName := ⟨RX6, "until", "(I)I"⟩
abbrev cX6_slipped : ByteArray := prog_1_method_27_code
def yX6_slipped : MethodName := ⟨RX6, "slipped", "(II)I"⟩
abbrev cX6_whose : ByteArray := prog_1_method_28_code
def yX6_whose : MethodName := ⟨RX6, "whose", "(I)I"⟩
abbrev cX6_crew : ByteArray := prog_1_method_29_code
def yX6_crew : MethodName := ⟨RX6, "crew", "(I)I"⟩
abbrev cX6_putBack : ByteArray := prog_1_method_30_code
def yX6_putBack : MethodName := ⟨RX6, "putBack", "(I)I"⟩
abbrev cX6_parishes : ByteArray := prog_1_method_31_code
def yX6_parishes : MethodName := ⟨RX6, "parishes", "(II)I"⟩
abbrev cX6_deaf : ByteArray := prog_1_method_32_code
def yX6_deaf : MethodName := ⟨RX6, "deaf", "(II)I"⟩
abbrev cX6_kinds : ByteArray := prog_1_method_33_code
def yX6_kinds : MethodName := ⟨RX6, "kinds", "(II)I"⟩
abbrev cX6_worst : ByteArray := prog_1_method_34_code
def yX6_worst : MethodName := ⟨RX6, "worst", "(I)I"⟩
abbrev cX6_best : ByteArray := prog_1_method_35_code
def yX6_best : MethodName := ⟨RX6, "best", "(I)I"⟩
abbrev cX6_depth : ByteArray := prog_1_method_36_code
def yX6_depth : MethodName := ⟨RX6, "depth", "(I)I"⟩
abbrev cX6_ends : ByteArray := prog_1_method_37_code
def yX6_ends : MethodName := ⟨RX6, "ends", "(I)I"⟩
abbrev cX6_common : ByteArray := prog_1_method_38_code
def yX6_common : MethodName := ⟨RX6, "common", "(II)I"⟩
abbrev cX6_weatherFor : ByteArray := prog_1_method_39_code
def yX6_weatherFor : MethodName := ⟨RX6, "weatherFor", "(I)I"⟩
abbrev cX6_bell : ByteArray := prog_1_method_40_code
def yX6_bell : MethodName := ⟨RX6, "bell", "(I)I"⟩
abbrev cX6_pair : ByteArray := prog_1_method_41_code
def yX6_pair : MethodName := ⟨RX6, "pair", "(I)I"⟩
abbrev cX6_under : ByteArray := prog_1_method_42_code
def yX6_under : MethodName := ⟨RX6, "under", "(I)I"⟩
abbrev cX6_pillar : ByteArray := prog_1_method_43_code
def yX6_pillar : MethodName := ⟨RX6, "pillar", "()I"⟩
abbrev cX6_ways : ByteArray := prog_1_method_44_code
def yX6_ways : MethodName := ⟨RX6, "ways", "(I)I"⟩
abbrev cX6_oldest : ByteArray := prog_1_method_45_code
def yX6_oldest : MethodName := ⟨RX6, "oldest", "(I)I"⟩
abbrev cX6_free : ByteArray := prog_1_method_46_code
def yX6_free : MethodName := ⟨RX6, "free", "(I)I"⟩
abbrev cX6_once : ByteArray := prog_1_method_47_code
def yX6_once : MethodName := ⟨RX6, "once", "(I)I"⟩
abbrev cX6_soon : ByteArray := prog_1_method_48_code
def yX6_soon : MethodName := ⟨RX6, "soon", "(I)I"⟩
abbrev cX6_inWeather : ByteArray := prog_1_method_49_code
def yX6_inWeather : MethodName := ⟨RX6, "inWeather", "(I)I"⟩
abbrev cX6_chain : ByteArray := prog_1_method_50_code
def yX6_chain : MethodName := ⟨RX6, "chain", "(I)I"⟩
abbrev cX6_alone : ByteArray := prog_1_method_51_code
def yX6_alone : MethodName := ⟨RX6, "alone", "(I)I"⟩
abbrev cX6_ofKind : ByteArray := prog_1_method_52_code
def yX6_ofKind : MethodName := ⟨RX6, "ofKind", "(I)I"⟩
abbrev cX6_judge : ByteArray := prog_1_method_53_code
def yX6_judge : MethodName := ⟨RX6, "judge", "(II)I"⟩
abbrev cX6_behind : ByteArray := prog_1_method_54_code
def yX6_behind : MethodName := ⟨RX6, "behind", "(III)I"⟩
abbrev cX6_ring : ByteArray := prog_1_method_55_code
def yX6_ring : MethodName := ⟨RX6, "ring", "(I)I"⟩
abbrev cX6_day : ByteArray := prog_1_method_56_code
def yX6_day : MethodName := ⟨RX6, "day", "()I"⟩
abbrev cX6_years : ByteArray := prog_1_method_57_code
def yX6_years : MethodName := ⟨RX6, "years", "(I)I"⟩
abbrev cX6_seed : ByteArray := prog_1_method_58_code
def yX6_seed : MethodName := ⟨RX6, "seed", "(I)I"⟩
abbrev cX6_image : ByteArray := prog_1_method_59_code
def yX6_image : MethodName := ⟨RX6, "image", "()I"⟩
abbrev cX6_back : ByteArray := prog_1_method_60_code
def yX6_back : MethodName := ⟨RX6, "back", "()I"⟩
abbrev cX6_status : ByteArray := prog_1_method_61_code
def yX6_status : MethodName := ⟨RX6, "status", "(I)I"⟩
abbrev cX6_refuse : ByteArray := prog_1_method_62_code
def yX6_refuse : MethodName := ⟨RX6, "refuse", "(I)I"⟩
abbrev cX6_refusalOfRow : ByteArray := prog_1_method_63_code
def yX6_refusalOfRow : MethodName := ⟨RX6, "refusalOfRow", "(I)I"⟩
abbrev cX6_refusalOfPeal : ByteArray := prog_1_method_64_code
def yX6_refusalOfPeal : MethodName := ⟨RX6, "refusalOfPeal", "(II)I"⟩
abbrev cX6_wrongPlace : ByteArray := prog_1_method_65_code
def yX6_wrongPlace : MethodName := ⟨RX6, "wrongPlace", "(II)I"⟩
abbrev cX6_upTo : ByteArray := prog_1_method_66_code
def yX6_upTo : MethodName := ⟨RX6, "upTo", "(II)Z"⟩
abbrev cX6_bitOf : ByteArray := prog_1_method_67_code
def yX6_bitOf : MethodName := ⟨RX6, "bitOf", "(II)I"⟩
abbrev cX6_isIn : ByteArray := prog_1_method_68_code
def yX6_isIn : MethodName := ⟨RX6, "isIn", "(II)Z"⟩
abbrev cX6_at : ByteArray := prog_1_method_69_code
def yX6_at : MethodName := ⟨RX6, "at", "([II)I"⟩
abbrev cX6_put : ByteArray := prog_1_method_70_code
def yX6_put : MethodName := ⟨RX6, "put", "([III)V"⟩
def RX7 : String := "RungBackwardsModel"
def TX7 : u_T := fun k => match k with
  | 0 => ("RungBackwardsModel", "now", "[I", true)
  | 1 => ("RungBackwardsModel", "mind", "[I", true)
  | 2 => ("RungBackwardsModel", "kept", "[I", true)
  | 3 => ("RungBackwardsModel", "isKept", "Z", false)
  | 4 => ("RungBackwardsModel", "refused", "[I", true)
  | 5 => ("RungBackwardsModel", "tape", "[I", true)
  | 6 => ("RungBackwardsModel", "size", "I", false)
  | 7 => ("RungBackwardsModel", "at", "I", false)
  | 8 => ("RungBackwardsModel", "from", "I", false)
  | 9 => ("RungBackwardsModel", "sort", "I", false)
  | 10 => ("RungBackwardsModel", "number", "I", false)
  | 11 => ("RungBackwardsModel", "words", "[C", true)
  | 12 => ("RungBackwardsModel", "begun", "I", false)
  | 13 => ("RungBackwardsModel", "holds", "[I", true)
  | 14 => ("RungBackwardsModel", "sizes", "[I", true)
  | 15 => ("RungBackwardsModel", "elements", "[J", true)
  | 16 => ("RungBackwardsModel", "moved", "[J", true)
  | _ => ("RungBackwardsModel", "above", "[I", true)
def tyX7 : Nat → FieldType := fun k => match k with
  | 0 => .array .int
  | 1 => .array .int
  | 2 => .array .int
  | 3 => .boolean
  | 4 => .array .int
  | 5 => .array .int
  | 6 => .int
  | 7 => .int
  | 8 => .int
  | 9 => .int
  | 10 => .int
  | 11 => .array .char
  | 12 => .int
  | 13 => .array .int
  | 14 => .array .int
  | 15 => .array .long
  | 16 => .array .long
  | _ => .array .int
abbrev wsX70 : List Cond := u_ws RX7 TX7 18
theorem nmX7 : ∀ a, a < 18 → ∀ b, b < 18 → a ≠ b → (TX7 a).2.1 ≠ (TX7 b).2.1 := by decide +kernel
theorem tyX7_ok : ∀ k, k < 18 → parseFieldDescriptor (TX7 k).2.2.1 = some (tyX7 k) := by decide +kernel
abbrev cX7_init : ByteArray := prog_9_method_1_code
def yX7_init : MethodName := ⟨RX7, "<init>", "()V"⟩
abbrev cX7_isIn : ByteArray := prog_9_method_2_code
def yX7_isIn : MethodName := ⟨RX7, "isIn", "(III)Z"⟩
abbrev cX7_fresh : ByteArray := prog_9_method_3_code
def yX7_fresh : MethodName := ⟨RX7, "fresh", "()[I"⟩
abbrev cX7_move : ByteArray := prog_9_method_4_code
def yX7_move : MethodName := ⟨RX7, "move", "([I[I)V"⟩
abbrev cX7_no : ByteArray := prog_9_method_5_code
def yX7_no : MethodName := ⟨RX7, "no", "(I)I"⟩
abbrev cX7_many : ByteArray := prog_9_method_6_code
def yX7_many : MethodName := ⟨RX7, "many", "()I"⟩
abbrev cX7_isThing : ByteArray := prog_9_method_7_code
def yX7_isThing : MethodName := ⟨RX7, "isThing", "(I)Z"⟩
abbrev cX7_isRinger : ByteArray := prog_9_method_8_code
def yX7_isRinger : MethodName := ⟨RX7, "isRinger", "(I)Z"⟩
abbrev cX7_areThings : ByteArray := prog_9_method_9_code
def yX7_areThings : MethodName := ⟨RX7, "areThings", "(I)Z"⟩
abbrev cX7_of : ByteArray := prog_9_method_10_code
def yX7_of : MethodName := ⟨RX7, "of", "(II)I"⟩
abbrev cX7_becomes : ByteArray := prog_9_method_11_code
def yX7_becomes : MethodName := ⟨RX7, "becomes", "(III)I"⟩
abbrev cX7_been : ByteArray := prog_9_method_12_code
def yX7_been : MethodName := ⟨RX7, "been", "()I"⟩
abbrev cX7_isOpen : ByteArray := prog_9_method_13_code
def yX7_isOpen : MethodName := ⟨RX7, "isOpen", "(I)Z"⟩
abbrev cX7_may : ByteArray := prog_9_method_14_code
def yX7_may : MethodName := ⟨RX7, "may", "(I)I"⟩
abbrev cX7_standsBy : ByteArray := prog_9_method_15_code
def yX7_standsBy : MethodName := ⟨RX7, "standsBy", "(I)I"⟩
abbrev cX7_worthOf : ByteArray := prog_9_method_16_code
def yX7_worthOf : MethodName := ⟨RX7, "worthOf", "(I)I"⟩
abbrev cX7_valueBy : ByteArray := prog_9_method_17_code
def yX7_valueBy : MethodName := ⟨RX7, "valueBy", "(I)I"⟩
abbrev cX7_isFewer : ByteArray := prog_9_method_18_code
def yX7_isFewer : MethodName := ⟨RX7, "isFewer", "(II)Z"⟩
abbrev cX7_addThing : ByteArray := prog_9_method_19_code
def yX7_addThing : MethodName := ⟨RX7, "addThing", "(II)I"⟩
abbrev cX7_addRinger : ByteArray := prog_9_method_20_code
def yX7_addRinger : MethodName := ⟨RX7, "addRinger", "(III)I"⟩
abbrev cX7_thing : ByteArray := prog_9_method_21_code
def yX7_thing : MethodName := ⟨RX7, "thing", "(II)I"⟩
abbrev cX7_ringer : ByteArray := prog_9_method_22_code
def yX7_ringer : MethodName := ⟨RX7, "ringer", "(III)I"⟩
abbrev cX7_hang : ByteArray := prog_9_method_23_code
def yX7_hang : MethodName := ⟨RX7, "hang", "(III)I"⟩
abbrev cX7_give : ByteArray := prog_9_method_24_code
def yX7_give : MethodName := ⟨RX7, "give", "(III)I"⟩
abbrev cX7_tell : ByteArray := prog_9_method_25_code
def yX7_tell : MethodName := ⟨RX7, "tell", "(II)I"⟩
abbrev cX7_feed : ByteArray := prog_9_method_26_code
def yX7_feed : MethodName := ⟨RX7, "feed", "(I)I"⟩
abbrev cX7_wipe : ByteArray := prog_9_method_27_code
def yX7_wipe : MethodName := ⟨RX7, "wipe", "()I"⟩
abbrev cX7_isLetter : ByteArray := prog_9_method_28_code
def yX7_isLetter : MethodName := ⟨RX7, "isLetter", "(I)Z"⟩
abbrev cX7_isDigit : ByteArray := prog_9_method_29_code
def yX7_isDigit : MethodName := ⟨RX7, "isDigit", "(I)Z"⟩
abbrev cX7_read : ByteArray := prog_9_method_30_code
def yX7_read : MethodName := ⟨RX7, "read", "()V"⟩
abbrev cX7_word : ByteArray := prog_9_method_31_code
def yX7_word : MethodName := ⟨RX7, "word", "()I"⟩
abbrev cX7_reads : ByteArray := prog_9_method_32_code
def yX7_reads : MethodName := ⟨RX7, "reads", "(I)Z"⟩
abbrev cX7_happens : ByteArray := prog_9_method_33_code
def yX7_happens : MethodName := ⟨RX7, "happens", "()Z"⟩
abbrev cX7_readRinger : ByteArray := prog_9_method_34_code
def yX7_readRinger : MethodName := ⟨RX7, "readRinger", "()Z"⟩
abbrev cX7_tower : ByteArray := prog_9_method_35_code
def yX7_tower : MethodName := ⟨RX7, "tower", "()I"⟩
abbrev cX7_thingOf : ByteArray := prog_9_method_36_code
def yX7_thingOf : MethodName := ⟨RX7, "thingOf", "(II)I"⟩
abbrev cX7_held : ByteArray := prog_9_method_37_code
def yX7_held : MethodName := ⟨RX7, "held", "(I)I"⟩
abbrev cX7_slipBy : ByteArray := prog_9_method_38_code
def yX7_slipBy : MethodName := ⟨RX7, "slipBy", "(III)I"⟩
abbrev cX7_slip : ByteArray := prog_9_method_39_code
def yX7_slip : MethodName := ⟨RX7, "slip", "(I)I"⟩
abbrev cX7_ringerOf : ByteArray := prog_9_method_40_code
def yX7_ringerOf : MethodName := ⟨RX7, "ringerOf", "(II)I"⟩
abbrev cX7_wellOf : ByteArray := prog_9_method_41_code
def yX7_wellOf : MethodName := ⟨RX7, "wellOf", "(I)I"⟩
abbrev cX7_areRingers : ByteArray := prog_9_method_42_code
def yX7_areRingers : MethodName := ⟨RX7, "areRingers", "(I)Z"⟩
abbrev cX7_well : ByteArray := prog_9_method_43_code
def yX7_well : MethodName := ⟨RX7, "well", "(I)I"⟩
abbrev cX7_once : ByteArray := prog_9_method_44_code
def yX7_once : MethodName := ⟨RX7, "once", "(I)I"⟩
abbrev cX7_mayBits : ByteArray := prog_9_method_45_code
def yX7_mayBits : MethodName := ⟨RX7, "mayBits", "(I)I"⟩
abbrev cX7_all : ByteArray := prog_9_method_46_code
def yX7_all : MethodName := ⟨RX7, "all", "(I)I"⟩
abbrev cX7_offBy : ByteArray := prog_9_method_47_code
def yX7_offBy : MethodName := ⟨RX7, "offBy", "(I)I"⟩
abbrev cX7_off : ByteArray := prog_9_method_48_code
def yX7_off : MethodName := ⟨RX7, "off", "(I)I"⟩
abbrev cX7_downOf : ByteArray := prog_9_method_49_code
def yX7_downOf : MethodName := ⟨RX7, "downOf", "(I)I"⟩
abbrev cX7_down : ByteArray := prog_9_method_50_code
def yX7_down : MethodName := ⟨RX7, "down", "(I)I"⟩
abbrev cX7_up : ByteArray := prog_9_method_51_code
def yX7_up : MethodName := ⟨RX7, "up", "(I)I"⟩
abbrev cX7_to : ByteArray := prog_9_method_52_code
def yX7_to : MethodName := ⟨RX7, "to", "(I)I"⟩
abbrev cX7_unsay : ByteArray := prog_9_method_53_code
def yX7_unsay : MethodName := ⟨RX7, "unsay", "(I)I"⟩
abbrev cX7_untilAll : ByteArray := prog_9_method_54_code
def yX7_untilAll : MethodName := ⟨RX7, "untilAll", "(I)I"⟩
abbrev cX7_until : ByteArray := prog_9_method_55_code
def yX7_until : MethodName := ⟨RX7, "until", "(I)I"⟩
abbrev cX7_soon : ByteArray := prog_9_method_56_code
def yX7_soon : MethodName := ⟨RX7, "soon", "(I)I"⟩
abbrev cX7_slipped : ByteArray := prog_9_method_57_code
def yX7_slipped : MethodName := ⟨RX7, "slipped", "(II)I"⟩
abbrev cX7_whose : ByteArray := prog_9_method_58_code
def yX7_whose : MethodName := ⟨RX7, "whose", "(I)I"⟩
abbrev cX7_crew : ByteArray := prog_9_method_59_code
def yX7_crew : MethodName := ⟨RX7, "crew", "(I)I"⟩
abbrev cX7_putBack : ByteArray := prog_9_method_60_code
def yX7_putBack : MethodName := ⟨RX7, "putBack", "(I)I"⟩
abbrev cX7_turns : ByteArray := prog_9_method_61_code
def yX7_turns : MethodName := ⟨RX7, "turns", "(IIZ)I"⟩
abbrev cX7_parishes : ByteArray := prog_9_method_62_code
def yX7_parishes : MethodName := ⟨RX7, "parishes", "(II)I"⟩
abbrev cX7_deaf : ByteArray := prog_9_method_63_code
def yX7_deaf : MethodName := ⟨RX7, "deaf", "(II)I"⟩
abbrev cX7_kinds : ByteArray := prog_9_method_64_code
def yX7_kinds : MethodName := ⟨RX7, "kinds", "(II)I"⟩
abbrev cX7_worst : ByteArray := prog_9_method_65_code
def yX7_worst : MethodName := ⟨RX7, "worst", "(I)I"⟩
abbrev cX7_best : ByteArray := prog_9_method_66_code
def yX7_best : MethodName := ⟨RX7, "best", "(I)I"⟩
abbrev cX7_extreme : ByteArray := prog_9_method_67_code
def yX7_extreme : MethodName := ⟨RX7, "extreme", "(ZI)I"⟩
abbrev cX7_depthOf : ByteArray := prog_9_method_68_code
def yX7_depthOf : MethodName := ⟨RX7, "depthOf", "(I)I"⟩
abbrev cX7_depth : ByteArray := prog_9_method_69_code
def yX7_depth : MethodName := ⟨RX7, "depth", "(I)I"⟩
abbrev cX7_ends : ByteArray := prog_9_method_70_code
def yX7_ends : MethodName := ⟨RX7, "ends", "(I)I"⟩
abbrev cX7_common : ByteArray := prog_9_method_71_code
def yX7_common : MethodName := ⟨RX7, "common", "(II)I"⟩
abbrev cX7_weatherFor : ByteArray := prog_9_method_72_code
def yX7_weatherFor : MethodName := ⟨RX7, "weatherFor", "(I)I"⟩
abbrev cX7_bell : ByteArray := prog_9_method_73_code
def yX7_bell : MethodName := ⟨RX7, "bell", "(I)I"⟩
abbrev cX7_pair : ByteArray := prog_9_method_74_code
def yX7_pair : MethodName := ⟨RX7, "pair", "(I)I"⟩
abbrev cX7_under : ByteArray := prog_9_method_75_code
def yX7_under : MethodName := ⟨RX7, "under", "(I)I"⟩
abbrev cX7_pillar : ByteArray := prog_9_method_76_code
def yX7_pillar : MethodName := ⟨RX7, "pillar", "()I"⟩
abbrev cX7_ways : ByteArray := prog_9_method_77_code
def yX7_ways : MethodName := ⟨RX7, "ways", "(I)I"⟩
abbrev cX7_oldest : ByteArray := prog_9_method_78_code
def yX7_oldest : MethodName := ⟨RX7, "oldest", "(I)I"⟩
abbrev cX7_free : ByteArray := prog_9_method_79_code
def yX7_free : MethodName := ⟨RX7, "free", "(I)I"⟩
abbrev cX7_inWeather : ByteArray := prog_9_method_80_code
def yX7_inWeather : MethodName := ⟨RX7, "inWeather", "(I)I"⟩
abbrev cX7_chain : ByteArray := prog_9_method_81_code
def yX7_chain : MethodName := ⟨RX7, "chain", "(I)I"⟩
abbrev cX7_alone : ByteArray := prog_9_method_82_code
def yX7_alone : MethodName := ⟨RX7, "alone", "(I)I"⟩
abbrev cX7_ofKind : ByteArray := prog_9_method_83_code
def yX7_ofKind : MethodName := ⟨RX7, "ofKind", "(I)I"⟩
abbrev cX7_isShelf : ByteArray := prog_9_method_84_code
def yX7_isShelf : MethodName := ⟨RX7, "isShelf", "(I)Z"⟩
abbrev cX7_row : ByteArray := prog_9_method_85_code
def yX7_row : MethodName := ⟨RX7, "row", "(III)I"⟩
abbrev cX7_set : ByteArray := prog_9_method_86_code
def yX7_set : MethodName := ⟨RX7, "set", "(IIJ)I"⟩
abbrev cX7_copy : ByteArray := prog_9_method_87_code
def yX7_copy : MethodName := ⟨RX7, "copy", "(IIIII)I"⟩
abbrev cX7_element : ByteArray := prog_9_method_88_code
def yX7_element : MethodName := ⟨RX7, "element", "(II)J"⟩
abbrev cX7_holds : ByteArray := prog_9_method_89_code
def yX7_holds : MethodName := ⟨RX7, "holds", "(I)I"⟩
abbrev cX7_show : ByteArray := prog_9_method_90_code
def yX7_show : MethodName := ⟨RX7, "show", "(II)I"⟩
abbrev cX7_says : ByteArray := prog_9_method_91_code
def yX7_says : MethodName := ⟨RX7, "says", "(II)I"⟩
abbrev cX7_rings : ByteArray := prog_9_method_92_code
def yX7_rings : MethodName := ⟨RX7, "rings", "(I)V"⟩
abbrev cX7_peal : ByteArray := prog_9_method_93_code
def yX7_peal : MethodName := ⟨RX7, "peal", "(II)I"⟩
abbrev cX7_pealed : ByteArray := prog_9_method_94_code
def yX7_pealed : MethodName := ⟨RX7, "pealed", "(II)I"⟩
abbrev cX7_judge : ByteArray := prog_9_method_95_code
def yX7_judge : MethodName := ⟨RX7, "judge", "(II)I"⟩
abbrev cX7_behind : ByteArray := prog_9_method_96_code
def yX7_behind : MethodName := ⟨RX7, "behind", "(III)I"⟩
abbrev cX7_ring : ByteArray := prog_9_method_97_code
def yX7_ring : MethodName := ⟨RX7, "ring", "(I)I"⟩
abbrev cX7_day : ByteArray := prog_9_method_98_code
def yX7_day : MethodName := ⟨RX7, "day", "()I"⟩
abbrev cX7_draw : ByteArray := prog_9_method_99_code
def yX7_draw : MethodName := ⟨RX7, "draw", "(I)I"⟩
abbrev cX7_year : ByteArray := prog_9_method_100_code
def yX7_year : MethodName := ⟨RX7, "year", "()I"⟩
abbrev cX7_years : ByteArray := prog_9_method_101_code
def yX7_years : MethodName := ⟨RX7, "years", "(I)I"⟩
abbrev cX7_seed : ByteArray := prog_9_method_102_code
def yX7_seed : MethodName := ⟨RX7, "seed", "(I)I"⟩
abbrev cX7_image : ByteArray := prog_9_method_103_code
def yX7_image : MethodName := ⟨RX7, "image", "()I"⟩
abbrev cX7_back : ByteArray := prog_9_method_104_code
def yX7_back : MethodName := ⟨RX7, "back", "()I"⟩
abbrev cX7_status : ByteArray := prog_9_method_105_code
def yX7_status : MethodName := ⟨RX7, "status", "(I)I"⟩
def RJ6 : String := "java/lang/Integer"
def TJ6 : u_T := fun k => match k with
  | _ => ("", "", "", false)
abbrev cJ6_bitCount_0f7a4 : ByteArray := prog_10_method_49_code
def yJ6_bitCount_0f7a4 : MethodName := ⟨RJ6, "bitCount", "(I)I"⟩
def RJ9 : String := "java/lang/Math"
def TJ9 : u_T := fun k => match k with
  | _ => ("", "", "", false)
abbrev cJ9_floorMod_7cf53 : ByteArray := prog_11_method_50_code
def yJ9_floorMod_7cf53 : MethodName := ⟨RJ9, "floorMod", "(II)I"⟩
abbrev cJ9_max_7cf53 : ByteArray := prog_11_method_65_code
def yJ9_max_7cf53 : MethodName := ⟨RJ9, "max", "(II)I"⟩
abbrev cJ9_min_7cf53 : ByteArray := prog_11_method_69_code
def yJ9_min_7cf53 : MethodName := ⟨RJ9, "min", "(II)I"⟩
def RJ0 : String := "java/lang/String"
def TJ0 : u_T := fun k => match k with
  | _ => ("", "", "", false)
abbrev cJ0_length_8abf5 : ByteArray := prog_12_method_54_code
def yJ0_length_8abf5 : MethodName := ⟨RJ0, "length", "()I"⟩
abbrev cJ0_charAt_5068e : ByteArray := prog_12_method_56_code
def yJ0_charAt_5068e : MethodName := ⟨RJ0, "charAt", "(I)C"⟩
abbrev cJ0_coder_7d493 : ByteArray := prog_12_method_152_code
def yJ0_coder_7d493 : MethodName := ⟨RJ0, "coder", "()B"⟩
abbrev cJ0_isLatin1_aae02 : ByteArray := prog_12_method_154_code
def yJ0_isLatin1_aae02 : MethodName := ⟨RJ0, "isLatin1", "()Z"⟩
abbrev cJ0_checkIndex_df160 : ByteArray := prog_12_method_155_code
def yJ0_checkIndex_df160 : MethodName := ⟨RJ0, "checkIndex", "(II)V"⟩
def RJ1 : String := "java/lang/StringLatin1"
def TJ1 : u_T := fun k => match k with
  | _ => ("", "", "", false)
abbrev cJ1_charAt_3b067 : ByteArray := prog_13_method_2_code
def yJ1_charAt_3b067 : MethodName := ⟨RJ1, "charAt", "([BI)C"⟩
def RJ2 : String := "java/lang/StringUTF16"
def TJ2 : u_T := fun k => match k with
  | _ => ("", "", "", false)
abbrev cJ2_getChar_3b067 : ByteArray := prog_14_method_5_code
def yJ2_getChar_3b067 : MethodName := ⟨RJ2, "getChar", "([BI)C"⟩
abbrev cJ2_length_9d52b : ByteArray := prog_14_method_6_code
def yJ2_length_9d52b : MethodName := ⟨RJ2, "length", "([B)I"⟩
abbrev cJ2_charAt_3b067 : ByteArray := prog_14_method_83_code
def yJ2_charAt_3b067 : MethodName := ⟨RJ2, "charAt", "([BI)C"⟩
abbrev cJ2_checkIndex_2214a : ByteArray := prog_14_method_91_code
def yJ2_checkIndex_2214a : MethodName := ⟨RJ2, "checkIndex", "(I[B)V"⟩
def RJ10 : String := "java/lang/System"
def TJ10 : u_T := fun k => match k with
  | _ => ("", "", "", false)
def RJ3 : String := "jdk/internal/util/Preconditions"
def TJ3 : u_T := fun k => match k with
  | _ => ("", "", "", false)
abbrev cJ3_checkIndex_8e157 : ByteArray := prog_16_method_11_code
def yJ3_checkIndex_8e157 : MethodName := ⟨RJ3, "checkIndex", "(IILjava/util/function/BiFunction;)I"⟩
def RL : String := "RungBackwardsLaw"
abbrev cL_law : ByteArray := code
def yL_law : MethodName := ⟨RL, "law", "([I)Z"⟩
abbrev vwCl : List vw_C := [(RX0, TX0, 4), (RX2, TX2, 6), (RX3, TX3, 3), (RX4, TX4, 2), (RX5, TX5, 12), (RX6, TX6, 8), (RX7, TX7, 18)]
end
section
theorem dX0_init_0 : decode cX0_init 0 = .ok (.aload_n 0, 1) := by decide +kernel
theorem dX0_init_1 : decode cX0_init 1 = .ok (.invokespecial 3, 3) := by decide +kernel
theorem dX0_init_4 : decode cX0_init 4 = .ok (.aload_n 0, 1) := by decide +kernel
theorem dX0_init_5 : decode cX0_init 5 = .ok (.iconst 0, 1) := by decide +kernel
theorem dX0_init_6 : decode cX0_init 6 = .ok (.putfield 9, 3) := by decide +kernel
theorem dX0_init_9 : decode cX0_init 9 = .ok (.aload_n 0, 1) := by decide +kernel
theorem dX0_init_10 : decode cX0_init 10 = .ok (.bipush 6, 2) := by decide +kernel
theorem dX0_init_12 : decode cX0_init 12 = .ok (.newarray .int, 2) := by decide +kernel
theorem dX0_init_14 : decode cX0_init 14 = .ok (.putfield 15, 3) := by decide +kernel
theorem dX0_init_17 : decode cX0_init 17 = .ok (.aload_n 0, 1) := by decide +kernel
theorem dX0_init_18 : decode cX0_init 18 = .ok (.bipush 6, 2) := by decide +kernel
theorem dX0_init_20 : decode cX0_init 20 = .ok (.newarray .int, 2) := by decide +kernel
theorem dX0_init_22 : decode cX0_init 22 = .ok (.putfield 19, 3) := by decide +kernel
theorem dX0_init_25 : decode cX0_init 25 = .ok (.aload_n 0, 1) := by decide +kernel
theorem dX0_init_26 : decode cX0_init 26 = .ok (.bipush 6, 2) := by decide +kernel
theorem dX0_init_28 : decode cX0_init 28 = .ok (.newarray .int, 2) := by decide +kernel
theorem dX0_init_30 : decode cX0_init 30 = .ok (.putfield 22, 3) := by decide +kernel
theorem dX0_init_33 : decode cX0_init 33 = .ok (.return_, 1) := by decide +kernel
theorem dX0_takeFrom_0 : decode cX0_takeFrom 0 = .ok (.aload_n 0, 1) := by decide +kernel
theorem dX0_takeFrom_1 : decode cX0_takeFrom 1 = .ok (.aload_n 1, 1) := by decide +kernel
theorem dX0_takeFrom_2 : decode cX0_takeFrom 2 = .ok (.getfield 9, 3) := by decide +kernel
theorem dX0_takeFrom_5 : decode cX0_takeFrom 5 = .ok (.putfield 9, 3) := by decide +kernel
theorem dX0_takeFrom_8 : decode cX0_takeFrom 8 = .ok (.aload_n 1, 1) := by decide +kernel
theorem dX0_takeFrom_9 : decode cX0_takeFrom 9 = .ok (.getfield 15, 3) := by decide +kernel
theorem dX0_takeFrom_12 : decode cX0_takeFrom 12 = .ok (.iconst 0, 1) := by decide +kernel
theorem dX0_takeFrom_13 : decode cX0_takeFrom 13 = .ok (.aload_n 0, 1) := by decide +kernel
theorem dX0_takeFrom_14 : decode cX0_takeFrom 14 = .ok (.getfield 15, 3) := by decide +kernel
theorem dX0_takeFrom_17 : decode cX0_takeFrom 17 = .ok (.iconst 0, 1) := by decide +kernel
theorem dX0_takeFrom_18 : decode cX0_takeFrom 18 = .ok (.bipush 6, 2) := by decide +kernel
theorem dX0_takeFrom_20 : decode cX0_takeFrom 20 = .ok (.invokestatic 25, 3) := by decide +kernel
theorem dX0_takeFrom_23 : decode cX0_takeFrom 23 = .ok (.aload_n 1, 1) := by decide +kernel
theorem dX0_takeFrom_24 : decode cX0_takeFrom 24 = .ok (.getfield 19, 3) := by decide +kernel
theorem dX0_takeFrom_27 : decode cX0_takeFrom 27 = .ok (.iconst 0, 1) := by decide +kernel
theorem dX0_takeFrom_28 : decode cX0_takeFrom 28 = .ok (.aload_n 0, 1) := by decide +kernel
theorem dX0_takeFrom_29 : decode cX0_takeFrom 29 = .ok (.getfield 19, 3) := by decide +kernel
theorem dX0_takeFrom_32 : decode cX0_takeFrom 32 = .ok (.iconst 0, 1) := by decide +kernel
theorem dX0_takeFrom_33 : decode cX0_takeFrom 33 = .ok (.bipush 6, 2) := by decide +kernel
theorem dX0_takeFrom_35 : decode cX0_takeFrom 35 = .ok (.invokestatic 25, 3) := by decide +kernel
theorem dX0_takeFrom_38 : decode cX0_takeFrom 38 = .ok (.aload_n 1, 1) := by decide +kernel
theorem dX0_takeFrom_39 : decode cX0_takeFrom 39 = .ok (.getfield 22, 3) := by decide +kernel
theorem dX0_takeFrom_42 : decode cX0_takeFrom 42 = .ok (.iconst 0, 1) := by decide +kernel
theorem dX0_takeFrom_43 : decode cX0_takeFrom 43 = .ok (.aload_n 0, 1) := by decide +kernel
theorem dX0_takeFrom_44 : decode cX0_takeFrom 44 = .ok (.getfield 22, 3) := by decide +kernel
theorem dX0_takeFrom_47 : decode cX0_takeFrom 47 = .ok (.iconst 0, 1) := by decide +kernel
theorem dX0_takeFrom_48 : decode cX0_takeFrom 48 = .ok (.bipush 6, 2) := by decide +kernel
theorem dX0_takeFrom_50 : decode cX0_takeFrom 50 = .ok (.invokestatic 25, 3) := by decide +kernel
theorem dX0_takeFrom_53 : decode cX0_takeFrom 53 = .ok (.return_, 1) := by decide +kernel
theorem dX0_isRinger_0 : decode cX0_isRinger 0 = .ok (.iload_n 1, 1) := by decide +kernel
theorem dX0_isRinger_1 : decode cX0_isRinger 1 = .ok (.ifCond .lt 15, 3) := by decide +kernel
theorem dX0_isRinger_4 : decode cX0_isRinger 4 = .ok (.iload_n 1, 1) := by decide +kernel
theorem dX0_isRinger_5 : decode cX0_isRinger 5 = .ok (.aload_n 0, 1) := by decide +kernel
theorem dX0_isRinger_6 : decode cX0_isRinger 6 = .ok (.getfield 9, 3) := by decide +kernel
theorem dX0_isRinger_9 : decode cX0_isRinger 9 = .ok (.if_icmp .ge 7, 3) := by decide +kernel
theorem dX0_isRinger_12 : decode cX0_isRinger 12 = .ok (.iconst 1, 1) := by decide +kernel
theorem dX0_isRinger_13 : decode cX0_isRinger 13 = .ok (.goto 4, 3) := by decide +kernel
theorem dX0_isRinger_16 : decode cX0_isRinger 16 = .ok (.iconst 0, 1) := by decide +kernel
theorem dX0_isRinger_17 : decode cX0_isRinger 17 = .ok (.ireturn, 1) := by decide +kernel
theorem dX0_everyRinger_0 : decode cX0_everyRinger 0 = .ok (.iconst 1, 1) := by decide +kernel
theorem dX0_everyRinger_1 : decode cX0_everyRinger 1 = .ok (.aload_n 0, 1) := by decide +kernel
theorem dX0_everyRinger_2 : decode cX0_everyRinger 2 = .ok (.getfield 9, 3) := by decide +kernel
theorem dX0_everyRinger_5 : decode cX0_everyRinger 5 = .ok (.ishl, 1) := by decide +kernel
theorem dX0_everyRinger_6 : decode cX0_everyRinger 6 = .ok (.iconst 1, 1) := by decide +kernel
theorem dX0_everyRinger_7 : decode cX0_everyRinger 7 = .ok (.isub, 1) := by decide +kernel
theorem dX0_everyRinger_8 : decode cX0_everyRinger 8 = .ok (.ireturn, 1) := by decide +kernel
theorem dX0_areRingers_0 : decode cX0_areRingers 0 = .ok (.iload_n 1, 1) := by decide +kernel
theorem dX0_areRingers_1 : decode cX0_areRingers 1 = .ok (.aload_n 0, 1) := by decide +kernel
theorem dX0_areRingers_2 : decode cX0_areRingers 2 = .ok (.invokevirtual 31, 3) := by decide +kernel
theorem dX0_areRingers_5 : decode cX0_areRingers 5 = .ok (.iconst (-1), 1) := by decide +kernel
theorem dX0_areRingers_6 : decode cX0_areRingers 6 = .ok (.ixor, 1) := by decide +kernel
theorem dX0_areRingers_7 : decode cX0_areRingers 7 = .ok (.iand, 1) := by decide +kernel
theorem dX0_areRingers_8 : decode cX0_areRingers 8 = .ok (.ifCond .ne 7, 3) := by decide +kernel
theorem dX0_areRingers_11 : decode cX0_areRingers 11 = .ok (.iconst 1, 1) := by decide +kernel
theorem dX0_areRingers_12 : decode cX0_areRingers 12 = .ok (.goto 4, 3) := by decide +kernel
theorem dX0_areRingers_15 : decode cX0_areRingers 15 = .ok (.iconst 0, 1) := by decide +kernel
theorem dX0_areRingers_16 : decode cX0_areRingers 16 = .ok (.ireturn, 1) := by decide +kernel
theorem dX0_hasRoom_0 : decode cX0_hasRoom 0 = .ok (.aload_n 0, 1) := by decide +kernel
theorem dX0_hasRoom_1 : decode cX0_hasRoom 1 = .ok (.getfield 9, 3) := by decide +kernel
theorem dX0_hasRoom_4 : decode cX0_hasRoom 4 = .ok (.bipush 6, 2) := by decide +kernel
theorem dX0_hasRoom_6 : decode cX0_hasRoom 6 = .ok (.if_icmp .ge 7, 3) := by decide +kernel
theorem dX0_hasRoom_9 : decode cX0_hasRoom 9 = .ok (.iconst 1, 1) := by decide +kernel
theorem dX0_hasRoom_10 : decode cX0_hasRoom 10 = .ok (.goto 4, 3) := by decide +kernel
theorem dX0_hasRoom_13 : decode cX0_hasRoom 13 = .ok (.iconst 0, 1) := by decide +kernel
theorem dX0_hasRoom_14 : decode cX0_hasRoom 14 = .ok (.ireturn, 1) := by decide +kernel
theorem dX0_addRinger_0 : decode cX0_addRinger 0 = .ok (.aload_n 0, 1) := by decide +kernel
theorem dX0_addRinger_1 : decode cX0_addRinger 1 = .ok (.getfield 9, 3) := by decide +kernel
theorem dX0_addRinger_4 : decode cX0_addRinger 4 = .ok (.istore 4, 2) := by decide +kernel
theorem dX0_addRinger_6 : decode cX0_addRinger 6 = .ok (.aload_n 0, 1) := by decide +kernel
theorem dX0_addRinger_7 : decode cX0_addRinger 7 = .ok (.getfield 15, 3) := by decide +kernel
theorem dX0_addRinger_10 : decode cX0_addRinger 10 = .ok (.iload 4, 2) := by decide +kernel
theorem dX0_addRinger_12 : decode cX0_addRinger 12 = .ok (.iload_n 1, 1) := by decide +kernel
theorem dX0_addRinger_13 : decode cX0_addRinger 13 = .ok (.invokestatic 35, 3) := by decide +kernel
theorem dX0_addRinger_16 : decode cX0_addRinger 16 = .ok (.aload_n 0, 1) := by decide +kernel
theorem dX0_addRinger_17 : decode cX0_addRinger 17 = .ok (.getfield 19, 3) := by decide +kernel
theorem dX0_addRinger_20 : decode cX0_addRinger 20 = .ok (.iload 4, 2) := by decide +kernel
theorem dX0_addRinger_22 : decode cX0_addRinger 22 = .ok (.iload_n 2, 1) := by decide +kernel
theorem dX0_addRinger_23 : decode cX0_addRinger 23 = .ok (.invokestatic 35, 3) := by decide +kernel
theorem dX0_addRinger_26 : decode cX0_addRinger 26 = .ok (.aload_n 0, 1) := by decide +kernel
theorem dX0_addRinger_27 : decode cX0_addRinger 27 = .ok (.getfield 22, 3) := by decide +kernel
theorem dX0_addRinger_30 : decode cX0_addRinger 30 = .ok (.iload 4, 2) := by decide +kernel
theorem dX0_addRinger_32 : decode cX0_addRinger 32 = .ok (.iload_n 3, 1) := by decide +kernel
theorem dX0_addRinger_33 : decode cX0_addRinger 33 = .ok (.invokestatic 35, 3) := by decide +kernel
theorem dX0_addRinger_36 : decode cX0_addRinger 36 = .ok (.aload_n 0, 1) := by decide +kernel
theorem dX0_addRinger_37 : decode cX0_addRinger 37 = .ok (.iload 4, 2) := by decide +kernel
theorem dX0_addRinger_39 : decode cX0_addRinger 39 = .ok (.iconst 1, 1) := by decide +kernel
theorem dX0_addRinger_40 : decode cX0_addRinger 40 = .ok (.iadd, 1) := by decide +kernel
theorem dX0_addRinger_41 : decode cX0_addRinger 41 = .ok (.putfield 9, 3) := by decide +kernel
theorem dX0_addRinger_44 : decode cX0_addRinger 44 = .ok (.iload 4, 2) := by decide +kernel
theorem dX0_addRinger_46 : decode cX0_addRinger 46 = .ok (.ireturn, 1) := by decide +kernel
theorem dX0_kindOf_0 : decode cX0_kindOf 0 = .ok (.aload_n 0, 1) := by decide +kernel
theorem dX0_kindOf_1 : decode cX0_kindOf 1 = .ok (.getfield 15, 3) := by decide +kernel
theorem dX0_kindOf_4 : decode cX0_kindOf 4 = .ok (.iload_n 1, 1) := by decide +kernel
theorem dX0_kindOf_5 : decode cX0_kindOf 5 = .ok (.invokestatic 39, 3) := by decide +kernel
theorem dX0_kindOf_8 : decode cX0_kindOf 8 = .ok (.ireturn, 1) := by decide +kernel
theorem dX0_aOf_0 : decode cX0_aOf 0 = .ok (.aload_n 0, 1) := by decide +kernel
theorem dX0_aOf_1 : decode cX0_aOf 1 = .ok (.getfield 19, 3) := by decide +kernel
theorem dX0_aOf_4 : decode cX0_aOf 4 = .ok (.iload_n 1, 1) := by decide +kernel
theorem dX0_aOf_5 : decode cX0_aOf 5 = .ok (.invokestatic 39, 3) := by decide +kernel
theorem dX0_aOf_8 : decode cX0_aOf 8 = .ok (.ireturn, 1) := by decide +kernel
theorem dX0_bellOf_0 : decode cX0_bellOf 0 = .ok (.aload_n 0, 1) := by decide +kernel
theorem dX0_bellOf_1 : decode cX0_bellOf 1 = .ok (.getfield 22, 3) := by decide +kernel
theorem dX0_bellOf_4 : decode cX0_bellOf 4 = .ok (.iload_n 1, 1) := by decide +kernel
theorem dX0_bellOf_5 : decode cX0_bellOf 5 = .ok (.invokestatic 39, 3) := by decide +kernel
theorem dX0_bellOf_8 : decode cX0_bellOf 8 = .ok (.ireturn, 1) := by decide +kernel
theorem dX0_kindAbove_0 : decode cX0_kindAbove 0 = .ok (.iload_n 0, 1) := by decide +kernel
theorem dX0_kindAbove_1 : decode cX0_kindAbove 1 = .ok (.tableswitch 41 0 4 #[39, 41, 41, 35, 37], 35) := by decide +kernel
theorem dX0_kindAbove_36 : decode cX0_kindAbove 36 = .ok (.iconst 1, 1) := by decide +kernel
theorem dX0_kindAbove_37 : decode cX0_kindAbove 37 = .ok (.ireturn, 1) := by decide +kernel
theorem dX0_kindAbove_38 : decode cX0_kindAbove 38 = .ok (.iconst 2, 1) := by decide +kernel
theorem dX0_kindAbove_39 : decode cX0_kindAbove 39 = .ok (.ireturn, 1) := by decide +kernel
theorem dX0_kindAbove_40 : decode cX0_kindAbove 40 = .ok (.iconst (-1), 1) := by decide +kernel
theorem dX0_kindAbove_41 : decode cX0_kindAbove 41 = .ok (.ireturn, 1) := by decide +kernel
theorem dX0_kindAbove_42 : decode cX0_kindAbove 42 = .ok (.iconst 0, 1) := by decide +kernel
theorem dX0_kindAbove_43 : decode cX0_kindAbove 43 = .ok (.ireturn, 1) := by decide +kernel
theorem dX0_isUnder_0 : decode cX0_isUnder 0 = .ok (.iload_n 0, 1) := by decide +kernel
theorem dX0_isUnder_1 : decode cX0_isUnder 1 = .ok (.istore_n 2, 1) := by decide +kernel
theorem dX0_isUnder_2 : decode cX0_isUnder 2 = .ok (.iconst 0, 1) := by decide +kernel
theorem dX0_isUnder_3 : decode cX0_isUnder 3 = .ok (.istore_n 3, 1) := by decide +kernel
theorem dX0_isUnder_4 : decode cX0_isUnder 4 = .ok (.iload_n 3, 1) := by decide +kernel
theorem dX0_isUnder_5 : decode cX0_isUnder 5 = .ok (.bipush 6, 2) := by decide +kernel
theorem dX0_isUnder_7 : decode cX0_isUnder 7 = .ok (.if_icmp .ge 26, 3) := by decide +kernel
theorem dX0_isUnder_10 : decode cX0_isUnder 10 = .ok (.iload_n 2, 1) := by decide +kernel
theorem dX0_isUnder_11 : decode cX0_isUnder 11 = .ok (.iconst (-1), 1) := by decide +kernel
theorem dX0_isUnder_12 : decode cX0_isUnder 12 = .ok (.if_icmp .eq 21, 3) := by decide +kernel
theorem dX0_isUnder_15 : decode cX0_isUnder 15 = .ok (.iload_n 2, 1) := by decide +kernel
theorem dX0_isUnder_16 : decode cX0_isUnder 16 = .ok (.iload_n 1, 1) := by decide +kernel
theorem dX0_isUnder_17 : decode cX0_isUnder 17 = .ok (.if_icmp .ne 5, 3) := by decide +kernel
theorem dX0_isUnder_20 : decode cX0_isUnder 20 = .ok (.iconst 1, 1) := by decide +kernel
theorem dX0_isUnder_21 : decode cX0_isUnder 21 = .ok (.ireturn, 1) := by decide +kernel
theorem dX0_isUnder_22 : decode cX0_isUnder 22 = .ok (.iload_n 2, 1) := by decide +kernel
theorem dX0_isUnder_23 : decode cX0_isUnder 23 = .ok (.invokestatic 43, 3) := by decide +kernel
theorem dX0_isUnder_26 : decode cX0_isUnder 26 = .ok (.istore_n 2, 1) := by decide +kernel
theorem dX0_isUnder_27 : decode cX0_isUnder 27 = .ok (.iinc 3 1, 3) := by decide +kernel
theorem dX0_isUnder_30 : decode cX0_isUnder 30 = .ok (.goto (-26), 3) := by decide +kernel
theorem dX0_isUnder_33 : decode cX0_isUnder 33 = .ok (.iconst 0, 1) := by decide +kernel
theorem dX0_isUnder_34 : decode cX0_isUnder 34 = .ok (.ireturn, 1) := by decide +kernel
theorem dX0_slipWithin_0 : decode cX0_slipWithin 0 = .ok (.iconst 0, 1) := by decide +kernel
theorem dX0_slipWithin_1 : decode cX0_slipWithin 1 = .ok (.bipush 99, 2) := by decide +kernel
theorem dX0_slipWithin_3 : decode cX0_slipWithin 3 = .ok (.iload_n 0, 1) := by decide +kernel
theorem dX0_slipWithin_4 : decode cX0_slipWithin 4 = .ok (.invokestatic 47, 3) := by decide +kernel
theorem dX0_slipWithin_7 : decode cX0_slipWithin 7 = .ok (.invokestatic 53, 3) := by decide +kernel
theorem dX0_slipWithin_10 : decode cX0_slipWithin 10 = .ok (.ireturn, 1) := by decide +kernel
theorem dX0_slipAs_0 : decode cX0_slipAs 0 = .ok (.bipush 10, 2) := by decide +kernel
theorem dX0_slipAs_2 : decode cX0_slipAs 2 = .ok (.aload_n 0, 1) := by decide +kernel
theorem dX0_slipAs_3 : decode cX0_slipAs 3 = .ok (.iload_n 2, 1) := by decide +kernel
theorem dX0_slipAs_4 : decode cX0_slipAs 4 = .ok (.invokevirtual 56, 3) := by decide +kernel
theorem dX0_slipAs_7 : decode cX0_slipAs 7 = .ok (.iadd, 1) := by decide +kernel
theorem dX0_slipAs_8 : decode cX0_slipAs 8 = .ok (.invokestatic 59, 3) := by decide +kernel
theorem dX0_slipAs_11 : decode cX0_slipAs 11 = .ok (.istore 4, 2) := by decide +kernel
theorem dX0_slipAs_13 : decode cX0_slipAs 13 = .ok (.iconst 3, 1) := by decide +kernel
theorem dX0_slipAs_14 : decode cX0_slipAs 14 = .ok (.iload 4, 2) := by decide +kernel
theorem dX0_slipAs_16 : decode cX0_slipAs 16 = .ok (.imul, 1) := by decide +kernel
theorem dX0_slipAs_17 : decode cX0_slipAs 17 = .ok (.invokestatic 59, 3) := by decide +kernel
theorem dX0_slipAs_20 : decode cX0_slipAs 20 = .ok (.istore 5, 2) := by decide +kernel
theorem dX0_slipAs_22 : decode cX0_slipAs 22 = .ok (.iload 4, 2) := by decide +kernel
theorem dX0_slipAs_24 : decode cX0_slipAs 24 = .ok (.aload_n 0, 1) := by decide +kernel
theorem dX0_slipAs_25 : decode cX0_slipAs 25 = .ok (.iload_n 2, 1) := by decide +kernel
theorem dX0_slipAs_26 : decode cX0_slipAs 26 = .ok (.invokevirtual 56, 3) := by decide +kernel
theorem dX0_slipAs_29 : decode cX0_slipAs 29 = .ok (.isub, 1) := by decide +kernel
theorem dX0_slipAs_30 : decode cX0_slipAs 30 = .ok (.invokestatic 59, 3) := by decide +kernel
theorem dX0_slipAs_33 : decode cX0_slipAs 33 = .ok (.istore 6, 2) := by decide +kernel
theorem dX0_slipAs_35 : decode cX0_slipAs 35 = .ok (.iload_n 1, 1) := by decide +kernel
theorem dX0_slipAs_36 : decode cX0_slipAs 36 = .ok (.tableswitch 80 1 5 #[36, 49, 39, 52, 60], 36) := by decide +kernel
theorem dX0_slipAs_72 : decode cX0_slipAs 72 = .ok (.iload 5, 2) := by decide +kernel
theorem dX0_slipAs_74 : decode cX0_slipAs 74 = .ok (.ireturn, 1) := by decide +kernel
theorem dX0_slipAs_75 : decode cX0_slipAs 75 = .ok (.iload 5, 2) := by decide +kernel
theorem dX0_slipAs_77 : decode cX0_slipAs 77 = .ok (.iconst 1, 1) := by decide +kernel
theorem dX0_slipAs_78 : decode cX0_slipAs 78 = .ok (.iadd, 1) := by decide +kernel
theorem dX0_slipAs_79 : decode cX0_slipAs 79 = .ok (.iconst 2, 1) := by decide +kernel
theorem dX0_slipAs_80 : decode cX0_slipAs 80 = .ok (.idiv, 1) := by decide +kernel
theorem dX0_slipAs_81 : decode cX0_slipAs 81 = .ok (.invokestatic 59, 3) := by decide +kernel
theorem dX0_slipAs_84 : decode cX0_slipAs 84 = .ok (.ireturn, 1) := by decide +kernel
theorem dX0_slipAs_85 : decode cX0_slipAs 85 = .ok (.iload 6, 2) := by decide +kernel
theorem dX0_slipAs_87 : decode cX0_slipAs 87 = .ok (.ireturn, 1) := by decide +kernel
theorem dX0_slipAs_88 : decode cX0_slipAs 88 = .ok (.iload 6, 2) := by decide +kernel
theorem dX0_slipAs_90 : decode cX0_slipAs 90 = .ok (.iconst 5, 1) := by decide +kernel
theorem dX0_slipAs_91 : decode cX0_slipAs 91 = .ok (.isub, 1) := by decide +kernel
theorem dX0_slipAs_92 : decode cX0_slipAs 92 = .ok (.invokestatic 59, 3) := by decide +kernel
theorem dX0_slipAs_95 : decode cX0_slipAs 95 = .ok (.ireturn, 1) := by decide +kernel
theorem dX0_slipAs_96 : decode cX0_slipAs 96 = .ok (.iload_n 3, 1) := by decide +kernel
theorem dX0_slipAs_97 : decode cX0_slipAs 97 = .ok (.aload_n 0, 1) := by decide +kernel
theorem dX0_slipAs_98 : decode cX0_slipAs 98 = .ok (.iload_n 2, 1) := by decide +kernel
theorem dX0_slipAs_99 : decode cX0_slipAs 99 = .ok (.invokevirtual 62, 3) := by decide +kernel
theorem dX0_slipAs_102 : decode cX0_slipAs 102 = .ok (.invokestatic 65, 3) := by decide +kernel
theorem dX0_slipAs_105 : decode cX0_slipAs 105 = .ok (.ifCond .eq 8, 3) := by decide +kernel
theorem dX0_slipAs_108 : decode cX0_slipAs 108 = .ok (.bipush 50, 2) := by decide +kernel
theorem dX0_slipAs_110 : decode cX0_slipAs 110 = .ok (.goto 5, 3) := by decide +kernel
theorem dX0_slipAs_113 : decode cX0_slipAs 113 = .ok (.iload 4, 2) := by decide +kernel
theorem dX0_slipAs_115 : decode cX0_slipAs 115 = .ok (.ireturn, 1) := by decide +kernel
theorem dX0_slipAs_116 : decode cX0_slipAs 116 = .ok (.iload 4, 2) := by decide +kernel
theorem dX0_slipAs_118 : decode cX0_slipAs 118 = .ok (.ireturn, 1) := by decide +kernel
theorem dX0_slipOf_0 : decode cX0_slipOf 0 = .ok (.aload_n 0, 1) := by decide +kernel
theorem dX0_slipOf_1 : decode cX0_slipOf 1 = .ok (.aload_n 0, 1) := by decide +kernel
theorem dX0_slipOf_2 : decode cX0_slipOf 2 = .ok (.iload_n 1, 1) := by decide +kernel
theorem dX0_slipOf_3 : decode cX0_slipOf 3 = .ok (.invokevirtual 69, 3) := by decide +kernel
theorem dX0_slipOf_6 : decode cX0_slipOf 6 = .ok (.iload_n 1, 1) := by decide +kernel
theorem dX0_slipOf_7 : decode cX0_slipOf 7 = .ok (.iload_n 2, 1) := by decide +kernel
theorem dX0_slipOf_8 : decode cX0_slipOf 8 = .ok (.invokevirtual 72, 3) := by decide +kernel
theorem dX0_slipOf_11 : decode cX0_slipOf 11 = .ok (.ireturn, 1) := by decide +kernel
theorem dX0_wellOf_0 : decode cX0_wellOf 0 = .ok (.ldc 76, 2) := by decide +kernel
theorem dX0_wellOf_2 : decode cX0_wellOf 2 = .ok (.istore_n 3, 1) := by decide +kernel
theorem dX0_wellOf_3 : decode cX0_wellOf 3 = .ok (.iconst 0, 1) := by decide +kernel
theorem dX0_wellOf_4 : decode cX0_wellOf 4 = .ok (.istore 4, 2) := by decide +kernel
theorem dX0_wellOf_6 : decode cX0_wellOf 6 = .ok (.iload 4, 2) := by decide +kernel
theorem dX0_wellOf_8 : decode cX0_wellOf 8 = .ok (.aload_n 0, 1) := by decide +kernel
theorem dX0_wellOf_9 : decode cX0_wellOf 9 = .ok (.getfield 9, 3) := by decide +kernel
theorem dX0_wellOf_12 : decode cX0_wellOf 12 = .ok (.if_icmp .ge 34, 3) := by decide +kernel
theorem dX0_wellOf_15 : decode cX0_wellOf 15 = .ok (.iload_n 1, 1) := by decide +kernel
theorem dX0_wellOf_16 : decode cX0_wellOf 16 = .ok (.iload 4, 2) := by decide +kernel
theorem dX0_wellOf_18 : decode cX0_wellOf 18 = .ok (.invokestatic 65, 3) := by decide +kernel
theorem dX0_wellOf_21 : decode cX0_wellOf 21 = .ok (.ifCond .eq 19, 3) := by decide +kernel
theorem dX0_wellOf_24 : decode cX0_wellOf 24 = .ok (.iload_n 3, 1) := by decide +kernel
theorem dX0_wellOf_25 : decode cX0_wellOf 25 = .ok (.bipush 100, 2) := by decide +kernel
theorem dX0_wellOf_27 : decode cX0_wellOf 27 = .ok (.aload_n 0, 1) := by decide +kernel
theorem dX0_wellOf_28 : decode cX0_wellOf 28 = .ok (.iload 4, 2) := by decide +kernel
theorem dX0_wellOf_30 : decode cX0_wellOf 30 = .ok (.iload_n 2, 1) := by decide +kernel
theorem dX0_wellOf_31 : decode cX0_wellOf 31 = .ok (.invokevirtual 77, 3) := by decide +kernel
theorem dX0_wellOf_34 : decode cX0_wellOf 34 = .ok (.isub, 1) := by decide +kernel
theorem dX0_wellOf_35 : decode cX0_wellOf 35 = .ok (.imul, 1) := by decide +kernel
theorem dX0_wellOf_36 : decode cX0_wellOf 36 = .ok (.bipush 100, 2) := by decide +kernel
theorem dX0_wellOf_38 : decode cX0_wellOf 38 = .ok (.idiv, 1) := by decide +kernel
theorem dX0_wellOf_39 : decode cX0_wellOf 39 = .ok (.istore_n 3, 1) := by decide +kernel
theorem dX0_wellOf_40 : decode cX0_wellOf 40 = .ok (.iinc 4 1, 3) := by decide +kernel
theorem dX0_wellOf_43 : decode cX0_wellOf 43 = .ok (.goto (-37), 3) := by decide +kernel
theorem dX0_wellOf_46 : decode cX0_wellOf 46 = .ok (.iload_n 3, 1) := by decide +kernel
theorem dX0_wellOf_47 : decode cX0_wellOf 47 = .ok (.ireturn, 1) := by decide +kernel
theorem dX0_onceOf_0 : decode cX0_onceOf 0 = .ok (.iconst 0, 1) := by decide +kernel
theorem dX0_onceOf_1 : decode cX0_onceOf 1 = .ok (.istore_n 3, 1) := by decide +kernel
theorem dX0_onceOf_2 : decode cX0_onceOf 2 = .ok (.iconst 0, 1) := by decide +kernel
theorem dX0_onceOf_3 : decode cX0_onceOf 3 = .ok (.istore 4, 2) := by decide +kernel
theorem dX0_onceOf_5 : decode cX0_onceOf 5 = .ok (.iload 4, 2) := by decide +kernel
theorem dX0_onceOf_7 : decode cX0_onceOf 7 = .ok (.aload_n 0, 1) := by decide +kernel
theorem dX0_onceOf_8 : decode cX0_onceOf 8 = .ok (.getfield 9, 3) := by decide +kernel
theorem dX0_onceOf_11 : decode cX0_onceOf 11 = .ok (.if_icmp .ge 45, 3) := by decide +kernel
theorem dX0_onceOf_14 : decode cX0_onceOf 14 = .ok (.iload_n 1, 1) := by decide +kernel
theorem dX0_onceOf_15 : decode cX0_onceOf 15 = .ok (.iload 4, 2) := by decide +kernel
theorem dX0_onceOf_17 : decode cX0_onceOf 17 = .ok (.invokestatic 65, 3) := by decide +kernel
theorem dX0_onceOf_20 : decode cX0_onceOf 20 = .ok (.ifCond .eq 30, 3) := by decide +kernel
theorem dX0_onceOf_23 : decode cX0_onceOf 23 = .ok (.iload_n 3, 1) := by decide +kernel
theorem dX0_onceOf_24 : decode cX0_onceOf 24 = .ok (.aload_n 0, 1) := by decide +kernel
theorem dX0_onceOf_25 : decode cX0_onceOf 25 = .ok (.iload 4, 2) := by decide +kernel
theorem dX0_onceOf_27 : decode cX0_onceOf 27 = .ok (.iload_n 2, 1) := by decide +kernel
theorem dX0_onceOf_28 : decode cX0_onceOf 28 = .ok (.invokevirtual 77, 3) := by decide +kernel
theorem dX0_onceOf_31 : decode cX0_onceOf 31 = .ok (.aload_n 0, 1) := by decide +kernel
theorem dX0_onceOf_32 : decode cX0_onceOf 32 = .ok (.iload_n 1, 1) := by decide +kernel
theorem dX0_onceOf_33 : decode cX0_onceOf 33 = .ok (.iconst 1, 1) := by decide +kernel
theorem dX0_onceOf_34 : decode cX0_onceOf 34 = .ok (.iload 4, 2) := by decide +kernel
theorem dX0_onceOf_36 : decode cX0_onceOf 36 = .ok (.ishl, 1) := by decide +kernel
theorem dX0_onceOf_37 : decode cX0_onceOf 37 = .ok (.iconst (-1), 1) := by decide +kernel
theorem dX0_onceOf_38 : decode cX0_onceOf 38 = .ok (.ixor, 1) := by decide +kernel
theorem dX0_onceOf_39 : decode cX0_onceOf 39 = .ok (.iand, 1) := by decide +kernel
theorem dX0_onceOf_40 : decode cX0_onceOf 40 = .ok (.iload_n 2, 1) := by decide +kernel
theorem dX0_onceOf_41 : decode cX0_onceOf 41 = .ok (.invokevirtual 80, 3) := by decide +kernel
theorem dX0_onceOf_44 : decode cX0_onceOf 44 = .ok (.imul, 1) := by decide +kernel
theorem dX0_onceOf_45 : decode cX0_onceOf 45 = .ok (.bipush 100, 2) := by decide +kernel
theorem dX0_onceOf_47 : decode cX0_onceOf 47 = .ok (.idiv, 1) := by decide +kernel
theorem dX0_onceOf_48 : decode cX0_onceOf 48 = .ok (.iadd, 1) := by decide +kernel
theorem dX0_onceOf_49 : decode cX0_onceOf 49 = .ok (.istore_n 3, 1) := by decide +kernel
theorem dX0_onceOf_50 : decode cX0_onceOf 50 = .ok (.iinc 4 1, 3) := by decide +kernel
theorem dX0_onceOf_53 : decode cX0_onceOf 53 = .ok (.goto (-48), 3) := by decide +kernel
theorem dX0_onceOf_56 : decode cX0_onceOf 56 = .ok (.iload_n 3, 1) := by decide +kernel
theorem dX0_onceOf_57 : decode cX0_onceOf 57 = .ok (.ireturn, 1) := by decide +kernel
theorem dX0_slippingBy_0 : decode cX0_slippingBy 0 = .ok (.iconst 0, 1) := by decide +kernel
theorem dX0_slippingBy_1 : decode cX0_slippingBy 1 = .ok (.istore_n 3, 1) := by decide +kernel
theorem dX0_slippingBy_2 : decode cX0_slippingBy 2 = .ok (.iconst 0, 1) := by decide +kernel
theorem dX0_slippingBy_3 : decode cX0_slippingBy 3 = .ok (.istore 4, 2) := by decide +kernel
theorem dX0_slippingBy_5 : decode cX0_slippingBy 5 = .ok (.iload 4, 2) := by decide +kernel
theorem dX0_slippingBy_7 : decode cX0_slippingBy 7 = .ok (.aload_n 0, 1) := by decide +kernel
theorem dX0_slippingBy_8 : decode cX0_slippingBy 8 = .ok (.getfield 9, 3) := by decide +kernel
theorem dX0_slippingBy_11 : decode cX0_slippingBy 11 = .ok (.if_icmp .ge 27, 3) := by decide +kernel
theorem dX0_slippingBy_14 : decode cX0_slippingBy 14 = .ok (.aload_n 0, 1) := by decide +kernel
theorem dX0_slippingBy_15 : decode cX0_slippingBy 15 = .ok (.iload 4, 2) := by decide +kernel
theorem dX0_slippingBy_17 : decode cX0_slippingBy 17 = .ok (.iload_n 2, 1) := by decide +kernel
theorem dX0_slippingBy_18 : decode cX0_slippingBy 18 = .ok (.invokevirtual 77, 3) := by decide +kernel
theorem dX0_slippingBy_21 : decode cX0_slippingBy 21 = .ok (.iload_n 1, 1) := by decide +kernel
theorem dX0_slippingBy_22 : decode cX0_slippingBy 22 = .ok (.if_icmp .lt 10, 3) := by decide +kernel
theorem dX0_slippingBy_25 : decode cX0_slippingBy 25 = .ok (.iload_n 3, 1) := by decide +kernel
theorem dX0_slippingBy_26 : decode cX0_slippingBy 26 = .ok (.iconst 1, 1) := by decide +kernel
theorem dX0_slippingBy_27 : decode cX0_slippingBy 27 = .ok (.iload 4, 2) := by decide +kernel
theorem dX0_slippingBy_29 : decode cX0_slippingBy 29 = .ok (.ishl, 1) := by decide +kernel
theorem dX0_slippingBy_30 : decode cX0_slippingBy 30 = .ok (.ior, 1) := by decide +kernel
theorem dX0_slippingBy_31 : decode cX0_slippingBy 31 = .ok (.istore_n 3, 1) := by decide +kernel
theorem dX0_slippingBy_32 : decode cX0_slippingBy 32 = .ok (.iinc 4 1, 3) := by decide +kernel
theorem dX0_slippingBy_35 : decode cX0_slippingBy 35 = .ok (.goto (-30), 3) := by decide +kernel
theorem dX0_slippingBy_38 : decode cX0_slippingBy 38 = .ok (.iload_n 3, 1) := by decide +kernel
theorem dX0_slippingBy_39 : decode cX0_slippingBy 39 = .ok (.ireturn, 1) := by decide +kernel
theorem dX0_kindsSlippingBy_0 : decode cX0_kindsSlippingBy 0 = .ok (.iconst 0, 1) := by decide +kernel
theorem dX0_kindsSlippingBy_1 : decode cX0_kindsSlippingBy 1 = .ok (.istore 4, 2) := by decide +kernel
theorem dX0_kindsSlippingBy_3 : decode cX0_kindsSlippingBy 3 = .ok (.iconst 0, 1) := by decide +kernel
theorem dX0_kindsSlippingBy_4 : decode cX0_kindsSlippingBy 4 = .ok (.istore 5, 2) := by decide +kernel
theorem dX0_kindsSlippingBy_6 : decode cX0_kindsSlippingBy 6 = .ok (.iload 5, 2) := by decide +kernel
theorem dX0_kindsSlippingBy_8 : decode cX0_kindsSlippingBy 8 = .ok (.iconst 5, 1) := by decide +kernel
theorem dX0_kindsSlippingBy_9 : decode cX0_kindsSlippingBy 9 = .ok (.if_icmp .gt 30, 3) := by decide +kernel
theorem dX0_kindsSlippingBy_12 : decode cX0_kindsSlippingBy 12 = .ok (.aload_n 0, 1) := by decide +kernel
theorem dX0_kindsSlippingBy_13 : decode cX0_kindsSlippingBy 13 = .ok (.iload 5, 2) := by decide +kernel
theorem dX0_kindsSlippingBy_15 : decode cX0_kindsSlippingBy 15 = .ok (.iload_n 1, 1) := by decide +kernel
theorem dX0_kindsSlippingBy_16 : decode cX0_kindsSlippingBy 16 = .ok (.iload_n 3, 1) := by decide +kernel
theorem dX0_kindsSlippingBy_17 : decode cX0_kindsSlippingBy 17 = .ok (.invokevirtual 72, 3) := by decide +kernel
theorem dX0_kindsSlippingBy_20 : decode cX0_kindsSlippingBy 20 = .ok (.iload_n 2, 1) := by decide +kernel
theorem dX0_kindsSlippingBy_21 : decode cX0_kindsSlippingBy 21 = .ok (.if_icmp .ne 12, 3) := by decide +kernel
theorem dX0_kindsSlippingBy_24 : decode cX0_kindsSlippingBy 24 = .ok (.iload 4, 2) := by decide +kernel
theorem dX0_kindsSlippingBy_26 : decode cX0_kindsSlippingBy 26 = .ok (.iconst 1, 1) := by decide +kernel
theorem dX0_kindsSlippingBy_27 : decode cX0_kindsSlippingBy 27 = .ok (.iload 5, 2) := by decide +kernel
theorem dX0_kindsSlippingBy_29 : decode cX0_kindsSlippingBy 29 = .ok (.ishl, 1) := by decide +kernel
theorem dX0_kindsSlippingBy_30 : decode cX0_kindsSlippingBy 30 = .ok (.ior, 1) := by decide +kernel
theorem dX0_kindsSlippingBy_31 : decode cX0_kindsSlippingBy 31 = .ok (.istore 4, 2) := by decide +kernel
theorem dX0_kindsSlippingBy_33 : decode cX0_kindsSlippingBy 33 = .ok (.iinc 5 1, 3) := by decide +kernel
theorem dX0_kindsSlippingBy_36 : decode cX0_kindsSlippingBy 36 = .ok (.goto (-30), 3) := by decide +kernel
theorem dX0_kindsSlippingBy_39 : decode cX0_kindsSlippingBy 39 = .ok (.iload 4, 2) := by decide +kernel
theorem dX0_kindsSlippingBy_41 : decode cX0_kindsSlippingBy 41 = .ok (.ireturn, 1) := by decide +kernel
theorem dX0_bestCrew_0 : decode cX0_bestCrew 0 = .ok (.iconst (-1), 1) := by decide +kernel
theorem dX0_bestCrew_1 : decode cX0_bestCrew 1 = .ok (.istore_n 3, 1) := by decide +kernel
theorem dX0_bestCrew_2 : decode cX0_bestCrew 2 = .ok (.iconst (-1), 1) := by decide +kernel
theorem dX0_bestCrew_3 : decode cX0_bestCrew 3 = .ok (.istore 4, 2) := by decide +kernel
theorem dX0_bestCrew_5 : decode cX0_bestCrew 5 = .ok (.iconst 0, 1) := by decide +kernel
theorem dX0_bestCrew_6 : decode cX0_bestCrew 6 = .ok (.istore 5, 2) := by decide +kernel
theorem dX0_bestCrew_8 : decode cX0_bestCrew 8 = .ok (.iload 5, 2) := by decide +kernel
theorem dX0_bestCrew_10 : decode cX0_bestCrew 10 = .ok (.aload_n 0, 1) := by decide +kernel
theorem dX0_bestCrew_11 : decode cX0_bestCrew 11 = .ok (.invokevirtual 31, 3) := by decide +kernel
theorem dX0_bestCrew_14 : decode cX0_bestCrew 14 = .ok (.if_icmp .gt 41, 3) := by decide +kernel
theorem dX0_bestCrew_17 : decode cX0_bestCrew 17 = .ok (.iload 5, 2) := by decide +kernel
theorem dX0_bestCrew_19 : decode cX0_bestCrew 19 = .ok (.invokestatic 83, 3) := by decide +kernel
theorem dX0_bestCrew_22 : decode cX0_bestCrew 22 = .ok (.iload_n 1, 1) := by decide +kernel
theorem dX0_bestCrew_23 : decode cX0_bestCrew 23 = .ok (.if_icmp .ne 26, 3) := by decide +kernel
theorem dX0_bestCrew_26 : decode cX0_bestCrew 26 = .ok (.aload_n 0, 1) := by decide +kernel
theorem dX0_bestCrew_27 : decode cX0_bestCrew 27 = .ok (.iload 5, 2) := by decide +kernel
theorem dX0_bestCrew_29 : decode cX0_bestCrew 29 = .ok (.iload_n 2, 1) := by decide +kernel
theorem dX0_bestCrew_30 : decode cX0_bestCrew 30 = .ok (.invokevirtual 80, 3) := by decide +kernel
theorem dX0_bestCrew_33 : decode cX0_bestCrew 33 = .ok (.istore 6, 2) := by decide +kernel
theorem dX0_bestCrew_35 : decode cX0_bestCrew 35 = .ok (.iload 6, 2) := by decide +kernel
theorem dX0_bestCrew_37 : decode cX0_bestCrew 37 = .ok (.iload 4, 2) := by decide +kernel
theorem dX0_bestCrew_39 : decode cX0_bestCrew 39 = .ok (.if_icmp .le 10, 3) := by decide +kernel
theorem dX0_bestCrew_42 : decode cX0_bestCrew 42 = .ok (.iload 5, 2) := by decide +kernel
theorem dX0_bestCrew_44 : decode cX0_bestCrew 44 = .ok (.istore_n 3, 1) := by decide +kernel
theorem dX0_bestCrew_45 : decode cX0_bestCrew 45 = .ok (.iload 6, 2) := by decide +kernel
theorem dX0_bestCrew_47 : decode cX0_bestCrew 47 = .ok (.istore 4, 2) := by decide +kernel
theorem dX0_bestCrew_49 : decode cX0_bestCrew 49 = .ok (.iinc 5 1, 3) := by decide +kernel
theorem dX0_bestCrew_52 : decode cX0_bestCrew 52 = .ok (.goto (-44), 3) := by decide +kernel
theorem dX0_bestCrew_55 : decode cX0_bestCrew 55 = .ok (.iload_n 3, 1) := by decide +kernel
theorem dX0_bestCrew_56 : decode cX0_bestCrew 56 = .ok (.ireturn, 1) := by decide +kernel
theorem dX0_countOfKind_0 : decode cX0_countOfKind 0 = .ok (.iconst 0, 1) := by decide +kernel
theorem dX0_countOfKind_1 : decode cX0_countOfKind 1 = .ok (.istore_n 2, 1) := by decide +kernel
theorem dX0_countOfKind_2 : decode cX0_countOfKind 2 = .ok (.iconst 0, 1) := by decide +kernel
theorem dX0_countOfKind_3 : decode cX0_countOfKind 3 = .ok (.istore_n 3, 1) := by decide +kernel
theorem dX0_countOfKind_4 : decode cX0_countOfKind 4 = .ok (.iload_n 3, 1) := by decide +kernel
theorem dX0_countOfKind_5 : decode cX0_countOfKind 5 = .ok (.aload_n 0, 1) := by decide +kernel
theorem dX0_countOfKind_6 : decode cX0_countOfKind 6 = .ok (.getfield 9, 3) := by decide +kernel
theorem dX0_countOfKind_9 : decode cX0_countOfKind 9 = .ok (.if_icmp .ge 21, 3) := by decide +kernel
theorem dX0_countOfKind_12 : decode cX0_countOfKind 12 = .ok (.aload_n 0, 1) := by decide +kernel
theorem dX0_countOfKind_13 : decode cX0_countOfKind 13 = .ok (.iload_n 3, 1) := by decide +kernel
theorem dX0_countOfKind_14 : decode cX0_countOfKind 14 = .ok (.invokevirtual 69, 3) := by decide +kernel
theorem dX0_countOfKind_17 : decode cX0_countOfKind 17 = .ok (.iload_n 1, 1) := by decide +kernel
theorem dX0_countOfKind_18 : decode cX0_countOfKind 18 = .ok (.if_icmp .ne 6, 3) := by decide +kernel
theorem dX0_countOfKind_21 : decode cX0_countOfKind 21 = .ok (.iinc 2 1, 3) := by decide +kernel
theorem dX0_countOfKind_24 : decode cX0_countOfKind 24 = .ok (.iinc 3 1, 3) := by decide +kernel
theorem dX0_countOfKind_27 : decode cX0_countOfKind 27 = .ok (.goto (-23), 3) := by decide +kernel
theorem dX0_countOfKind_30 : decode cX0_countOfKind 30 = .ok (.iload_n 2, 1) := by decide +kernel
theorem dX0_countOfKind_31 : decode cX0_countOfKind 31 = .ok (.ireturn, 1) := by decide +kernel
theorem dX1_isFewer_0 : decode cX1_isFewer 0 = .ok (.iload_n 1, 1) := by decide +kernel
theorem dX1_isFewer_1 : decode cX1_isFewer 1 = .ok (.iconst (-1), 1) := by decide +kernel
theorem dX1_isFewer_2 : decode cX1_isFewer 2 = .ok (.if_icmp .eq 14, 3) := by decide +kernel
theorem dX1_isFewer_5 : decode cX1_isFewer 5 = .ok (.iload_n 0, 1) := by decide +kernel
theorem dX1_isFewer_6 : decode cX1_isFewer 6 = .ok (.invokestatic 9, 3) := by decide +kernel
theorem dX1_isFewer_9 : decode cX1_isFewer 9 = .ok (.iload_n 1, 1) := by decide +kernel
theorem dX1_isFewer_10 : decode cX1_isFewer 10 = .ok (.invokestatic 9, 3) := by decide +kernel
theorem dX1_isFewer_13 : decode cX1_isFewer 13 = .ok (.if_icmp .ge 7, 3) := by decide +kernel
theorem dX1_isFewer_16 : decode cX1_isFewer 16 = .ok (.iconst 1, 1) := by decide +kernel
theorem dX1_isFewer_17 : decode cX1_isFewer 17 = .ok (.goto 4, 3) := by decide +kernel
theorem dX1_isFewer_20 : decode cX1_isFewer 20 = .ok (.iconst 0, 1) := by decide +kernel
theorem dX1_isFewer_21 : decode cX1_isFewer 21 = .ok (.ireturn, 1) := by decide +kernel
theorem dX1_leastLeaving_0 : decode cX1_leastLeaving 0 = .ok (.iconst (-1), 1) := by decide +kernel
theorem dX1_leastLeaving_1 : decode cX1_leastLeaving 1 = .ok (.istore_n 2, 1) := by decide +kernel
theorem dX1_leastLeaving_2 : decode cX1_leastLeaving 2 = .ok (.iconst 0, 1) := by decide +kernel
theorem dX1_leastLeaving_3 : decode cX1_leastLeaving 3 = .ok (.istore_n 3, 1) := by decide +kernel
theorem dX1_leastLeaving_4 : decode cX1_leastLeaving 4 = .ok (.iload_n 3, 1) := by decide +kernel
theorem dX1_leastLeaving_5 : decode cX1_leastLeaving 5 = .ok (.aload_n 0, 1) := by decide +kernel
theorem dX1_leastLeaving_6 : decode cX1_leastLeaving 6 = .ok (.getfield 15, 3) := by decide +kernel
theorem dX1_leastLeaving_9 : decode cX1_leastLeaving 9 = .ok (.if_icmp .gt 46, 3) := by decide +kernel
theorem dX1_leastLeaving_12 : decode cX1_leastLeaving 12 = .ok (.iload_n 3, 1) := by decide +kernel
theorem dX1_leastLeaving_13 : decode cX1_leastLeaving 13 = .ok (.aload_n 0, 1) := by decide +kernel
theorem dX1_leastLeaving_14 : decode cX1_leastLeaving 14 = .ok (.getfield 15, 3) := by decide +kernel
theorem dX1_leastLeaving_17 : decode cX1_leastLeaving 17 = .ok (.iconst (-1), 1) := by decide +kernel
theorem dX1_leastLeaving_18 : decode cX1_leastLeaving 18 = .ok (.ixor, 1) := by decide +kernel
theorem dX1_leastLeaving_19 : decode cX1_leastLeaving 19 = .ok (.iand, 1) := by decide +kernel
theorem dX1_leastLeaving_20 : decode cX1_leastLeaving 20 = .ok (.ifCond .ne 29, 3) := by decide +kernel
theorem dX1_leastLeaving_23 : decode cX1_leastLeaving 23 = .ok (.iload_n 3, 1) := by decide +kernel
theorem dX1_leastLeaving_24 : decode cX1_leastLeaving 24 = .ok (.iload_n 2, 1) := by decide +kernel
theorem dX1_leastLeaving_25 : decode cX1_leastLeaving 25 = .ok (.invokestatic 21, 3) := by decide +kernel
theorem dX1_leastLeaving_28 : decode cX1_leastLeaving 28 = .ok (.ifCond .eq 21, 3) := by decide +kernel
theorem dX1_leastLeaving_31 : decode cX1_leastLeaving 31 = .ok (.aload_n 0, 1) := by decide +kernel
theorem dX1_leastLeaving_32 : decode cX1_leastLeaving 32 = .ok (.aload_n 0, 1) := by decide +kernel
theorem dX1_leastLeaving_33 : decode cX1_leastLeaving 33 = .ok (.getfield 15, 3) := by decide +kernel
theorem dX1_leastLeaving_36 : decode cX1_leastLeaving 36 = .ok (.iload_n 3, 1) := by decide +kernel
theorem dX1_leastLeaving_37 : decode cX1_leastLeaving 37 = .ok (.iconst (-1), 1) := by decide +kernel
theorem dX1_leastLeaving_38 : decode cX1_leastLeaving 38 = .ok (.ixor, 1) := by decide +kernel
theorem dX1_leastLeaving_39 : decode cX1_leastLeaving 39 = .ok (.iand, 1) := by decide +kernel
theorem dX1_leastLeaving_40 : decode cX1_leastLeaving 40 = .ok (.invokevirtual 27, 3) := by decide +kernel
theorem dX1_leastLeaving_43 : decode cX1_leastLeaving 43 = .ok (.iload_n 1, 1) := by decide +kernel
theorem dX1_leastLeaving_44 : decode cX1_leastLeaving 44 = .ok (.if_icmp .ne 5, 3) := by decide +kernel
theorem dX1_leastLeaving_47 : decode cX1_leastLeaving 47 = .ok (.iload_n 3, 1) := by decide +kernel
theorem dX1_leastLeaving_48 : decode cX1_leastLeaving 48 = .ok (.istore_n 2, 1) := by decide +kernel
theorem dX1_leastLeaving_49 : decode cX1_leastLeaving 49 = .ok (.iinc 3 1, 3) := by decide +kernel
theorem dX1_leastLeaving_52 : decode cX1_leastLeaving 52 = .ok (.goto (-48), 3) := by decide +kernel
theorem dX1_leastLeaving_55 : decode cX1_leastLeaving 55 = .ok (.iload_n 2, 1) := by decide +kernel
theorem dX1_leastLeaving_56 : decode cX1_leastLeaving 56 = .ok (.ireturn, 1) := by decide +kernel
theorem dX1_leastUnsaying_0 : decode cX1_leastUnsaying 0 = .ok (.iconst (-1), 1) := by decide +kernel
theorem dX1_leastUnsaying_1 : decode cX1_leastUnsaying 1 = .ok (.istore_n 2, 1) := by decide +kernel
theorem dX1_leastUnsaying_2 : decode cX1_leastUnsaying 2 = .ok (.iconst (-1), 1) := by decide +kernel
theorem dX1_leastUnsaying_3 : decode cX1_leastUnsaying 3 = .ok (.istore_n 3, 1) := by decide +kernel
theorem dX1_leastUnsaying_4 : decode cX1_leastUnsaying 4 = .ok (.iconst 0, 1) := by decide +kernel
theorem dX1_leastUnsaying_5 : decode cX1_leastUnsaying 5 = .ok (.istore 4, 2) := by decide +kernel
theorem dX1_leastUnsaying_7 : decode cX1_leastUnsaying 7 = .ok (.iload 4, 2) := by decide +kernel
theorem dX1_leastUnsaying_9 : decode cX1_leastUnsaying 9 = .ok (.aload_n 0, 1) := by decide +kernel
theorem dX1_leastUnsaying_10 : decode cX1_leastUnsaying 10 = .ok (.getfield 15, 3) := by decide +kernel
theorem dX1_leastUnsaying_13 : decode cX1_leastUnsaying 13 = .ok (.if_icmp .gt 92, 3) := by decide +kernel
theorem dX1_leastUnsaying_16 : decode cX1_leastUnsaying 16 = .ok (.iload 4, 2) := by decide +kernel
theorem dX1_leastUnsaying_18 : decode cX1_leastUnsaying 18 = .ok (.aload_n 0, 1) := by decide +kernel
theorem dX1_leastUnsaying_19 : decode cX1_leastUnsaying 19 = .ok (.getfield 15, 3) := by decide +kernel
theorem dX1_leastUnsaying_22 : decode cX1_leastUnsaying 22 = .ok (.iconst (-1), 1) := by decide +kernel
theorem dX1_leastUnsaying_23 : decode cX1_leastUnsaying 23 = .ok (.ixor, 1) := by decide +kernel
theorem dX1_leastUnsaying_24 : decode cX1_leastUnsaying 24 = .ok (.iand, 1) := by decide +kernel
theorem dX1_leastUnsaying_25 : decode cX1_leastUnsaying 25 = .ok (.ifCond .eq 6, 3) := by decide +kernel
theorem dX1_leastUnsaying_28 : decode cX1_leastUnsaying 28 = .ok (.goto 71, 3) := by decide +kernel
theorem dX1_leastUnsaying_31 : decode cX1_leastUnsaying 31 = .ok (.aload_n 0, 1) := by decide +kernel
theorem dX1_leastUnsaying_32 : decode cX1_leastUnsaying 32 = .ok (.aload_n 0, 1) := by decide +kernel
theorem dX1_leastUnsaying_33 : decode cX1_leastUnsaying 33 = .ok (.getfield 15, 3) := by decide +kernel
theorem dX1_leastUnsaying_36 : decode cX1_leastUnsaying 36 = .ok (.iload 4, 2) := by decide +kernel
theorem dX1_leastUnsaying_38 : decode cX1_leastUnsaying 38 = .ok (.iconst (-1), 1) := by decide +kernel
theorem dX1_leastUnsaying_39 : decode cX1_leastUnsaying 39 = .ok (.ixor, 1) := by decide +kernel
theorem dX1_leastUnsaying_40 : decode cX1_leastUnsaying 40 = .ok (.iand, 1) := by decide +kernel
theorem dX1_leastUnsaying_41 : decode cX1_leastUnsaying 41 = .ok (.invokevirtual 27, 3) := by decide +kernel
theorem dX1_leastUnsaying_44 : decode cX1_leastUnsaying 44 = .ok (.istore 5, 2) := by decide +kernel
theorem dX1_leastUnsaying_46 : decode cX1_leastUnsaying 46 = .ok (.iload 5, 2) := by decide +kernel
theorem dX1_leastUnsaying_48 : decode cX1_leastUnsaying 48 = .ok (.invokestatic 9, 3) := by decide +kernel
theorem dX1_leastUnsaying_51 : decode cX1_leastUnsaying 51 = .ok (.istore 6, 2) := by decide +kernel
theorem dX1_leastUnsaying_53 : decode cX1_leastUnsaying 53 = .ok (.iload 6, 2) := by decide +kernel
theorem dX1_leastUnsaying_55 : decode cX1_leastUnsaying 55 = .ok (.iload_n 3, 1) := by decide +kernel
theorem dX1_leastUnsaying_56 : decode cX1_leastUnsaying 56 = .ok (.if_icmp .gt 18, 3) := by decide +kernel
theorem dX1_leastUnsaying_59 : decode cX1_leastUnsaying 59 = .ok (.iload 6, 2) := by decide +kernel
theorem dX1_leastUnsaying_61 : decode cX1_leastUnsaying 61 = .ok (.iload_n 3, 1) := by decide +kernel
theorem dX1_leastUnsaying_62 : decode cX1_leastUnsaying 62 = .ok (.if_icmp .ne 16, 3) := by decide +kernel
theorem dX1_leastUnsaying_65 : decode cX1_leastUnsaying 65 = .ok (.iload 4, 2) := by decide +kernel
theorem dX1_leastUnsaying_67 : decode cX1_leastUnsaying 67 = .ok (.iload_n 2, 1) := by decide +kernel
theorem dX1_leastUnsaying_68 : decode cX1_leastUnsaying 68 = .ok (.invokestatic 21, 3) := by decide +kernel
theorem dX1_leastUnsaying_71 : decode cX1_leastUnsaying 71 = .ok (.ifCond .eq 7, 3) := by decide +kernel
theorem dX1_leastUnsaying_74 : decode cX1_leastUnsaying 74 = .ok (.iconst 1, 1) := by decide +kernel
theorem dX1_leastUnsaying_75 : decode cX1_leastUnsaying 75 = .ok (.goto 4, 3) := by decide +kernel
theorem dX1_leastUnsaying_78 : decode cX1_leastUnsaying 78 = .ok (.iconst 0, 1) := by decide +kernel
theorem dX1_leastUnsaying_79 : decode cX1_leastUnsaying 79 = .ok (.istore 7, 2) := by decide +kernel
theorem dX1_leastUnsaying_81 : decode cX1_leastUnsaying 81 = .ok (.iload 5, 2) := by decide +kernel
theorem dX1_leastUnsaying_83 : decode cX1_leastUnsaying 83 = .ok (.iload_n 1, 1) := by decide +kernel
theorem dX1_leastUnsaying_84 : decode cX1_leastUnsaying 84 = .ok (.iand, 1) := by decide +kernel
theorem dX1_leastUnsaying_85 : decode cX1_leastUnsaying 85 = .ok (.ifCond .ne 14, 3) := by decide +kernel
theorem dX1_leastUnsaying_88 : decode cX1_leastUnsaying 88 = .ok (.iload 7, 2) := by decide +kernel
theorem dX1_leastUnsaying_90 : decode cX1_leastUnsaying 90 = .ok (.ifCond .eq 9, 3) := by decide +kernel
theorem dX1_leastUnsaying_93 : decode cX1_leastUnsaying 93 = .ok (.iload 4, 2) := by decide +kernel
theorem dX1_leastUnsaying_95 : decode cX1_leastUnsaying 95 = .ok (.istore_n 2, 1) := by decide +kernel
theorem dX1_leastUnsaying_96 : decode cX1_leastUnsaying 96 = .ok (.iload 6, 2) := by decide +kernel
theorem dX1_leastUnsaying_98 : decode cX1_leastUnsaying 98 = .ok (.istore_n 3, 1) := by decide +kernel
theorem dX1_leastUnsaying_99 : decode cX1_leastUnsaying 99 = .ok (.iinc 4 1, 3) := by decide +kernel
theorem dX1_leastUnsaying_102 : decode cX1_leastUnsaying 102 = .ok (.goto (-95), 3) := by decide +kernel
theorem dX1_leastUnsaying_105 : decode cX1_leastUnsaying 105 = .ok (.iload_n 2, 1) := by decide +kernel
theorem dX1_leastUnsaying_106 : decode cX1_leastUnsaying 106 = .ok (.ireturn, 1) := by decide +kernel
theorem dX1_leastUnder_0 : decode cX1_leastUnder 0 = .ok (.iconst (-1), 1) := by decide +kernel
theorem dX1_leastUnder_1 : decode cX1_leastUnder 1 = .ok (.istore_n 2, 1) := by decide +kernel
theorem dX1_leastUnder_2 : decode cX1_leastUnder 2 = .ok (.iconst 0, 1) := by decide +kernel
theorem dX1_leastUnder_3 : decode cX1_leastUnder 3 = .ok (.istore_n 3, 1) := by decide +kernel
theorem dX1_leastUnder_4 : decode cX1_leastUnder 4 = .ok (.iload_n 3, 1) := by decide +kernel
theorem dX1_leastUnder_5 : decode cX1_leastUnder 5 = .ok (.aload_n 0, 1) := by decide +kernel
theorem dX1_leastUnder_6 : decode cX1_leastUnder 6 = .ok (.getfield 15, 3) := by decide +kernel
theorem dX1_leastUnder_9 : decode cX1_leastUnder 9 = .ok (.if_icmp .gt 46, 3) := by decide +kernel
theorem dX1_leastUnder_12 : decode cX1_leastUnder 12 = .ok (.iload_n 3, 1) := by decide +kernel
theorem dX1_leastUnder_13 : decode cX1_leastUnder 13 = .ok (.aload_n 0, 1) := by decide +kernel
theorem dX1_leastUnder_14 : decode cX1_leastUnder 14 = .ok (.getfield 15, 3) := by decide +kernel
theorem dX1_leastUnder_17 : decode cX1_leastUnder 17 = .ok (.iconst (-1), 1) := by decide +kernel
theorem dX1_leastUnder_18 : decode cX1_leastUnder 18 = .ok (.ixor, 1) := by decide +kernel
theorem dX1_leastUnder_19 : decode cX1_leastUnder 19 = .ok (.iand, 1) := by decide +kernel
theorem dX1_leastUnder_20 : decode cX1_leastUnder 20 = .ok (.ifCond .ne 29, 3) := by decide +kernel
theorem dX1_leastUnder_23 : decode cX1_leastUnder 23 = .ok (.iload_n 3, 1) := by decide +kernel
theorem dX1_leastUnder_24 : decode cX1_leastUnder 24 = .ok (.iload_n 2, 1) := by decide +kernel
theorem dX1_leastUnder_25 : decode cX1_leastUnder 25 = .ok (.invokestatic 21, 3) := by decide +kernel
theorem dX1_leastUnder_28 : decode cX1_leastUnder 28 = .ok (.ifCond .eq 21, 3) := by decide +kernel
theorem dX1_leastUnder_31 : decode cX1_leastUnder 31 = .ok (.aload_n 0, 1) := by decide +kernel
theorem dX1_leastUnder_32 : decode cX1_leastUnder 32 = .ok (.aload_n 0, 1) := by decide +kernel
theorem dX1_leastUnder_33 : decode cX1_leastUnder 33 = .ok (.getfield 15, 3) := by decide +kernel
theorem dX1_leastUnder_36 : decode cX1_leastUnder 36 = .ok (.iload_n 3, 1) := by decide +kernel
theorem dX1_leastUnder_37 : decode cX1_leastUnder 37 = .ok (.iconst (-1), 1) := by decide +kernel
theorem dX1_leastUnder_38 : decode cX1_leastUnder 38 = .ok (.ixor, 1) := by decide +kernel
theorem dX1_leastUnder_39 : decode cX1_leastUnder 39 = .ok (.iand, 1) := by decide +kernel
theorem dX1_leastUnder_40 : decode cX1_leastUnder 40 = .ok (.invokevirtual 30, 3) := by decide +kernel
theorem dX1_leastUnder_43 : decode cX1_leastUnder 43 = .ok (.iload_n 1, 1) := by decide +kernel
theorem dX1_leastUnder_44 : decode cX1_leastUnder 44 = .ok (.if_icmp .gt 5, 3) := by decide +kernel
theorem dX1_leastUnder_47 : decode cX1_leastUnder 47 = .ok (.iload_n 3, 1) := by decide +kernel
theorem dX1_leastUnder_48 : decode cX1_leastUnder 48 = .ok (.istore_n 2, 1) := by decide +kernel
theorem dX1_leastUnder_49 : decode cX1_leastUnder 49 = .ok (.iinc 3 1, 3) := by decide +kernel
theorem dX1_leastUnder_52 : decode cX1_leastUnder 52 = .ok (.goto (-48), 3) := by decide +kernel
theorem dX1_leastUnder_55 : decode cX1_leastUnder 55 = .ok (.iload_n 2, 1) := by decide +kernel
theorem dX1_leastUnder_56 : decode cX1_leastUnder 56 = .ok (.ireturn, 1) := by decide +kernel
theorem dX1_countLeaving_0 : decode cX1_countLeaving 0 = .ok (.iconst 0, 1) := by decide +kernel
theorem dX1_countLeaving_1 : decode cX1_countLeaving 1 = .ok (.istore_n 2, 1) := by decide +kernel
theorem dX1_countLeaving_2 : decode cX1_countLeaving 2 = .ok (.iconst 0, 1) := by decide +kernel
theorem dX1_countLeaving_3 : decode cX1_countLeaving 3 = .ok (.istore_n 3, 1) := by decide +kernel
theorem dX1_countLeaving_4 : decode cX1_countLeaving 4 = .ok (.iload_n 3, 1) := by decide +kernel
theorem dX1_countLeaving_5 : decode cX1_countLeaving 5 = .ok (.aload_n 0, 1) := by decide +kernel
theorem dX1_countLeaving_6 : decode cX1_countLeaving 6 = .ok (.invokevirtual 33, 3) := by decide +kernel
theorem dX1_countLeaving_9 : decode cX1_countLeaving 9 = .ok (.if_icmp .gt 21, 3) := by decide +kernel
theorem dX1_countLeaving_12 : decode cX1_countLeaving 12 = .ok (.aload_n 0, 1) := by decide +kernel
theorem dX1_countLeaving_13 : decode cX1_countLeaving 13 = .ok (.iload_n 3, 1) := by decide +kernel
theorem dX1_countLeaving_14 : decode cX1_countLeaving 14 = .ok (.invokevirtual 27, 3) := by decide +kernel
theorem dX1_countLeaving_17 : decode cX1_countLeaving 17 = .ok (.iload_n 1, 1) := by decide +kernel
theorem dX1_countLeaving_18 : decode cX1_countLeaving 18 = .ok (.if_icmp .ne 6, 3) := by decide +kernel
theorem dX1_countLeaving_21 : decode cX1_countLeaving 21 = .ok (.iinc 2 1, 3) := by decide +kernel
theorem dX1_countLeaving_24 : decode cX1_countLeaving 24 = .ok (.iinc 3 1, 3) := by decide +kernel
theorem dX1_countLeaving_27 : decode cX1_countLeaving 27 = .ok (.goto (-23), 3) := by decide +kernel
theorem dX1_countLeaving_30 : decode cX1_countLeaving 30 = .ok (.iload_n 2, 1) := by decide +kernel
theorem dX1_countLeaving_31 : decode cX1_countLeaving 31 = .ok (.ireturn, 1) := by decide +kernel
theorem dX1_isRemembered_0 : decode cX1_isRemembered 0 = .ok (.iload_n 2, 1) := by decide +kernel
theorem dX1_isRemembered_1 : decode cX1_isRemembered 1 = .ok (.aload_n 0, 1) := by decide +kernel
theorem dX1_isRemembered_2 : decode cX1_isRemembered 2 = .ok (.getfield 15, 3) := by decide +kernel
theorem dX1_isRemembered_5 : decode cX1_isRemembered 5 = .ok (.iand, 1) := by decide +kernel
theorem dX1_isRemembered_6 : decode cX1_isRemembered 6 = .ok (.ifCond .ne 30, 3) := by decide +kernel
theorem dX1_isRemembered_9 : decode cX1_isRemembered 9 = .ok (.aload_n 0, 1) := by decide +kernel
theorem dX1_isRemembered_10 : decode cX1_isRemembered 10 = .ok (.aload_n 0, 1) := by decide +kernel
theorem dX1_isRemembered_11 : decode cX1_isRemembered 11 = .ok (.getfield 15, 3) := by decide +kernel
theorem dX1_isRemembered_14 : decode cX1_isRemembered 14 = .ok (.iload_n 2, 1) := by decide +kernel
theorem dX1_isRemembered_15 : decode cX1_isRemembered 15 = .ok (.ior, 1) := by decide +kernel
theorem dX1_isRemembered_16 : decode cX1_isRemembered 16 = .ok (.invokevirtual 27, 3) := by decide +kernel
theorem dX1_isRemembered_19 : decode cX1_isRemembered 19 = .ok (.aload_n 0, 1) := by decide +kernel
theorem dX1_isRemembered_20 : decode cX1_isRemembered 20 = .ok (.aload_n 0, 1) := by decide +kernel
theorem dX1_isRemembered_21 : decode cX1_isRemembered 21 = .ok (.getfield 15, 3) := by decide +kernel
theorem dX1_isRemembered_24 : decode cX1_isRemembered 24 = .ok (.invokevirtual 27, 3) := by decide +kernel
theorem dX1_isRemembered_27 : decode cX1_isRemembered 27 = .ok (.iload_n 1, 1) := by decide +kernel
theorem dX1_isRemembered_28 : decode cX1_isRemembered 28 = .ok (.ior, 1) := by decide +kernel
theorem dX1_isRemembered_29 : decode cX1_isRemembered 29 = .ok (.if_icmp .ne 7, 3) := by decide +kernel
theorem dX1_isRemembered_32 : decode cX1_isRemembered 32 = .ok (.iconst 1, 1) := by decide +kernel
theorem dX1_isRemembered_33 : decode cX1_isRemembered 33 = .ok (.goto 4, 3) := by decide +kernel
theorem dX1_isRemembered_36 : decode cX1_isRemembered 36 = .ok (.iconst 0, 1) := by decide +kernel
theorem dX1_isRemembered_37 : decode cX1_isRemembered 37 = .ok (.ireturn, 1) := by decide +kernel
theorem dX1_countRemembered_0 : decode cX1_countRemembered 0 = .ok (.iconst 0, 1) := by decide +kernel
theorem dX1_countRemembered_1 : decode cX1_countRemembered 1 = .ok (.istore_n 2, 1) := by decide +kernel
theorem dX1_countRemembered_2 : decode cX1_countRemembered 2 = .ok (.iconst 0, 1) := by decide +kernel
theorem dX1_countRemembered_3 : decode cX1_countRemembered 3 = .ok (.istore_n 3, 1) := by decide +kernel
theorem dX1_countRemembered_4 : decode cX1_countRemembered 4 = .ok (.iload_n 3, 1) := by decide +kernel
theorem dX1_countRemembered_5 : decode cX1_countRemembered 5 = .ok (.aload_n 0, 1) := by decide +kernel
theorem dX1_countRemembered_6 : decode cX1_countRemembered 6 = .ok (.invokevirtual 33, 3) := by decide +kernel
theorem dX1_countRemembered_9 : decode cX1_countRemembered 9 = .ok (.if_icmp .gt 21, 3) := by decide +kernel
theorem dX1_countRemembered_12 : decode cX1_countRemembered 12 = .ok (.aload_n 0, 1) := by decide +kernel
theorem dX1_countRemembered_13 : decode cX1_countRemembered 13 = .ok (.iload_n 1, 1) := by decide +kernel
theorem dX1_countRemembered_14 : decode cX1_countRemembered 14 = .ok (.iload_n 3, 1) := by decide +kernel
theorem dX1_countRemembered_15 : decode cX1_countRemembered 15 = .ok (.invokestatic 37, 3) := by decide +kernel
theorem dX1_countRemembered_18 : decode cX1_countRemembered 18 = .ok (.ifCond .eq 6, 3) := by decide +kernel
theorem dX1_countRemembered_21 : decode cX1_countRemembered 21 = .ok (.iinc 2 1, 3) := by decide +kernel
theorem dX1_countRemembered_24 : decode cX1_countRemembered 24 = .ok (.iinc 3 1, 3) := by decide +kernel
theorem dX1_countRemembered_27 : decode cX1_countRemembered 27 = .ok (.goto (-23), 3) := by decide +kernel
theorem dX1_countRemembered_30 : decode cX1_countRemembered 30 = .ok (.iload_n 2, 1) := by decide +kernel
theorem dX1_countRemembered_31 : decode cX1_countRemembered 31 = .ok (.ireturn, 1) := by decide +kernel
theorem dX1_leastRemembered_0 : decode cX1_leastRemembered 0 = .ok (.iconst 0, 1) := by decide +kernel
theorem dX1_leastRemembered_1 : decode cX1_leastRemembered 1 = .ok (.istore_n 2, 1) := by decide +kernel
theorem dX1_leastRemembered_2 : decode cX1_leastRemembered 2 = .ok (.iload_n 2, 1) := by decide +kernel
theorem dX1_leastRemembered_3 : decode cX1_leastRemembered 3 = .ok (.aload_n 0, 1) := by decide +kernel
theorem dX1_leastRemembered_4 : decode cX1_leastRemembered 4 = .ok (.invokevirtual 33, 3) := by decide +kernel
theorem dX1_leastRemembered_7 : decode cX1_leastRemembered 7 = .ok (.if_icmp .gt 20, 3) := by decide +kernel
theorem dX1_leastRemembered_10 : decode cX1_leastRemembered 10 = .ok (.aload_n 0, 1) := by decide +kernel
theorem dX1_leastRemembered_11 : decode cX1_leastRemembered 11 = .ok (.iload_n 1, 1) := by decide +kernel
theorem dX1_leastRemembered_12 : decode cX1_leastRemembered 12 = .ok (.iload_n 2, 1) := by decide +kernel
theorem dX1_leastRemembered_13 : decode cX1_leastRemembered 13 = .ok (.invokestatic 37, 3) := by decide +kernel
theorem dX1_leastRemembered_16 : decode cX1_leastRemembered 16 = .ok (.ifCond .eq 5, 3) := by decide +kernel
theorem dX1_leastRemembered_19 : decode cX1_leastRemembered 19 = .ok (.iload_n 2, 1) := by decide +kernel
theorem dX1_leastRemembered_20 : decode cX1_leastRemembered 20 = .ok (.ireturn, 1) := by decide +kernel
theorem dX1_leastRemembered_21 : decode cX1_leastRemembered 21 = .ok (.iinc 2 1, 3) := by decide +kernel
theorem dX1_leastRemembered_24 : decode cX1_leastRemembered 24 = .ok (.goto (-22), 3) := by decide +kernel
theorem dX1_leastRemembered_27 : decode cX1_leastRemembered 27 = .ok (.iconst (-1), 1) := by decide +kernel
theorem dX1_leastRemembered_28 : decode cX1_leastRemembered 28 = .ok (.ireturn, 1) := by decide +kernel
theorem dX1_worstBack_0 : decode cX1_worstBack 0 = .ok (.iconst (-1), 1) := by decide +kernel
theorem dX1_worstBack_1 : decode cX1_worstBack 1 = .ok (.istore_n 2, 1) := by decide +kernel
theorem dX1_worstBack_2 : decode cX1_worstBack 2 = .ok (.iconst 0, 1) := by decide +kernel
theorem dX1_worstBack_3 : decode cX1_worstBack 3 = .ok (.istore_n 3, 1) := by decide +kernel
theorem dX1_worstBack_4 : decode cX1_worstBack 4 = .ok (.iconst 0, 1) := by decide +kernel
theorem dX1_worstBack_5 : decode cX1_worstBack 5 = .ok (.istore 4, 2) := by decide +kernel
theorem dX1_worstBack_7 : decode cX1_worstBack 7 = .ok (.iload 4, 2) := by decide +kernel
theorem dX1_worstBack_9 : decode cX1_worstBack 9 = .ok (.aload_n 0, 1) := by decide +kernel
theorem dX1_worstBack_10 : decode cX1_worstBack 10 = .ok (.getfield 41, 3) := by decide +kernel
theorem dX1_worstBack_13 : decode cX1_worstBack 13 = .ok (.if_icmp .ge 52, 3) := by decide +kernel
theorem dX1_worstBack_16 : decode cX1_worstBack 16 = .ok (.iload_n 1, 1) := by decide +kernel
theorem dX1_worstBack_17 : decode cX1_worstBack 17 = .ok (.iload 4, 2) := by decide +kernel
theorem dX1_worstBack_19 : decode cX1_worstBack 19 = .ok (.invokestatic 44, 3) := by decide +kernel
theorem dX1_worstBack_22 : decode cX1_worstBack 22 = .ok (.ifCond .eq 37, 3) := by decide +kernel
theorem dX1_worstBack_25 : decode cX1_worstBack 25 = .ok (.aload_n 0, 1) := by decide +kernel
theorem dX1_worstBack_26 : decode cX1_worstBack 26 = .ok (.aload_n 0, 1) := by decide +kernel
theorem dX1_worstBack_27 : decode cX1_worstBack 27 = .ok (.getfield 15, 3) := by decide +kernel
theorem dX1_worstBack_30 : decode cX1_worstBack 30 = .ok (.iconst 1, 1) := by decide +kernel
theorem dX1_worstBack_31 : decode cX1_worstBack 31 = .ok (.iload 4, 2) := by decide +kernel
theorem dX1_worstBack_33 : decode cX1_worstBack 33 = .ok (.ishl, 1) := by decide +kernel
theorem dX1_worstBack_34 : decode cX1_worstBack 34 = .ok (.iconst (-1), 1) := by decide +kernel
theorem dX1_worstBack_35 : decode cX1_worstBack 35 = .ok (.ixor, 1) := by decide +kernel
theorem dX1_worstBack_36 : decode cX1_worstBack 36 = .ok (.iand, 1) := by decide +kernel
theorem dX1_worstBack_37 : decode cX1_worstBack 37 = .ok (.invokevirtual 30, 3) := by decide +kernel
theorem dX1_worstBack_40 : decode cX1_worstBack 40 = .ok (.istore 5, 2) := by decide +kernel
theorem dX1_worstBack_42 : decode cX1_worstBack 42 = .ok (.iload_n 2, 1) := by decide +kernel
theorem dX1_worstBack_43 : decode cX1_worstBack 43 = .ok (.iconst (-1), 1) := by decide +kernel
theorem dX1_worstBack_44 : decode cX1_worstBack 44 = .ok (.if_icmp .eq 9, 3) := by decide +kernel
theorem dX1_worstBack_47 : decode cX1_worstBack 47 = .ok (.iload 5, 2) := by decide +kernel
theorem dX1_worstBack_49 : decode cX1_worstBack 49 = .ok (.iload_n 3, 1) := by decide +kernel
theorem dX1_worstBack_50 : decode cX1_worstBack 50 = .ok (.if_icmp .ge 9, 3) := by decide +kernel
theorem dX1_worstBack_53 : decode cX1_worstBack 53 = .ok (.iload 4, 2) := by decide +kernel
theorem dX1_worstBack_55 : decode cX1_worstBack 55 = .ok (.istore_n 2, 1) := by decide +kernel
theorem dX1_worstBack_56 : decode cX1_worstBack 56 = .ok (.iload 5, 2) := by decide +kernel
theorem dX1_worstBack_58 : decode cX1_worstBack 58 = .ok (.istore_n 3, 1) := by decide +kernel
theorem dX1_worstBack_59 : decode cX1_worstBack 59 = .ok (.iinc 4 1, 3) := by decide +kernel
theorem dX1_worstBack_62 : decode cX1_worstBack 62 = .ok (.goto (-55), 3) := by decide +kernel
theorem dX1_worstBack_65 : decode cX1_worstBack 65 = .ok (.iload_n 2, 1) := by decide +kernel
theorem dX1_worstBack_66 : decode cX1_worstBack 66 = .ok (.ireturn, 1) := by decide +kernel
theorem dX1_bestForwards_0 : decode cX1_bestForwards 0 = .ok (.iconst (-1), 1) := by decide +kernel
theorem dX1_bestForwards_1 : decode cX1_bestForwards 1 = .ok (.istore_n 1, 1) := by decide +kernel
theorem dX1_bestForwards_2 : decode cX1_bestForwards 2 = .ok (.iconst (-1), 1) := by decide +kernel
theorem dX1_bestForwards_3 : decode cX1_bestForwards 3 = .ok (.istore_n 2, 1) := by decide +kernel
theorem dX1_bestForwards_4 : decode cX1_bestForwards 4 = .ok (.iconst 0, 1) := by decide +kernel
theorem dX1_bestForwards_5 : decode cX1_bestForwards 5 = .ok (.istore_n 3, 1) := by decide +kernel
theorem dX1_bestForwards_6 : decode cX1_bestForwards 6 = .ok (.iload_n 3, 1) := by decide +kernel
theorem dX1_bestForwards_7 : decode cX1_bestForwards 7 = .ok (.aload_n 0, 1) := by decide +kernel
theorem dX1_bestForwards_8 : decode cX1_bestForwards 8 = .ok (.getfield 41, 3) := by decide +kernel
theorem dX1_bestForwards_11 : decode cX1_bestForwards 11 = .ok (.if_icmp .ge 45, 3) := by decide +kernel
theorem dX1_bestForwards_14 : decode cX1_bestForwards 14 = .ok (.aload_n 0, 1) := by decide +kernel
theorem dX1_bestForwards_15 : decode cX1_bestForwards 15 = .ok (.getfield 15, 3) := by decide +kernel
theorem dX1_bestForwards_18 : decode cX1_bestForwards 18 = .ok (.iload_n 3, 1) := by decide +kernel
theorem dX1_bestForwards_19 : decode cX1_bestForwards 19 = .ok (.invokestatic 44, 3) := by decide +kernel
theorem dX1_bestForwards_22 : decode cX1_bestForwards 22 = .ok (.ifCond .ne 28, 3) := by decide +kernel
theorem dX1_bestForwards_25 : decode cX1_bestForwards 25 = .ok (.aload_n 0, 1) := by decide +kernel
theorem dX1_bestForwards_26 : decode cX1_bestForwards 26 = .ok (.aload_n 0, 1) := by decide +kernel
theorem dX1_bestForwards_27 : decode cX1_bestForwards 27 = .ok (.getfield 15, 3) := by decide +kernel
theorem dX1_bestForwards_30 : decode cX1_bestForwards 30 = .ok (.iconst 1, 1) := by decide +kernel
theorem dX1_bestForwards_31 : decode cX1_bestForwards 31 = .ok (.iload_n 3, 1) := by decide +kernel
theorem dX1_bestForwards_32 : decode cX1_bestForwards 32 = .ok (.ishl, 1) := by decide +kernel
theorem dX1_bestForwards_33 : decode cX1_bestForwards 33 = .ok (.ior, 1) := by decide +kernel
theorem dX1_bestForwards_34 : decode cX1_bestForwards 34 = .ok (.invokevirtual 30, 3) := by decide +kernel
theorem dX1_bestForwards_37 : decode cX1_bestForwards 37 = .ok (.istore 4, 2) := by decide +kernel
theorem dX1_bestForwards_39 : decode cX1_bestForwards 39 = .ok (.iload 4, 2) := by decide +kernel
theorem dX1_bestForwards_41 : decode cX1_bestForwards 41 = .ok (.iload_n 2, 1) := by decide +kernel
theorem dX1_bestForwards_42 : decode cX1_bestForwards 42 = .ok (.if_icmp .le 8, 3) := by decide +kernel
theorem dX1_bestForwards_45 : decode cX1_bestForwards 45 = .ok (.iload_n 3, 1) := by decide +kernel
theorem dX1_bestForwards_46 : decode cX1_bestForwards 46 = .ok (.istore_n 1, 1) := by decide +kernel
theorem dX1_bestForwards_47 : decode cX1_bestForwards 47 = .ok (.iload 4, 2) := by decide +kernel
theorem dX1_bestForwards_49 : decode cX1_bestForwards 49 = .ok (.istore_n 2, 1) := by decide +kernel
theorem dX1_bestForwards_50 : decode cX1_bestForwards 50 = .ok (.iinc 3 1, 3) := by decide +kernel
theorem dX1_bestForwards_53 : decode cX1_bestForwards 53 = .ok (.goto (-47), 3) := by decide +kernel
theorem dX1_bestForwards_56 : decode cX1_bestForwards 56 = .ok (.iload_n 1, 1) := by decide +kernel
theorem dX1_bestForwards_57 : decode cX1_bestForwards 57 = .ok (.ireturn, 1) := by decide +kernel
theorem dX1_worstPair_0 : decode cX1_worstPair 0 = .ok (.iconst (-1), 1) := by decide +kernel
theorem dX1_worstPair_1 : decode cX1_worstPair 1 = .ok (.istore_n 1, 1) := by decide +kernel
theorem dX1_worstPair_2 : decode cX1_worstPair 2 = .ok (.iconst 0, 1) := by decide +kernel
theorem dX1_worstPair_3 : decode cX1_worstPair 3 = .ok (.istore_n 2, 1) := by decide +kernel
theorem dX1_worstPair_4 : decode cX1_worstPair 4 = .ok (.iconst 0, 1) := by decide +kernel
theorem dX1_worstPair_5 : decode cX1_worstPair 5 = .ok (.istore_n 3, 1) := by decide +kernel
theorem dX1_worstPair_6 : decode cX1_worstPair 6 = .ok (.iload_n 3, 1) := by decide +kernel
theorem dX1_worstPair_7 : decode cX1_worstPair 7 = .ok (.aload_n 0, 1) := by decide +kernel
theorem dX1_worstPair_8 : decode cX1_worstPair 8 = .ok (.getfield 41, 3) := by decide +kernel
theorem dX1_worstPair_11 : decode cX1_worstPair 11 = .ok (.if_icmp .ge 88, 3) := by decide +kernel
theorem dX1_worstPair_14 : decode cX1_worstPair 14 = .ok (.iload_n 3, 1) := by decide +kernel
theorem dX1_worstPair_15 : decode cX1_worstPair 15 = .ok (.iconst 1, 1) := by decide +kernel
theorem dX1_worstPair_16 : decode cX1_worstPair 16 = .ok (.iadd, 1) := by decide +kernel
theorem dX1_worstPair_17 : decode cX1_worstPair 17 = .ok (.istore 4, 2) := by decide +kernel
theorem dX1_worstPair_19 : decode cX1_worstPair 19 = .ok (.iload 4, 2) := by decide +kernel
theorem dX1_worstPair_21 : decode cX1_worstPair 21 = .ok (.aload_n 0, 1) := by decide +kernel
theorem dX1_worstPair_22 : decode cX1_worstPair 22 = .ok (.getfield 41, 3) := by decide +kernel
theorem dX1_worstPair_25 : decode cX1_worstPair 25 = .ok (.if_icmp .ge 68, 3) := by decide +kernel
theorem dX1_worstPair_28 : decode cX1_worstPair 28 = .ok (.iconst 1, 1) := by decide +kernel
theorem dX1_worstPair_29 : decode cX1_worstPair 29 = .ok (.iload 4, 2) := by decide +kernel
theorem dX1_worstPair_31 : decode cX1_worstPair 31 = .ok (.ishl, 1) := by decide +kernel
theorem dX1_worstPair_32 : decode cX1_worstPair 32 = .ok (.iconst 1, 1) := by decide +kernel
theorem dX1_worstPair_33 : decode cX1_worstPair 33 = .ok (.iload_n 3, 1) := by decide +kernel
theorem dX1_worstPair_34 : decode cX1_worstPair 34 = .ok (.ishl, 1) := by decide +kernel
theorem dX1_worstPair_35 : decode cX1_worstPair 35 = .ok (.ior, 1) := by decide +kernel
theorem dX1_worstPair_36 : decode cX1_worstPair 36 = .ok (.istore 5, 2) := by decide +kernel
theorem dX1_worstPair_38 : decode cX1_worstPair 38 = .ok (.iload 5, 2) := by decide +kernel
theorem dX1_worstPair_40 : decode cX1_worstPair 40 = .ok (.aload_n 0, 1) := by decide +kernel
theorem dX1_worstPair_41 : decode cX1_worstPair 41 = .ok (.getfield 15, 3) := by decide +kernel
theorem dX1_worstPair_44 : decode cX1_worstPair 44 = .ok (.iconst (-1), 1) := by decide +kernel
theorem dX1_worstPair_45 : decode cX1_worstPair 45 = .ok (.ixor, 1) := by decide +kernel
theorem dX1_worstPair_46 : decode cX1_worstPair 46 = .ok (.iand, 1) := by decide +kernel
theorem dX1_worstPair_47 : decode cX1_worstPair 47 = .ok (.ifCond .ne 40, 3) := by decide +kernel
theorem dX1_worstPair_50 : decode cX1_worstPair 50 = .ok (.aload_n 0, 1) := by decide +kernel
theorem dX1_worstPair_51 : decode cX1_worstPair 51 = .ok (.aload_n 0, 1) := by decide +kernel
theorem dX1_worstPair_52 : decode cX1_worstPair 52 = .ok (.getfield 15, 3) := by decide +kernel
theorem dX1_worstPair_55 : decode cX1_worstPair 55 = .ok (.iload 5, 2) := by decide +kernel
theorem dX1_worstPair_57 : decode cX1_worstPair 57 = .ok (.iconst (-1), 1) := by decide +kernel
theorem dX1_worstPair_58 : decode cX1_worstPair 58 = .ok (.ixor, 1) := by decide +kernel
theorem dX1_worstPair_59 : decode cX1_worstPair 59 = .ok (.iand, 1) := by decide +kernel
theorem dX1_worstPair_60 : decode cX1_worstPair 60 = .ok (.invokevirtual 30, 3) := by decide +kernel
theorem dX1_worstPair_63 : decode cX1_worstPair 63 = .ok (.istore 6, 2) := by decide +kernel
theorem dX1_worstPair_65 : decode cX1_worstPair 65 = .ok (.iload_n 1, 1) := by decide +kernel
theorem dX1_worstPair_66 : decode cX1_worstPair 66 = .ok (.iconst (-1), 1) := by decide +kernel
theorem dX1_worstPair_67 : decode cX1_worstPair 67 = .ok (.if_icmp .eq 9, 3) := by decide +kernel
theorem dX1_worstPair_70 : decode cX1_worstPair 70 = .ok (.iload 6, 2) := by decide +kernel
theorem dX1_worstPair_72 : decode cX1_worstPair 72 = .ok (.iload_n 2, 1) := by decide +kernel
theorem dX1_worstPair_73 : decode cX1_worstPair 73 = .ok (.if_icmp .ge 14, 3) := by decide +kernel
theorem dX1_worstPair_76 : decode cX1_worstPair 76 = .ok (.bipush 10, 2) := by decide +kernel
theorem dX1_worstPair_78 : decode cX1_worstPair 78 = .ok (.iload_n 3, 1) := by decide +kernel
theorem dX1_worstPair_79 : decode cX1_worstPair 79 = .ok (.imul, 1) := by decide +kernel
theorem dX1_worstPair_80 : decode cX1_worstPair 80 = .ok (.iload 4, 2) := by decide +kernel
theorem dX1_worstPair_82 : decode cX1_worstPair 82 = .ok (.iadd, 1) := by decide +kernel
theorem dX1_worstPair_83 : decode cX1_worstPair 83 = .ok (.istore_n 1, 1) := by decide +kernel
theorem dX1_worstPair_84 : decode cX1_worstPair 84 = .ok (.iload 6, 2) := by decide +kernel
theorem dX1_worstPair_86 : decode cX1_worstPair 86 = .ok (.istore_n 2, 1) := by decide +kernel
theorem dX1_worstPair_87 : decode cX1_worstPair 87 = .ok (.iinc 4 1, 3) := by decide +kernel
theorem dX1_worstPair_90 : decode cX1_worstPair 90 = .ok (.goto (-71), 3) := by decide +kernel
theorem dX1_worstPair_93 : decode cX1_worstPair 93 = .ok (.iinc 3 1, 3) := by decide +kernel
theorem dX1_worstPair_96 : decode cX1_worstPair 96 = .ok (.goto (-90), 3) := by decide +kernel
theorem dX1_worstPair_99 : decode cX1_worstPair 99 = .ok (.iload_n 1, 1) := by decide +kernel
theorem dX1_worstPair_100 : decode cX1_worstPair 100 = .ok (.ireturn, 1) := by decide +kernel
theorem dX1_playedOut_0 : decode cX1_playedOut 0 = .ok (.iload_n 2, 1) := by decide +kernel
theorem dX1_playedOut_1 : decode cX1_playedOut 1 = .ok (.ifCond .gt 9, 3) := by decide +kernel
theorem dX1_playedOut_4 : decode cX1_playedOut 4 = .ok (.aload_n 0, 1) := by decide +kernel
theorem dX1_playedOut_5 : decode cX1_playedOut 5 = .ok (.iload_n 1, 1) := by decide +kernel
theorem dX1_playedOut_6 : decode cX1_playedOut 6 = .ok (.invokevirtual 30, 3) := by decide +kernel
theorem dX1_playedOut_9 : decode cX1_playedOut 9 = .ok (.ireturn, 1) := by decide +kernel
theorem dX1_playedOut_10 : decode cX1_playedOut 10 = .ok (.iload_n 3, 1) := by decide +kernel
theorem dX1_playedOut_11 : decode cX1_playedOut 11 = .ok (.ifCond .eq 7, 3) := by decide +kernel
theorem dX1_playedOut_14 : decode cX1_playedOut 14 = .ok (.iload_n 1, 1) := by decide +kernel
theorem dX1_playedOut_15 : decode cX1_playedOut 15 = .ok (.goto 11, 3) := by decide +kernel
theorem dX1_playedOut_18 : decode cX1_playedOut 18 = .ok (.aload_n 0, 1) := by decide +kernel
theorem dX1_playedOut_19 : decode cX1_playedOut 19 = .ok (.invokevirtual 33, 3) := by decide +kernel
theorem dX1_playedOut_22 : decode cX1_playedOut 22 = .ok (.iload_n 1, 1) := by decide +kernel
theorem dX1_playedOut_23 : decode cX1_playedOut 23 = .ok (.iconst (-1), 1) := by decide +kernel
theorem dX1_playedOut_24 : decode cX1_playedOut 24 = .ok (.ixor, 1) := by decide +kernel
theorem dX1_playedOut_25 : decode cX1_playedOut 25 = .ok (.iand, 1) := by decide +kernel
theorem dX1_playedOut_26 : decode cX1_playedOut 26 = .ok (.istore 6, 2) := by decide +kernel
theorem dX1_playedOut_28 : decode cX1_playedOut 28 = .ok (.iload 6, 2) := by decide +kernel
theorem dX1_playedOut_30 : decode cX1_playedOut 30 = .ok (.ifCond .ne 25, 3) := by decide +kernel
theorem dX1_playedOut_33 : decode cX1_playedOut 33 = .ok (.aload_n 0, 1) := by decide +kernel
theorem dX1_playedOut_34 : decode cX1_playedOut 34 = .ok (.iload_n 1, 1) := by decide +kernel
theorem dX1_playedOut_35 : decode cX1_playedOut 35 = .ok (.iload_n 2, 1) := by decide +kernel
theorem dX1_playedOut_36 : decode cX1_playedOut 36 = .ok (.iconst 1, 1) := by decide +kernel
theorem dX1_playedOut_37 : decode cX1_playedOut 37 = .ok (.isub, 1) := by decide +kernel
theorem dX1_playedOut_38 : decode cX1_playedOut 38 = .ok (.iload_n 3, 1) := by decide +kernel
theorem dX1_playedOut_39 : decode cX1_playedOut 39 = .ok (.ifCond .ne 7, 3) := by decide +kernel
theorem dX1_playedOut_42 : decode cX1_playedOut 42 = .ok (.iconst 1, 1) := by decide +kernel
theorem dX1_playedOut_43 : decode cX1_playedOut 43 = .ok (.goto 4, 3) := by decide +kernel
theorem dX1_playedOut_46 : decode cX1_playedOut 46 = .ok (.iconst 0, 1) := by decide +kernel
theorem dX1_playedOut_47 : decode cX1_playedOut 47 = .ok (.iload 4, 2) := by decide +kernel
theorem dX1_playedOut_49 : decode cX1_playedOut 49 = .ok (.iload 5, 2) := by decide +kernel
theorem dX1_playedOut_51 : decode cX1_playedOut 51 = .ok (.invokestatic 47, 3) := by decide +kernel
theorem dX1_playedOut_54 : decode cX1_playedOut 54 = .ok (.ireturn, 1) := by decide +kernel
theorem dX1_playedOut_55 : decode cX1_playedOut 55 = .ok (.iload 4, 2) := by decide +kernel
theorem dX1_playedOut_57 : decode cX1_playedOut 57 = .ok (.istore 7, 2) := by decide +kernel
theorem dX1_playedOut_59 : decode cX1_playedOut 59 = .ok (.iload 5, 2) := by decide +kernel
theorem dX1_playedOut_61 : decode cX1_playedOut 61 = .ok (.istore 8, 2) := by decide +kernel
theorem dX1_playedOut_63 : decode cX1_playedOut 63 = .ok (.iconst 0, 1) := by decide +kernel
theorem dX1_playedOut_64 : decode cX1_playedOut 64 = .ok (.istore 9, 2) := by decide +kernel
theorem dX1_playedOut_66 : decode cX1_playedOut 66 = .ok (.iload 9, 2) := by decide +kernel
theorem dX1_playedOut_68 : decode cX1_playedOut 68 = .ok (.aload_n 0, 1) := by decide +kernel
theorem dX1_playedOut_69 : decode cX1_playedOut 69 = .ok (.getfield 41, 3) := by decide +kernel
theorem dX1_playedOut_72 : decode cX1_playedOut 72 = .ok (.if_icmp .ge 79, 3) := by decide +kernel
theorem dX1_playedOut_75 : decode cX1_playedOut 75 = .ok (.iload 7, 2) := by decide +kernel
theorem dX1_playedOut_77 : decode cX1_playedOut 77 = .ok (.iload 8, 2) := by decide +kernel
theorem dX1_playedOut_79 : decode cX1_playedOut 79 = .ok (.if_icmp .ge 72, 3) := by decide +kernel
theorem dX1_playedOut_82 : decode cX1_playedOut 82 = .ok (.iload 6, 2) := by decide +kernel
theorem dX1_playedOut_84 : decode cX1_playedOut 84 = .ok (.iload 9, 2) := by decide +kernel
theorem dX1_playedOut_86 : decode cX1_playedOut 86 = .ok (.invokestatic 44, 3) := by decide +kernel
theorem dX1_playedOut_89 : decode cX1_playedOut 89 = .ok (.ifCond .eq 56, 3) := by decide +kernel
theorem dX1_playedOut_92 : decode cX1_playedOut 92 = .ok (.aload_n 0, 1) := by decide +kernel
theorem dX1_playedOut_93 : decode cX1_playedOut 93 = .ok (.iload_n 1, 1) := by decide +kernel
theorem dX1_playedOut_94 : decode cX1_playedOut 94 = .ok (.iconst 1, 1) := by decide +kernel
theorem dX1_playedOut_95 : decode cX1_playedOut 95 = .ok (.iload 9, 2) := by decide +kernel
theorem dX1_playedOut_97 : decode cX1_playedOut 97 = .ok (.ishl, 1) := by decide +kernel
theorem dX1_playedOut_98 : decode cX1_playedOut 98 = .ok (.ixor, 1) := by decide +kernel
theorem dX1_playedOut_99 : decode cX1_playedOut 99 = .ok (.iload_n 2, 1) := by decide +kernel
theorem dX1_playedOut_100 : decode cX1_playedOut 100 = .ok (.iconst 1, 1) := by decide +kernel
theorem dX1_playedOut_101 : decode cX1_playedOut 101 = .ok (.isub, 1) := by decide +kernel
theorem dX1_playedOut_102 : decode cX1_playedOut 102 = .ok (.iload_n 3, 1) := by decide +kernel
theorem dX1_playedOut_103 : decode cX1_playedOut 103 = .ok (.ifCond .ne 7, 3) := by decide +kernel
theorem dX1_playedOut_106 : decode cX1_playedOut 106 = .ok (.iconst 1, 1) := by decide +kernel
theorem dX1_playedOut_107 : decode cX1_playedOut 107 = .ok (.goto 4, 3) := by decide +kernel
theorem dX1_playedOut_110 : decode cX1_playedOut 110 = .ok (.iconst 0, 1) := by decide +kernel
theorem dX1_playedOut_111 : decode cX1_playedOut 111 = .ok (.iload 7, 2) := by decide +kernel
theorem dX1_playedOut_113 : decode cX1_playedOut 113 = .ok (.iload 8, 2) := by decide +kernel
theorem dX1_playedOut_115 : decode cX1_playedOut 115 = .ok (.invokestatic 47, 3) := by decide +kernel
theorem dX1_playedOut_118 : decode cX1_playedOut 118 = .ok (.istore 10, 2) := by decide +kernel
theorem dX1_playedOut_120 : decode cX1_playedOut 120 = .ok (.iload_n 3, 1) := by decide +kernel
theorem dX1_playedOut_121 : decode cX1_playedOut 121 = .ok (.ifCond .eq 15, 3) := by decide +kernel
theorem dX1_playedOut_124 : decode cX1_playedOut 124 = .ok (.iload 8, 2) := by decide +kernel
theorem dX1_playedOut_126 : decode cX1_playedOut 126 = .ok (.iload 10, 2) := by decide +kernel
theorem dX1_playedOut_128 : decode cX1_playedOut 128 = .ok (.invokestatic 51, 3) := by decide +kernel
theorem dX1_playedOut_131 : decode cX1_playedOut 131 = .ok (.istore 8, 2) := by decide +kernel
theorem dX1_playedOut_133 : decode cX1_playedOut 133 = .ok (.goto 12, 3) := by decide +kernel
theorem dX1_playedOut_136 : decode cX1_playedOut 136 = .ok (.iload 7, 2) := by decide +kernel
theorem dX1_playedOut_138 : decode cX1_playedOut 138 = .ok (.iload 10, 2) := by decide +kernel
theorem dX1_playedOut_140 : decode cX1_playedOut 140 = .ok (.invokestatic 57, 3) := by decide +kernel
theorem dX1_playedOut_143 : decode cX1_playedOut 143 = .ok (.istore 7, 2) := by decide +kernel
theorem dX1_playedOut_145 : decode cX1_playedOut 145 = .ok (.iinc 9 1, 3) := by decide +kernel
theorem dX1_playedOut_148 : decode cX1_playedOut 148 = .ok (.goto (-82), 3) := by decide +kernel
theorem dX1_playedOut_151 : decode cX1_playedOut 151 = .ok (.iload_n 3, 1) := by decide +kernel
theorem dX1_playedOut_152 : decode cX1_playedOut 152 = .ok (.ifCond .eq 8, 3) := by decide +kernel
theorem dX1_playedOut_155 : decode cX1_playedOut 155 = .ok (.iload 8, 2) := by decide +kernel
theorem dX1_playedOut_157 : decode cX1_playedOut 157 = .ok (.goto 5, 3) := by decide +kernel
theorem dX1_playedOut_160 : decode cX1_playedOut 160 = .ok (.iload 7, 2) := by decide +kernel
theorem dX1_playedOut_162 : decode cX1_playedOut 162 = .ok (.ireturn, 1) := by decide +kernel
theorem dX1_valuePlayed_0 : decode cX1_valuePlayed 0 = .ok (.aload_n 0, 1) := by decide +kernel
theorem dX1_valuePlayed_1 : decode cX1_valuePlayed 1 = .ok (.aload_n 0, 1) := by decide +kernel
theorem dX1_valuePlayed_2 : decode cX1_valuePlayed 2 = .ok (.getfield 15, 3) := by decide +kernel
theorem dX1_valuePlayed_5 : decode cX1_valuePlayed 5 = .ok (.iload_n 1, 1) := by decide +kernel
theorem dX1_valuePlayed_6 : decode cX1_valuePlayed 6 = .ok (.iconst 1, 1) := by decide +kernel
theorem dX1_valuePlayed_7 : decode cX1_valuePlayed 7 = .ok (.iconst (-1), 1) := by decide +kernel
theorem dX1_valuePlayed_8 : decode cX1_valuePlayed 8 = .ok (.sipush 1000, 3) := by decide +kernel
theorem dX1_valuePlayed_11 : decode cX1_valuePlayed 11 = .ok (.invokestatic 47, 3) := by decide +kernel
theorem dX1_valuePlayed_14 : decode cX1_valuePlayed 14 = .ok (.ireturn, 1) := by decide +kernel
theorem dX1_firstPlayed_0 : decode cX1_firstPlayed 0 = .ok (.iconst (-1), 1) := by decide +kernel
theorem dX1_firstPlayed_1 : decode cX1_firstPlayed 1 = .ok (.istore_n 2, 1) := by decide +kernel
theorem dX1_firstPlayed_2 : decode cX1_firstPlayed 2 = .ok (.sipush 1000, 3) := by decide +kernel
theorem dX1_firstPlayed_5 : decode cX1_firstPlayed 5 = .ok (.istore_n 3, 1) := by decide +kernel
theorem dX1_firstPlayed_6 : decode cX1_firstPlayed 6 = .ok (.iconst 0, 1) := by decide +kernel
theorem dX1_firstPlayed_7 : decode cX1_firstPlayed 7 = .ok (.istore 4, 2) := by decide +kernel
theorem dX1_firstPlayed_9 : decode cX1_firstPlayed 9 = .ok (.iload 4, 2) := by decide +kernel
theorem dX1_firstPlayed_11 : decode cX1_firstPlayed 11 = .ok (.aload_n 0, 1) := by decide +kernel
theorem dX1_firstPlayed_12 : decode cX1_firstPlayed 12 = .ok (.getfield 41, 3) := by decide +kernel
theorem dX1_firstPlayed_15 : decode cX1_firstPlayed 15 = .ok (.if_icmp .ge 58, 3) := by decide +kernel
theorem dX1_firstPlayed_18 : decode cX1_firstPlayed 18 = .ok (.iload_n 1, 1) := by decide +kernel
theorem dX1_firstPlayed_19 : decode cX1_firstPlayed 19 = .ok (.ifCond .le 54, 3) := by decide +kernel
theorem dX1_firstPlayed_22 : decode cX1_firstPlayed 22 = .ok (.aload_n 0, 1) := by decide +kernel
theorem dX1_firstPlayed_23 : decode cX1_firstPlayed 23 = .ok (.getfield 15, 3) := by decide +kernel
theorem dX1_firstPlayed_26 : decode cX1_firstPlayed 26 = .ok (.iload 4, 2) := by decide +kernel
theorem dX1_firstPlayed_28 : decode cX1_firstPlayed 28 = .ok (.invokestatic 44, 3) := by decide +kernel
theorem dX1_firstPlayed_31 : decode cX1_firstPlayed 31 = .ok (.ifCond .eq 36, 3) := by decide +kernel
theorem dX1_firstPlayed_34 : decode cX1_firstPlayed 34 = .ok (.aload_n 0, 1) := by decide +kernel
theorem dX1_firstPlayed_35 : decode cX1_firstPlayed 35 = .ok (.aload_n 0, 1) := by decide +kernel
theorem dX1_firstPlayed_36 : decode cX1_firstPlayed 36 = .ok (.getfield 15, 3) := by decide +kernel
theorem dX1_firstPlayed_39 : decode cX1_firstPlayed 39 = .ok (.iconst 1, 1) := by decide +kernel
theorem dX1_firstPlayed_40 : decode cX1_firstPlayed 40 = .ok (.iload 4, 2) := by decide +kernel
theorem dX1_firstPlayed_42 : decode cX1_firstPlayed 42 = .ok (.ishl, 1) := by decide +kernel
theorem dX1_firstPlayed_43 : decode cX1_firstPlayed 43 = .ok (.ixor, 1) := by decide +kernel
theorem dX1_firstPlayed_44 : decode cX1_firstPlayed 44 = .ok (.iload_n 1, 1) := by decide +kernel
theorem dX1_firstPlayed_45 : decode cX1_firstPlayed 45 = .ok (.iconst 1, 1) := by decide +kernel
theorem dX1_firstPlayed_46 : decode cX1_firstPlayed 46 = .ok (.isub, 1) := by decide +kernel
theorem dX1_firstPlayed_47 : decode cX1_firstPlayed 47 = .ok (.iconst 0, 1) := by decide +kernel
theorem dX1_firstPlayed_48 : decode cX1_firstPlayed 48 = .ok (.iconst (-1), 1) := by decide +kernel
theorem dX1_firstPlayed_49 : decode cX1_firstPlayed 49 = .ok (.iload_n 3, 1) := by decide +kernel
theorem dX1_firstPlayed_50 : decode cX1_firstPlayed 50 = .ok (.invokestatic 47, 3) := by decide +kernel
theorem dX1_firstPlayed_53 : decode cX1_firstPlayed 53 = .ok (.istore 5, 2) := by decide +kernel
theorem dX1_firstPlayed_55 : decode cX1_firstPlayed 55 = .ok (.iload 5, 2) := by decide +kernel
theorem dX1_firstPlayed_57 : decode cX1_firstPlayed 57 = .ok (.iload_n 3, 1) := by decide +kernel
theorem dX1_firstPlayed_58 : decode cX1_firstPlayed 58 = .ok (.if_icmp .ge 9, 3) := by decide +kernel
theorem dX1_firstPlayed_61 : decode cX1_firstPlayed 61 = .ok (.iload 4, 2) := by decide +kernel
theorem dX1_firstPlayed_63 : decode cX1_firstPlayed 63 = .ok (.istore_n 2, 1) := by decide +kernel
theorem dX1_firstPlayed_64 : decode cX1_firstPlayed 64 = .ok (.iload 5, 2) := by decide +kernel
theorem dX1_firstPlayed_66 : decode cX1_firstPlayed 66 = .ok (.istore_n 3, 1) := by decide +kernel
theorem dX1_firstPlayed_67 : decode cX1_firstPlayed 67 = .ok (.iinc 4 1, 3) := by decide +kernel
theorem dX1_firstPlayed_70 : decode cX1_firstPlayed 70 = .ok (.goto (-61), 3) := by decide +kernel
theorem dX1_firstPlayed_73 : decode cX1_firstPlayed 73 = .ok (.iload_n 2, 1) := by decide +kernel
theorem dX1_firstPlayed_74 : decode cX1_firstPlayed 74 = .ok (.ireturn, 1) := by decide +kernel
theorem dX2_init_0 : decode cX2_init 0 = .ok (.aload_n 0, 1) := by decide +kernel
theorem dX2_init_1 : decode cX2_init 1 = .ok (.invokespecial 3, 3) := by decide +kernel
theorem dX2_init_4 : decode cX2_init 4 = .ok (.aload_n 0, 1) := by decide +kernel
theorem dX2_init_5 : decode cX2_init 5 = .ok (.iconst (-1), 1) := by decide +kernel
theorem dX2_init_6 : decode cX2_init 6 = .ok (.putfield 9, 3) := by decide +kernel
theorem dX2_init_9 : decode cX2_init 9 = .ok (.aload_n 0, 1) := by decide +kernel
theorem dX2_init_10 : decode cX2_init 10 = .ok (.iconst 0, 1) := by decide +kernel
theorem dX2_init_11 : decode cX2_init 11 = .ok (.putfield 15, 3) := by decide +kernel
theorem dX2_init_14 : decode cX2_init 14 = .ok (.aload_n 0, 1) := by decide +kernel
theorem dX2_init_15 : decode cX2_init 15 = .ok (.iconst 0, 1) := by decide +kernel
theorem dX2_init_16 : decode cX2_init 16 = .ok (.putfield 18, 3) := by decide +kernel
theorem dX2_init_19 : decode cX2_init 19 = .ok (.aload_n 0, 1) := by decide +kernel
theorem dX2_init_20 : decode cX2_init 20 = .ok (.iconst 0, 1) := by decide +kernel
theorem dX2_init_21 : decode cX2_init 21 = .ok (.putfield 21, 3) := by decide +kernel
theorem dX2_init_24 : decode cX2_init 24 = .ok (.aload_n 0, 1) := by decide +kernel
theorem dX2_init_25 : decode cX2_init 25 = .ok (.iconst 0, 1) := by decide +kernel
theorem dX2_init_26 : decode cX2_init 26 = .ok (.putfield 24, 3) := by decide +kernel
theorem dX2_init_29 : decode cX2_init 29 = .ok (.aload_n 0, 1) := by decide +kernel
theorem dX2_init_30 : decode cX2_init 30 = .ok (.iconst 3, 1) := by decide +kernel
theorem dX2_init_31 : decode cX2_init 31 = .ok (.newarray .int, 2) := by decide +kernel
theorem dX2_init_33 : decode cX2_init 33 = .ok (.putfield 27, 3) := by decide +kernel
theorem dX2_init_36 : decode cX2_init 36 = .ok (.return_, 1) := by decide +kernel
theorem dX2_readTower_0 : decode cX2_readTower 0 = .ok (.aload_n 0, 1) := by decide +kernel
theorem dX2_readTower_1 : decode cX2_readTower 1 = .ok (.iconst (-1), 1) := by decide +kernel
theorem dX2_readTower_2 : decode cX2_readTower 2 = .ok (.putfield 9, 3) := by decide +kernel
theorem dX2_readTower_5 : decode cX2_readTower 5 = .ok (.aload_n 0, 1) := by decide +kernel
theorem dX2_readTower_6 : decode cX2_readTower 6 = .ok (.iconst 0, 1) := by decide +kernel
theorem dX2_readTower_7 : decode cX2_readTower 7 = .ok (.putfield 21, 3) := by decide +kernel
theorem dX2_readTower_10 : decode cX2_readTower 10 = .ok (.aload_n 0, 1) := by decide +kernel
theorem dX2_readTower_11 : decode cX2_readTower 11 = .ok (.aload_n 1, 1) := by decide +kernel
theorem dX2_readTower_12 : decode cX2_readTower 12 = .ok (.invokevirtual 31, 3) := by decide +kernel
theorem dX2_readTower_15 : decode cX2_readTower 15 = .ok (.iconst 1, 1) := by decide +kernel
theorem dX2_readTower_16 : decode cX2_readTower 16 = .ok (.istore_n 3, 1) := by decide +kernel
theorem dX2_readTower_17 : decode cX2_readTower 17 = .ok (.iload_n 3, 1) := by decide +kernel
theorem dX2_readTower_18 : decode cX2_readTower 18 = .ok (.sipush 250, 3) := by decide +kernel
theorem dX2_readTower_21 : decode cX2_readTower 21 = .ok (.if_icmp .gt 60, 3) := by decide +kernel
theorem dX2_readTower_24 : decode cX2_readTower 24 = .ok (.aload_n 0, 1) := by decide +kernel
theorem dX2_readTower_25 : decode cX2_readTower 25 = .ok (.aload_n 1, 1) := by decide +kernel
theorem dX2_readTower_26 : decode cX2_readTower 26 = .ok (.aload_n 2, 1) := by decide +kernel
theorem dX2_readTower_27 : decode cX2_readTower 27 = .ok (.invokevirtual 37, 3) := by decide +kernel
theorem dX2_readTower_30 : decode cX2_readTower 30 = .ok (.ifCond .ne 13, 3) := by decide +kernel
theorem dX2_readTower_33 : decode cX2_readTower 33 = .ok (.aload_n 0, 1) := by decide +kernel
theorem dX2_readTower_34 : decode cX2_readTower 34 = .ok (.aload_n 0, 1) := by decide +kernel
theorem dX2_readTower_35 : decode cX2_readTower 35 = .ok (.getfield 18, 3) := by decide +kernel
theorem dX2_readTower_38 : decode cX2_readTower 38 = .ok (.putfield 9, 3) := by decide +kernel
theorem dX2_readTower_41 : decode cX2_readTower 41 = .ok (.iconst 0, 1) := by decide +kernel
theorem dX2_readTower_42 : decode cX2_readTower 42 = .ok (.ireturn, 1) := by decide +kernel
theorem dX2_readTower_43 : decode cX2_readTower 43 = .ok (.aload_n 0, 1) := by decide +kernel
theorem dX2_readTower_44 : decode cX2_readTower 44 = .ok (.getfield 15, 3) := by decide +kernel
theorem dX2_readTower_47 : decode cX2_readTower 47 = .ok (.ifCond .ne 5, 3) := by decide +kernel
theorem dX2_readTower_50 : decode cX2_readTower 50 = .ok (.iload_n 3, 1) := by decide +kernel
theorem dX2_readTower_51 : decode cX2_readTower 51 = .ok (.ireturn, 1) := by decide +kernel
theorem dX2_readTower_52 : decode cX2_readTower 52 = .ok (.aload_n 0, 1) := by decide +kernel
theorem dX2_readTower_53 : decode cX2_readTower 53 = .ok (.getfield 15, 3) := by decide +kernel
theorem dX2_readTower_56 : decode cX2_readTower 56 = .ok (.iconst 3, 1) := by decide +kernel
theorem dX2_readTower_57 : decode cX2_readTower 57 = .ok (.if_icmp .eq 13, 3) := by decide +kernel
theorem dX2_readTower_60 : decode cX2_readTower 60 = .ok (.aload_n 0, 1) := by decide +kernel
theorem dX2_readTower_61 : decode cX2_readTower 61 = .ok (.aload_n 0, 1) := by decide +kernel
theorem dX2_readTower_62 : decode cX2_readTower 62 = .ok (.getfield 18, 3) := by decide +kernel
theorem dX2_readTower_65 : decode cX2_readTower 65 = .ok (.putfield 9, 3) := by decide +kernel
theorem dX2_readTower_68 : decode cX2_readTower 68 = .ok (.iconst 0, 1) := by decide +kernel
theorem dX2_readTower_69 : decode cX2_readTower 69 = .ok (.ireturn, 1) := by decide +kernel
theorem dX2_readTower_70 : decode cX2_readTower 70 = .ok (.aload_n 0, 1) := by decide +kernel
theorem dX2_readTower_71 : decode cX2_readTower 71 = .ok (.aload_n 1, 1) := by decide +kernel
theorem dX2_readTower_72 : decode cX2_readTower 72 = .ok (.invokevirtual 31, 3) := by decide +kernel
theorem dX2_readTower_75 : decode cX2_readTower 75 = .ok (.iinc 3 1, 3) := by decide +kernel
theorem dX2_readTower_78 : decode cX2_readTower 78 = .ok (.goto (-61), 3) := by decide +kernel
theorem dX2_readTower_81 : decode cX2_readTower 81 = .ok (.aload_n 0, 1) := by decide +kernel
theorem dX2_readTower_82 : decode cX2_readTower 82 = .ok (.aload_n 0, 1) := by decide +kernel
theorem dX2_readTower_83 : decode cX2_readTower 83 = .ok (.getfield 18, 3) := by decide +kernel
theorem dX2_readTower_86 : decode cX2_readTower 86 = .ok (.putfield 9, 3) := by decide +kernel
theorem dX2_readTower_89 : decode cX2_readTower 89 = .ok (.iconst 0, 1) := by decide +kernel
theorem dX2_readTower_90 : decode cX2_readTower 90 = .ok (.ireturn, 1) := by decide +kernel
theorem dX2_readStatement_0 : decode cX2_readStatement 0 = .ok (.aload_n 0, 1) := by decide +kernel
theorem dX2_readStatement_1 : decode cX2_readStatement 1 = .ok (.getfield 15, 3) := by decide +kernel
theorem dX2_readStatement_4 : decode cX2_readStatement 4 = .ok (.iconst 1, 1) := by decide +kernel
theorem dX2_readStatement_5 : decode cX2_readStatement 5 = .ok (.if_icmp .ne 11, 3) := by decide +kernel
theorem dX2_readStatement_8 : decode cX2_readStatement 8 = .ok (.aload_n 0, 1) := by decide +kernel
theorem dX2_readStatement_9 : decode cX2_readStatement 9 = .ok (.aload_n 1, 1) := by decide +kernel
theorem dX2_readStatement_10 : decode cX2_readStatement 10 = .ok (.invokevirtual 41, 3) := by decide +kernel
theorem dX2_readStatement_13 : decode cX2_readStatement 13 = .ok (.goto 4, 3) := by decide +kernel
theorem dX2_readStatement_16 : decode cX2_readStatement 16 = .ok (.iconst (-1), 1) := by decide +kernel
theorem dX2_readStatement_17 : decode cX2_readStatement 17 = .ok (.istore_n 3, 1) := by decide +kernel
theorem dX2_readStatement_18 : decode cX2_readStatement 18 = .ok (.iload_n 3, 1) := by decide +kernel
theorem dX2_readStatement_19 : decode cX2_readStatement 19 = .ok (.iconst (-1), 1) := by decide +kernel
theorem dX2_readStatement_20 : decode cX2_readStatement 20 = .ok (.if_icmp .eq 11, 3) := by decide +kernel
theorem dX2_readStatement_23 : decode cX2_readStatement 23 = .ok (.aload_n 2, 1) := by decide +kernel
theorem dX2_readStatement_24 : decode cX2_readStatement 24 = .ok (.iload_n 3, 1) := by decide +kernel
theorem dX2_readStatement_25 : decode cX2_readStatement 25 = .ok (.invokestatic 45, 3) := by decide +kernel
theorem dX2_readStatement_28 : decode cX2_readStatement 28 = .ok (.ifCond .eq 5, 3) := by decide +kernel
theorem dX2_readStatement_31 : decode cX2_readStatement 31 = .ok (.iconst 0, 1) := by decide +kernel
theorem dX2_readStatement_32 : decode cX2_readStatement 32 = .ok (.ireturn, 1) := by decide +kernel
theorem dX2_readStatement_33 : decode cX2_readStatement 33 = .ok (.aload_n 0, 1) := by decide +kernel
theorem dX2_readStatement_34 : decode cX2_readStatement 34 = .ok (.aload_n 1, 1) := by decide +kernel
theorem dX2_readStatement_35 : decode cX2_readStatement 35 = .ok (.invokevirtual 31, 3) := by decide +kernel
theorem dX2_readStatement_38 : decode cX2_readStatement 38 = .ok (.iconst 0, 1) := by decide +kernel
theorem dX2_readStatement_39 : decode cX2_readStatement 39 = .ok (.istore 4, 2) := by decide +kernel
theorem dX2_readStatement_41 : decode cX2_readStatement 41 = .ok (.iload 4, 2) := by decide +kernel
theorem dX2_readStatement_43 : decode cX2_readStatement 43 = .ok (.iload_n 3, 1) := by decide +kernel
theorem dX2_readStatement_44 : decode cX2_readStatement 44 = .ok (.invokestatic 49, 3) := by decide +kernel
theorem dX2_readStatement_47 : decode cX2_readStatement 47 = .ok (.if_icmp .ge 52, 3) := by decide +kernel
theorem dX2_readStatement_50 : decode cX2_readStatement 50 = .ok (.aload_n 0, 1) := by decide +kernel
theorem dX2_readStatement_51 : decode cX2_readStatement 51 = .ok (.getfield 15, 3) := by decide +kernel
theorem dX2_readStatement_54 : decode cX2_readStatement 54 = .ok (.iconst 2, 1) := by decide +kernel
theorem dX2_readStatement_55 : decode cX2_readStatement 55 = .ok (.if_icmp .ne 18, 3) := by decide +kernel
theorem dX2_readStatement_58 : decode cX2_readStatement 58 = .ok (.aload_n 0, 1) := by decide +kernel
theorem dX2_readStatement_59 : decode cX2_readStatement 59 = .ok (.getfield 24, 3) := by decide +kernel
theorem dX2_readStatement_62 : decode cX2_readStatement 62 = .ok (.aload_n 0, 1) := by decide +kernel
theorem dX2_readStatement_63 : decode cX2_readStatement 63 = .ok (.aload_n 2, 1) := by decide +kernel
theorem dX2_readStatement_64 : decode cX2_readStatement 64 = .ok (.iload_n 3, 1) := by decide +kernel
theorem dX2_readStatement_65 : decode cX2_readStatement 65 = .ok (.iload 4, 2) := by decide +kernel
theorem dX2_readStatement_67 : decode cX2_readStatement 67 = .ok (.invokevirtual 53, 3) := by decide +kernel
theorem dX2_readStatement_70 : decode cX2_readStatement 70 = .ok (.if_icmp .le 5, 3) := by decide +kernel
theorem dX2_readStatement_73 : decode cX2_readStatement 73 = .ok (.iconst 0, 1) := by decide +kernel
theorem dX2_readStatement_74 : decode cX2_readStatement 74 = .ok (.ireturn, 1) := by decide +kernel
theorem dX2_readStatement_75 : decode cX2_readStatement 75 = .ok (.aload_n 0, 1) := by decide +kernel
theorem dX2_readStatement_76 : decode cX2_readStatement 76 = .ok (.getfield 27, 3) := by decide +kernel
theorem dX2_readStatement_79 : decode cX2_readStatement 79 = .ok (.iload 4, 2) := by decide +kernel
theorem dX2_readStatement_81 : decode cX2_readStatement 81 = .ok (.aload_n 0, 1) := by decide +kernel
theorem dX2_readStatement_82 : decode cX2_readStatement 82 = .ok (.getfield 24, 3) := by decide +kernel
theorem dX2_readStatement_85 : decode cX2_readStatement 85 = .ok (.invokestatic 57, 3) := by decide +kernel
theorem dX2_readStatement_88 : decode cX2_readStatement 88 = .ok (.aload_n 0, 1) := by decide +kernel
theorem dX2_readStatement_89 : decode cX2_readStatement 89 = .ok (.aload_n 1, 1) := by decide +kernel
theorem dX2_readStatement_90 : decode cX2_readStatement 90 = .ok (.invokevirtual 31, 3) := by decide +kernel
theorem dX2_readStatement_93 : decode cX2_readStatement 93 = .ok (.iinc 4 1, 3) := by decide +kernel
theorem dX2_readStatement_96 : decode cX2_readStatement 96 = .ok (.goto (-55), 3) := by decide +kernel
theorem dX2_readStatement_99 : decode cX2_readStatement 99 = .ok (.aload_n 0, 1) := by decide +kernel
theorem dX2_readStatement_100 : decode cX2_readStatement 100 = .ok (.aload_n 2, 1) := by decide +kernel
theorem dX2_readStatement_101 : decode cX2_readStatement 101 = .ok (.iload_n 3, 1) := by decide +kernel
theorem dX2_readStatement_102 : decode cX2_readStatement 102 = .ok (.invokevirtual 61, 3) := by decide +kernel
theorem dX2_readStatement_105 : decode cX2_readStatement 105 = .ok (.iconst 1, 1) := by decide +kernel
theorem dX2_readStatement_106 : decode cX2_readStatement 106 = .ok (.ireturn, 1) := by decide +kernel
theorem dX2_hasNoRoom_0 : decode cX2_hasNoRoom 0 = .ok (.iload_n 1, 1) := by decide +kernel
theorem dX2_hasNoRoom_1 : decode cX2_hasNoRoom 1 = .ok (.ifCond .ne 10, 3) := by decide +kernel
theorem dX2_hasNoRoom_4 : decode cX2_hasNoRoom 4 = .ok (.aload_n 0, 1) := by decide +kernel
theorem dX2_hasNoRoom_5 : decode cX2_hasNoRoom 5 = .ok (.invokevirtual 65, 3) := by decide +kernel
theorem dX2_hasNoRoom_8 : decode cX2_hasNoRoom 8 = .ok (.ifCond .eq 18, 3) := by decide +kernel
theorem dX2_hasNoRoom_11 : decode cX2_hasNoRoom 11 = .ok (.iload_n 1, 1) := by decide +kernel
theorem dX2_hasNoRoom_12 : decode cX2_hasNoRoom 12 = .ok (.iconst 5, 1) := by decide +kernel
theorem dX2_hasNoRoom_13 : decode cX2_hasNoRoom 13 = .ok (.if_icmp .ne 17, 3) := by decide +kernel
theorem dX2_hasNoRoom_16 : decode cX2_hasNoRoom 16 = .ok (.aload_n 0, 1) := by decide +kernel
theorem dX2_hasNoRoom_17 : decode cX2_hasNoRoom 17 = .ok (.getfield 71, 3) := by decide +kernel
theorem dX2_hasNoRoom_20 : decode cX2_hasNoRoom 20 = .ok (.invokevirtual 75, 3) := by decide +kernel
theorem dX2_hasNoRoom_23 : decode cX2_hasNoRoom 23 = .ok (.ifCond .ne 7, 3) := by decide +kernel
theorem dX2_hasNoRoom_26 : decode cX2_hasNoRoom 26 = .ok (.iconst 1, 1) := by decide +kernel
theorem dX2_hasNoRoom_27 : decode cX2_hasNoRoom 27 = .ok (.goto 4, 3) := by decide +kernel
theorem dX2_hasNoRoom_30 : decode cX2_hasNoRoom 30 = .ok (.iconst 0, 1) := by decide +kernel
theorem dX2_hasNoRoom_31 : decode cX2_hasNoRoom 31 = .ok (.ireturn, 1) := by decide +kernel
theorem dX2_countOf_0 : decode cX2_countOf 0 = .ok (.iload_n 0, 1) := by decide +kernel
theorem dX2_countOf_1 : decode cX2_countOf 1 = .ok (.lookupswitch 39 #[(0, 37), (1, 37), (5, 35)], 35) := by decide +kernel
theorem dX2_countOf_36 : decode cX2_countOf 36 = .ok (.iconst 3, 1) := by decide +kernel
theorem dX2_countOf_37 : decode cX2_countOf 37 = .ok (.ireturn, 1) := by decide +kernel
theorem dX2_countOf_38 : decode cX2_countOf 38 = .ok (.iconst 2, 1) := by decide +kernel
theorem dX2_countOf_39 : decode cX2_countOf 39 = .ok (.ireturn, 1) := by decide +kernel
theorem dX2_countOf_40 : decode cX2_countOf 40 = .ok (.iconst 1, 1) := by decide +kernel
theorem dX2_countOf_41 : decode cX2_countOf 41 = .ok (.ireturn, 1) := by decide +kernel
theorem dX2_mostOf_0 : decode cX2_mostOf 0 = .ok (.iload_n 2, 1) := by decide +kernel
theorem dX2_mostOf_1 : decode cX2_mostOf 1 = .ok (.tableswitch 122 0 9 #[55, 68, 122, 122, 122, 92, 113, 119, 119, 115], 55) := by decide +kernel
theorem dX2_mostOf_56 : decode cX2_mostOf 56 = .ok (.iload_n 3, 1) := by decide +kernel
theorem dX2_mostOf_57 : decode cX2_mostOf 57 = .ok (.ifCond .ne 10, 3) := by decide +kernel
theorem dX2_mostOf_60 : decode cX2_mostOf 60 = .ok (.iconst 0, 1) := by decide +kernel
theorem dX2_mostOf_61 : decode cX2_mostOf 61 = .ok (.invokestatic 78, 3) := by decide +kernel
theorem dX2_mostOf_64 : decode cX2_mostOf 64 = .ok (.goto 4, 3) := by decide +kernel
theorem dX2_mostOf_67 : decode cX2_mostOf 67 = .ok (.iconst 3, 1) := by decide +kernel
theorem dX2_mostOf_68 : decode cX2_mostOf 68 = .ok (.ireturn, 1) := by decide +kernel
theorem dX2_mostOf_69 : decode cX2_mostOf 69 = .ok (.iload_n 3, 1) := by decide +kernel
theorem dX2_mostOf_70 : decode cX2_mostOf 70 = .ok (.ifCond .ne 12, 3) := by decide +kernel
theorem dX2_mostOf_73 : decode cX2_mostOf 73 = .ok (.aload_n 1, 1) := by decide +kernel
theorem dX2_mostOf_74 : decode cX2_mostOf 74 = .ok (.getfield 81, 3) := by decide +kernel
theorem dX2_mostOf_77 : decode cX2_mostOf 77 = .ok (.iconst 1, 1) := by decide +kernel
theorem dX2_mostOf_78 : decode cX2_mostOf 78 = .ok (.isub, 1) := by decide +kernel
theorem dX2_mostOf_79 : decode cX2_mostOf 79 = .ok (.goto 13, 3) := by decide +kernel
theorem dX2_mostOf_82 : decode cX2_mostOf 82 = .ok (.aload_n 0, 1) := by decide +kernel
theorem dX2_mostOf_83 : decode cX2_mostOf 83 = .ok (.getfield 27, 3) := by decide +kernel
theorem dX2_mostOf_86 : decode cX2_mostOf 86 = .ok (.iconst 0, 1) := by decide +kernel
theorem dX2_mostOf_87 : decode cX2_mostOf 87 = .ok (.invokestatic 84, 3) := by decide +kernel
theorem dX2_mostOf_90 : decode cX2_mostOf 90 = .ok (.iconst 1, 1) := by decide +kernel
theorem dX2_mostOf_91 : decode cX2_mostOf 91 = .ok (.isub, 1) := by decide +kernel
theorem dX2_mostOf_92 : decode cX2_mostOf 92 = .ok (.ireturn, 1) := by decide +kernel
theorem dX2_mostOf_93 : decode cX2_mostOf 93 = .ok (.iload_n 3, 1) := by decide +kernel
theorem dX2_mostOf_94 : decode cX2_mostOf 94 = .ok (.ifCond .ne 7, 3) := by decide +kernel
theorem dX2_mostOf_97 : decode cX2_mostOf 97 = .ok (.iconst 5, 1) := by decide +kernel
theorem dX2_mostOf_98 : decode cX2_mostOf 98 = .ok (.goto 15, 3) := by decide +kernel
theorem dX2_mostOf_101 : decode cX2_mostOf 101 = .ok (.iload_n 3, 1) := by decide +kernel
theorem dX2_mostOf_102 : decode cX2_mostOf 102 = .ok (.iconst 1, 1) := by decide +kernel
theorem dX2_mostOf_103 : decode cX2_mostOf 103 = .ok (.if_icmp .ne 8, 3) := by decide +kernel
theorem dX2_mostOf_106 : decode cX2_mostOf 106 = .ok (.bipush 9, 2) := by decide +kernel
theorem dX2_mostOf_108 : decode cX2_mostOf 108 = .ok (.goto 5, 3) := by decide +kernel
theorem dX2_mostOf_111 : decode cX2_mostOf 111 = .ok (.bipush 7, 2) := by decide +kernel
theorem dX2_mostOf_113 : decode cX2_mostOf 113 = .ok (.ireturn, 1) := by decide +kernel
theorem dX2_mostOf_114 : decode cX2_mostOf 114 = .ok (.iconst 3, 1) := by decide +kernel
theorem dX2_mostOf_115 : decode cX2_mostOf 115 = .ok (.ireturn, 1) := by decide +kernel
theorem dX2_mostOf_116 : decode cX2_mostOf 116 = .ok (.sipush 999, 3) := by decide +kernel
theorem dX2_mostOf_119 : decode cX2_mostOf 119 = .ok (.ireturn, 1) := by decide +kernel
theorem dX2_mostOf_120 : decode cX2_mostOf 120 = .ok (.bipush 7, 2) := by decide +kernel
theorem dX2_mostOf_122 : decode cX2_mostOf 122 = .ok (.ireturn, 1) := by decide +kernel
theorem dX2_mostOf_123 : decode cX2_mostOf 123 = .ok (.aload_n 1, 1) := by decide +kernel
theorem dX2_mostOf_124 : decode cX2_mostOf 124 = .ok (.getfield 81, 3) := by decide +kernel
theorem dX2_mostOf_127 : decode cX2_mostOf 127 = .ok (.iconst 1, 1) := by decide +kernel
theorem dX2_mostOf_128 : decode cX2_mostOf 128 = .ok (.isub, 1) := by decide +kernel
theorem dX2_mostOf_129 : decode cX2_mostOf 129 = .ok (.ireturn, 1) := by decide +kernel
theorem dX2_carryOut_0 : decode cX2_carryOut 0 = .ok (.aload_n 0, 1) := by decide +kernel
theorem dX2_carryOut_1 : decode cX2_carryOut 1 = .ok (.getfield 27, 3) := by decide +kernel
theorem dX2_carryOut_4 : decode cX2_carryOut 4 = .ok (.iconst 0, 1) := by decide +kernel
theorem dX2_carryOut_5 : decode cX2_carryOut 5 = .ok (.invokestatic 84, 3) := by decide +kernel
theorem dX2_carryOut_8 : decode cX2_carryOut 8 = .ok (.istore_n 3, 1) := by decide +kernel
theorem dX2_carryOut_9 : decode cX2_carryOut 9 = .ok (.aload_n 0, 1) := by decide +kernel
theorem dX2_carryOut_10 : decode cX2_carryOut 10 = .ok (.getfield 27, 3) := by decide +kernel
theorem dX2_carryOut_13 : decode cX2_carryOut 13 = .ok (.iconst 1, 1) := by decide +kernel
theorem dX2_carryOut_14 : decode cX2_carryOut 14 = .ok (.invokestatic 84, 3) := by decide +kernel
theorem dX2_carryOut_17 : decode cX2_carryOut 17 = .ok (.istore 4, 2) := by decide +kernel
theorem dX2_carryOut_19 : decode cX2_carryOut 19 = .ok (.iload_n 2, 1) := by decide +kernel
theorem dX2_carryOut_20 : decode cX2_carryOut 20 = .ok (.tableswitch 162 0 8 #[52, 63, 74, 82, 91, 100, 122, 130, 145], 52) := by decide +kernel
theorem dX2_carryOut_72 : decode cX2_carryOut 72 = .ok (.aload_n 1, 1) := by decide +kernel
theorem dX2_carryOut_73 : decode cX2_carryOut 73 = .ok (.iload_n 3, 1) := by decide +kernel
theorem dX2_carryOut_74 : decode cX2_carryOut 74 = .ok (.iload 4, 2) := by decide +kernel
theorem dX2_carryOut_76 : decode cX2_carryOut 76 = .ok (.invokevirtual 88, 3) := by decide +kernel
theorem dX2_carryOut_79 : decode cX2_carryOut 79 = .ok (.pop, 1) := by decide +kernel
theorem dX2_carryOut_80 : decode cX2_carryOut 80 = .ok (.goto 107, 3) := by decide +kernel
theorem dX2_carryOut_83 : decode cX2_carryOut 83 = .ok (.aload_n 1, 1) := by decide +kernel
theorem dX2_carryOut_84 : decode cX2_carryOut 84 = .ok (.iload_n 3, 1) := by decide +kernel
theorem dX2_carryOut_85 : decode cX2_carryOut 85 = .ok (.iload 4, 2) := by decide +kernel
theorem dX2_carryOut_87 : decode cX2_carryOut 87 = .ok (.iconst 1, 1) := by decide +kernel
theorem dX2_carryOut_88 : decode cX2_carryOut 88 = .ok (.invokevirtual 92, 3) := by decide +kernel
theorem dX2_carryOut_91 : decode cX2_carryOut 91 = .ok (.goto 96, 3) := by decide +kernel
theorem dX2_carryOut_94 : decode cX2_carryOut 94 = .ok (.aload_n 1, 1) := by decide +kernel
theorem dX2_carryOut_95 : decode cX2_carryOut 95 = .ok (.iload_n 3, 1) := by decide +kernel
theorem dX2_carryOut_96 : decode cX2_carryOut 96 = .ok (.invokevirtual 96, 3) := by decide +kernel
theorem dX2_carryOut_99 : decode cX2_carryOut 99 = .ok (.goto 88, 3) := by decide +kernel
theorem dX2_carryOut_102 : decode cX2_carryOut 102 = .ok (.aload_n 1, 1) := by decide +kernel
theorem dX2_carryOut_103 : decode cX2_carryOut 103 = .ok (.iload_n 3, 1) := by decide +kernel
theorem dX2_carryOut_104 : decode cX2_carryOut 104 = .ok (.iconst 0, 1) := by decide +kernel
theorem dX2_carryOut_105 : decode cX2_carryOut 105 = .ok (.invokevirtual 100, 3) := by decide +kernel
theorem dX2_carryOut_108 : decode cX2_carryOut 108 = .ok (.goto 79, 3) := by decide +kernel
theorem dX2_carryOut_111 : decode cX2_carryOut 111 = .ok (.aload_n 1, 1) := by decide +kernel
theorem dX2_carryOut_112 : decode cX2_carryOut 112 = .ok (.iload_n 3, 1) := by decide +kernel
theorem dX2_carryOut_113 : decode cX2_carryOut 113 = .ok (.iconst 1, 1) := by decide +kernel
theorem dX2_carryOut_114 : decode cX2_carryOut 114 = .ok (.invokevirtual 100, 3) := by decide +kernel
theorem dX2_carryOut_117 : decode cX2_carryOut 117 = .ok (.goto 70, 3) := by decide +kernel
theorem dX2_carryOut_120 : decode cX2_carryOut 120 = .ok (.aload_n 1, 1) := by decide +kernel
theorem dX2_carryOut_121 : decode cX2_carryOut 121 = .ok (.getfield 71, 3) := by decide +kernel
theorem dX2_carryOut_124 : decode cX2_carryOut 124 = .ok (.iload_n 3, 1) := by decide +kernel
theorem dX2_carryOut_125 : decode cX2_carryOut 125 = .ok (.iload 4, 2) := by decide +kernel
theorem dX2_carryOut_127 : decode cX2_carryOut 127 = .ok (.aload_n 0, 1) := by decide +kernel
theorem dX2_carryOut_128 : decode cX2_carryOut 128 = .ok (.getfield 27, 3) := by decide +kernel
theorem dX2_carryOut_131 : decode cX2_carryOut 131 = .ok (.iconst 2, 1) := by decide +kernel
theorem dX2_carryOut_132 : decode cX2_carryOut 132 = .ok (.invokestatic 84, 3) := by decide +kernel
theorem dX2_carryOut_135 : decode cX2_carryOut 135 = .ok (.invokevirtual 104, 3) := by decide +kernel
theorem dX2_carryOut_138 : decode cX2_carryOut 138 = .ok (.pop, 1) := by decide +kernel
theorem dX2_carryOut_139 : decode cX2_carryOut 139 = .ok (.goto 48, 3) := by decide +kernel
theorem dX2_carryOut_142 : decode cX2_carryOut 142 = .ok (.aload_n 1, 1) := by decide +kernel
theorem dX2_carryOut_143 : decode cX2_carryOut 143 = .ok (.iload_n 3, 1) := by decide +kernel
theorem dX2_carryOut_144 : decode cX2_carryOut 144 = .ok (.putfield 108, 3) := by decide +kernel
theorem dX2_carryOut_147 : decode cX2_carryOut 147 = .ok (.goto 40, 3) := by decide +kernel
theorem dX2_carryOut_150 : decode cX2_carryOut 150 = .ok (.aload_n 1, 1) := by decide +kernel
theorem dX2_carryOut_151 : decode cX2_carryOut 151 = .ok (.dup, 1) := by decide +kernel
theorem dX2_carryOut_152 : decode cX2_carryOut 152 = .ok (.getfield 111, 3) := by decide +kernel
theorem dX2_carryOut_155 : decode cX2_carryOut 155 = .ok (.iconst 1, 1) := by decide +kernel
theorem dX2_carryOut_156 : decode cX2_carryOut 156 = .ok (.iload_n 3, 1) := by decide +kernel
theorem dX2_carryOut_157 : decode cX2_carryOut 157 = .ok (.ishl, 1) := by decide +kernel
theorem dX2_carryOut_158 : decode cX2_carryOut 158 = .ok (.ior, 1) := by decide +kernel
theorem dX2_carryOut_159 : decode cX2_carryOut 159 = .ok (.putfield 111, 3) := by decide +kernel
theorem dX2_carryOut_162 : decode cX2_carryOut 162 = .ok (.goto 25, 3) := by decide +kernel
theorem dX2_carryOut_165 : decode cX2_carryOut 165 = .ok (.aload_n 1, 1) := by decide +kernel
theorem dX2_carryOut_166 : decode cX2_carryOut 166 = .ok (.dup, 1) := by decide +kernel
theorem dX2_carryOut_167 : decode cX2_carryOut 167 = .ok (.getfield 111, 3) := by decide +kernel
theorem dX2_carryOut_170 : decode cX2_carryOut 170 = .ok (.iconst 1, 1) := by decide +kernel
theorem dX2_carryOut_171 : decode cX2_carryOut 171 = .ok (.iload_n 3, 1) := by decide +kernel
theorem dX2_carryOut_172 : decode cX2_carryOut 172 = .ok (.ishl, 1) := by decide +kernel
theorem dX2_carryOut_173 : decode cX2_carryOut 173 = .ok (.iconst (-1), 1) := by decide +kernel
theorem dX2_carryOut_174 : decode cX2_carryOut 174 = .ok (.ixor, 1) := by decide +kernel
theorem dX2_carryOut_175 : decode cX2_carryOut 175 = .ok (.iand, 1) := by decide +kernel
theorem dX2_carryOut_176 : decode cX2_carryOut 176 = .ok (.putfield 111, 3) := by decide +kernel
theorem dX2_carryOut_179 : decode cX2_carryOut 179 = .ok (.goto 8, 3) := by decide +kernel
theorem dX2_carryOut_182 : decode cX2_carryOut 182 = .ok (.aload_n 1, 1) := by decide +kernel
theorem dX2_carryOut_183 : decode cX2_carryOut 183 = .ok (.iload_n 3, 1) := by decide +kernel
theorem dX2_carryOut_184 : decode cX2_carryOut 184 = .ok (.putfield 114, 3) := by decide +kernel
theorem dX2_carryOut_187 : decode cX2_carryOut 187 = .ok (.return_, 1) := by decide +kernel
theorem dX2_advance_0 : decode cX2_advance 0 = .ok (.aload_n 0, 1) := by decide +kernel
theorem dX2_advance_1 : decode cX2_advance 1 = .ok (.aload_n 0, 1) := by decide +kernel
theorem dX2_advance_2 : decode cX2_advance 2 = .ok (.getfield 21, 3) := by decide +kernel
theorem dX2_advance_5 : decode cX2_advance 5 = .ok (.putfield 18, 3) := by decide +kernel
theorem dX2_advance_8 : decode cX2_advance 8 = .ok (.iconst 0, 1) := by decide +kernel
theorem dX2_advance_9 : decode cX2_advance 9 = .ok (.istore_n 2, 1) := by decide +kernel
theorem dX2_advance_10 : decode cX2_advance 10 = .ok (.iload_n 2, 1) := by decide +kernel
theorem dX2_advance_11 : decode cX2_advance 11 = .ok (.sipush 250, 3) := by decide +kernel
theorem dX2_advance_14 : decode cX2_advance 14 = .ok (.if_icmp .ge 32, 3) := by decide +kernel
theorem dX2_advance_17 : decode cX2_advance 17 = .ok (.aload_n 1, 1) := by decide +kernel
theorem dX2_advance_18 : decode cX2_advance 18 = .ok (.aload_n 0, 1) := by decide +kernel
theorem dX2_advance_19 : decode cX2_advance 19 = .ok (.getfield 18, 3) := by decide +kernel
theorem dX2_advance_22 : decode cX2_advance 22 = .ok (.invokevirtual 117, 3) := by decide +kernel
theorem dX2_advance_25 : decode cX2_advance 25 = .ok (.bipush 32, 2) := by decide +kernel
theorem dX2_advance_27 : decode cX2_advance 27 = .ok (.if_icmp .ne 19, 3) := by decide +kernel
theorem dX2_advance_30 : decode cX2_advance 30 = .ok (.aload_n 0, 1) := by decide +kernel
theorem dX2_advance_31 : decode cX2_advance 31 = .ok (.dup, 1) := by decide +kernel
theorem dX2_advance_32 : decode cX2_advance 32 = .ok (.getfield 18, 3) := by decide +kernel
theorem dX2_advance_35 : decode cX2_advance 35 = .ok (.iconst 1, 1) := by decide +kernel
theorem dX2_advance_36 : decode cX2_advance 36 = .ok (.iadd, 1) := by decide +kernel
theorem dX2_advance_37 : decode cX2_advance 37 = .ok (.putfield 18, 3) := by decide +kernel
theorem dX2_advance_40 : decode cX2_advance 40 = .ok (.iinc 2 1, 3) := by decide +kernel
theorem dX2_advance_43 : decode cX2_advance 43 = .ok (.goto (-33), 3) := by decide +kernel
theorem dX2_advance_46 : decode cX2_advance 46 = .ok (.aload_n 1, 1) := by decide +kernel
theorem dX2_advance_47 : decode cX2_advance 47 = .ok (.aload_n 0, 1) := by decide +kernel
theorem dX2_advance_48 : decode cX2_advance 48 = .ok (.getfield 18, 3) := by decide +kernel
theorem dX2_advance_51 : decode cX2_advance 51 = .ok (.invokevirtual 117, 3) := by decide +kernel
theorem dX2_advance_54 : decode cX2_advance 54 = .ok (.istore_n 2, 1) := by decide +kernel
theorem dX2_advance_55 : decode cX2_advance 55 = .ok (.aload_n 0, 1) := by decide +kernel
theorem dX2_advance_56 : decode cX2_advance 56 = .ok (.aload_n 0, 1) := by decide +kernel
theorem dX2_advance_57 : decode cX2_advance 57 = .ok (.getfield 18, 3) := by decide +kernel
theorem dX2_advance_60 : decode cX2_advance 60 = .ok (.iconst 1, 1) := by decide +kernel
theorem dX2_advance_61 : decode cX2_advance 61 = .ok (.iadd, 1) := by decide +kernel
theorem dX2_advance_62 : decode cX2_advance 62 = .ok (.putfield 21, 3) := by decide +kernel
theorem dX2_advance_65 : decode cX2_advance 65 = .ok (.iload_n 2, 1) := by decide +kernel
theorem dX2_advance_66 : decode cX2_advance 66 = .ok (.iconst (-1), 1) := by decide +kernel
theorem dX2_advance_67 : decode cX2_advance 67 = .ok (.if_icmp .ne 19, 3) := by decide +kernel
theorem dX2_advance_70 : decode cX2_advance 70 = .ok (.aload_n 0, 1) := by decide +kernel
theorem dX2_advance_71 : decode cX2_advance 71 = .ok (.iconst 0, 1) := by decide +kernel
theorem dX2_advance_72 : decode cX2_advance 72 = .ok (.putfield 15, 3) := by decide +kernel
theorem dX2_advance_75 : decode cX2_advance 75 = .ok (.aload_n 0, 1) := by decide +kernel
theorem dX2_advance_76 : decode cX2_advance 76 = .ok (.aload_n 0, 1) := by decide +kernel
theorem dX2_advance_77 : decode cX2_advance 77 = .ok (.getfield 18, 3) := by decide +kernel
theorem dX2_advance_80 : decode cX2_advance 80 = .ok (.putfield 21, 3) := by decide +kernel
theorem dX2_advance_83 : decode cX2_advance 83 = .ok (.goto 135, 3) := by decide +kernel
theorem dX2_advance_86 : decode cX2_advance 86 = .ok (.iload_n 2, 1) := by decide +kernel
theorem dX2_advance_87 : decode cX2_advance 87 = .ok (.invokestatic 120, 3) := by decide +kernel
theorem dX2_advance_90 : decode cX2_advance 90 = .ok (.ifCond .eq 50, 3) := by decide +kernel
theorem dX2_advance_93 : decode cX2_advance 93 = .ok (.aload_n 0, 1) := by decide +kernel
theorem dX2_advance_94 : decode cX2_advance 94 = .ok (.iconst 1, 1) := by decide +kernel
theorem dX2_advance_95 : decode cX2_advance 95 = .ok (.putfield 15, 3) := by decide +kernel
theorem dX2_advance_98 : decode cX2_advance 98 = .ok (.iconst 0, 1) := by decide +kernel
theorem dX2_advance_99 : decode cX2_advance 99 = .ok (.istore_n 3, 1) := by decide +kernel
theorem dX2_advance_100 : decode cX2_advance 100 = .ok (.iload_n 3, 1) := by decide +kernel
theorem dX2_advance_101 : decode cX2_advance 101 = .ok (.sipush 250, 3) := by decide +kernel
theorem dX2_advance_104 : decode cX2_advance 104 = .ok (.if_icmp .ge 33, 3) := by decide +kernel
theorem dX2_advance_107 : decode cX2_advance 107 = .ok (.aload_n 1, 1) := by decide +kernel
theorem dX2_advance_108 : decode cX2_advance 108 = .ok (.aload_n 0, 1) := by decide +kernel
theorem dX2_advance_109 : decode cX2_advance 109 = .ok (.getfield 21, 3) := by decide +kernel
theorem dX2_advance_112 : decode cX2_advance 112 = .ok (.invokevirtual 117, 3) := by decide +kernel
theorem dX2_advance_115 : decode cX2_advance 115 = .ok (.invokestatic 120, 3) := by decide +kernel
theorem dX2_advance_118 : decode cX2_advance 118 = .ok (.ifCond .eq 19, 3) := by decide +kernel
theorem dX2_advance_121 : decode cX2_advance 121 = .ok (.aload_n 0, 1) := by decide +kernel
theorem dX2_advance_122 : decode cX2_advance 122 = .ok (.dup, 1) := by decide +kernel
theorem dX2_advance_123 : decode cX2_advance 123 = .ok (.getfield 21, 3) := by decide +kernel
theorem dX2_advance_126 : decode cX2_advance 126 = .ok (.iconst 1, 1) := by decide +kernel
theorem dX2_advance_127 : decode cX2_advance 127 = .ok (.iadd, 1) := by decide +kernel
theorem dX2_advance_128 : decode cX2_advance 128 = .ok (.putfield 21, 3) := by decide +kernel
theorem dX2_advance_131 : decode cX2_advance 131 = .ok (.iinc 3 1, 3) := by decide +kernel
theorem dX2_advance_134 : decode cX2_advance 134 = .ok (.goto (-34), 3) := by decide +kernel
theorem dX2_advance_137 : decode cX2_advance 137 = .ok (.goto 81, 3) := by decide +kernel
theorem dX2_advance_140 : decode cX2_advance 140 = .ok (.iload_n 2, 1) := by decide +kernel
theorem dX2_advance_141 : decode cX2_advance 141 = .ok (.invokestatic 124, 3) := by decide +kernel
theorem dX2_advance_144 : decode cX2_advance 144 = .ok (.ifCond .eq 59, 3) := by decide +kernel
theorem dX2_advance_147 : decode cX2_advance 147 = .ok (.aload_n 0, 1) := by decide +kernel
theorem dX2_advance_148 : decode cX2_advance 148 = .ok (.iconst 2, 1) := by decide +kernel
theorem dX2_advance_149 : decode cX2_advance 149 = .ok (.putfield 15, 3) := by decide +kernel
theorem dX2_advance_152 : decode cX2_advance 152 = .ok (.iconst 0, 1) := by decide +kernel
theorem dX2_advance_153 : decode cX2_advance 153 = .ok (.istore_n 3, 1) := by decide +kernel
theorem dX2_advance_154 : decode cX2_advance 154 = .ok (.iload_n 3, 1) := by decide +kernel
theorem dX2_advance_155 : decode cX2_advance 155 = .ok (.sipush 250, 3) := by decide +kernel
theorem dX2_advance_158 : decode cX2_advance 158 = .ok (.if_icmp .ge 33, 3) := by decide +kernel
theorem dX2_advance_161 : decode cX2_advance 161 = .ok (.aload_n 1, 1) := by decide +kernel
theorem dX2_advance_162 : decode cX2_advance 162 = .ok (.aload_n 0, 1) := by decide +kernel
theorem dX2_advance_163 : decode cX2_advance 163 = .ok (.getfield 21, 3) := by decide +kernel
theorem dX2_advance_166 : decode cX2_advance 166 = .ok (.invokevirtual 117, 3) := by decide +kernel
theorem dX2_advance_169 : decode cX2_advance 169 = .ok (.invokestatic 124, 3) := by decide +kernel
theorem dX2_advance_172 : decode cX2_advance 172 = .ok (.ifCond .eq 19, 3) := by decide +kernel
theorem dX2_advance_175 : decode cX2_advance 175 = .ok (.aload_n 0, 1) := by decide +kernel
theorem dX2_advance_176 : decode cX2_advance 176 = .ok (.dup, 1) := by decide +kernel
theorem dX2_advance_177 : decode cX2_advance 177 = .ok (.getfield 21, 3) := by decide +kernel
theorem dX2_advance_180 : decode cX2_advance 180 = .ok (.iconst 1, 1) := by decide +kernel
theorem dX2_advance_181 : decode cX2_advance 181 = .ok (.iadd, 1) := by decide +kernel
theorem dX2_advance_182 : decode cX2_advance 182 = .ok (.putfield 21, 3) := by decide +kernel
theorem dX2_advance_185 : decode cX2_advance 185 = .ok (.iinc 3 1, 3) := by decide +kernel
theorem dX2_advance_188 : decode cX2_advance 188 = .ok (.goto (-34), 3) := by decide +kernel
theorem dX2_advance_191 : decode cX2_advance 191 = .ok (.aload_n 0, 1) := by decide +kernel
theorem dX2_advance_192 : decode cX2_advance 192 = .ok (.aload_n 0, 1) := by decide +kernel
theorem dX2_advance_193 : decode cX2_advance 193 = .ok (.aload_n 1, 1) := by decide +kernel
theorem dX2_advance_194 : decode cX2_advance 194 = .ok (.invokevirtual 127, 3) := by decide +kernel
theorem dX2_advance_197 : decode cX2_advance 197 = .ok (.putfield 24, 3) := by decide +kernel
theorem dX2_advance_200 : decode cX2_advance 200 = .ok (.goto 18, 3) := by decide +kernel
theorem dX2_advance_203 : decode cX2_advance 203 = .ok (.aload_n 0, 1) := by decide +kernel
theorem dX2_advance_204 : decode cX2_advance 204 = .ok (.iload_n 2, 1) := by decide +kernel
theorem dX2_advance_205 : decode cX2_advance 205 = .ok (.bipush 59, 2) := by decide +kernel
theorem dX2_advance_207 : decode cX2_advance 207 = .ok (.if_icmp .ne 7, 3) := by decide +kernel
theorem dX2_advance_210 : decode cX2_advance 210 = .ok (.iconst 3, 1) := by decide +kernel
theorem dX2_advance_211 : decode cX2_advance 211 = .ok (.goto 4, 3) := by decide +kernel
theorem dX2_advance_214 : decode cX2_advance 214 = .ok (.iconst 4, 1) := by decide +kernel
theorem dX2_advance_215 : decode cX2_advance 215 = .ok (.putfield 15, 3) := by decide +kernel
theorem dX2_advance_218 : decode cX2_advance 218 = .ok (.return_, 1) := by decide +kernel
theorem dX2_isSmall_0 : decode cX2_isSmall 0 = .ok (.iload_n 0, 1) := by decide +kernel
theorem dX2_isSmall_1 : decode cX2_isSmall 1 = .ok (.bipush 97, 2) := by decide +kernel
theorem dX2_isSmall_3 : decode cX2_isSmall 3 = .ok (.if_icmp .lt 13, 3) := by decide +kernel
theorem dX2_isSmall_6 : decode cX2_isSmall 6 = .ok (.iload_n 0, 1) := by decide +kernel
theorem dX2_isSmall_7 : decode cX2_isSmall 7 = .ok (.bipush 122, 2) := by decide +kernel
theorem dX2_isSmall_9 : decode cX2_isSmall 9 = .ok (.if_icmp .gt 7, 3) := by decide +kernel
theorem dX2_isSmall_12 : decode cX2_isSmall 12 = .ok (.iconst 1, 1) := by decide +kernel
theorem dX2_isSmall_13 : decode cX2_isSmall 13 = .ok (.goto 4, 3) := by decide +kernel
theorem dX2_isSmall_16 : decode cX2_isSmall 16 = .ok (.iconst 0, 1) := by decide +kernel
theorem dX2_isSmall_17 : decode cX2_isSmall 17 = .ok (.ireturn, 1) := by decide +kernel
theorem dX2_isDigit_0 : decode cX2_isDigit 0 = .ok (.iload_n 0, 1) := by decide +kernel
theorem dX2_isDigit_1 : decode cX2_isDigit 1 = .ok (.bipush 48, 2) := by decide +kernel
theorem dX2_isDigit_3 : decode cX2_isDigit 3 = .ok (.if_icmp .lt 13, 3) := by decide +kernel
theorem dX2_isDigit_6 : decode cX2_isDigit 6 = .ok (.iload_n 0, 1) := by decide +kernel
theorem dX2_isDigit_7 : decode cX2_isDigit 7 = .ok (.bipush 57, 2) := by decide +kernel
theorem dX2_isDigit_9 : decode cX2_isDigit 9 = .ok (.if_icmp .gt 7, 3) := by decide +kernel
theorem dX2_isDigit_12 : decode cX2_isDigit 12 = .ok (.iconst 1, 1) := by decide +kernel
theorem dX2_isDigit_13 : decode cX2_isDigit 13 = .ok (.goto 4, 3) := by decide +kernel
theorem dX2_isDigit_16 : decode cX2_isDigit 16 = .ok (.iconst 0, 1) := by decide +kernel
theorem dX2_isDigit_17 : decode cX2_isDigit 17 = .ok (.ireturn, 1) := by decide +kernel
theorem dX2_numberHere_0 : decode cX2_numberHere 0 = .ok (.aload_n 0, 1) := by decide +kernel
theorem dX2_numberHere_1 : decode cX2_numberHere 1 = .ok (.getfield 21, 3) := by decide +kernel
theorem dX2_numberHere_4 : decode cX2_numberHere 4 = .ok (.aload_n 0, 1) := by decide +kernel
theorem dX2_numberHere_5 : decode cX2_numberHere 5 = .ok (.getfield 18, 3) := by decide +kernel
theorem dX2_numberHere_8 : decode cX2_numberHere 8 = .ok (.isub, 1) := by decide +kernel
theorem dX2_numberHere_9 : decode cX2_numberHere 9 = .ok (.iconst 3, 1) := by decide +kernel
theorem dX2_numberHere_10 : decode cX2_numberHere 10 = .ok (.if_icmp .le 7, 3) := by decide +kernel
theorem dX2_numberHere_13 : decode cX2_numberHere 13 = .ok (.sipush 1000, 3) := by decide +kernel
theorem dX2_numberHere_16 : decode cX2_numberHere 16 = .ok (.ireturn, 1) := by decide +kernel
theorem dX2_numberHere_17 : decode cX2_numberHere 17 = .ok (.iconst 0, 1) := by decide +kernel
theorem dX2_numberHere_18 : decode cX2_numberHere 18 = .ok (.istore_n 2, 1) := by decide +kernel
theorem dX2_numberHere_19 : decode cX2_numberHere 19 = .ok (.aload_n 0, 1) := by decide +kernel
theorem dX2_numberHere_20 : decode cX2_numberHere 20 = .ok (.getfield 18, 3) := by decide +kernel
theorem dX2_numberHere_23 : decode cX2_numberHere 23 = .ok (.istore_n 3, 1) := by decide +kernel
theorem dX2_numberHere_24 : decode cX2_numberHere 24 = .ok (.iload_n 3, 1) := by decide +kernel
theorem dX2_numberHere_25 : decode cX2_numberHere 25 = .ok (.aload_n 0, 1) := by decide +kernel
theorem dX2_numberHere_26 : decode cX2_numberHere 26 = .ok (.getfield 21, 3) := by decide +kernel
theorem dX2_numberHere_29 : decode cX2_numberHere 29 = .ok (.if_icmp .ge 23, 3) := by decide +kernel
theorem dX2_numberHere_32 : decode cX2_numberHere 32 = .ok (.bipush 10, 2) := by decide +kernel
theorem dX2_numberHere_34 : decode cX2_numberHere 34 = .ok (.iload_n 2, 1) := by decide +kernel
theorem dX2_numberHere_35 : decode cX2_numberHere 35 = .ok (.imul, 1) := by decide +kernel
theorem dX2_numberHere_36 : decode cX2_numberHere 36 = .ok (.aload_n 1, 1) := by decide +kernel
theorem dX2_numberHere_37 : decode cX2_numberHere 37 = .ok (.iload_n 3, 1) := by decide +kernel
theorem dX2_numberHere_38 : decode cX2_numberHere 38 = .ok (.invokevirtual 117, 3) := by decide +kernel
theorem dX2_numberHere_41 : decode cX2_numberHere 41 = .ok (.iadd, 1) := by decide +kernel
theorem dX2_numberHere_42 : decode cX2_numberHere 42 = .ok (.bipush 48, 2) := by decide +kernel
theorem dX2_numberHere_44 : decode cX2_numberHere 44 = .ok (.isub, 1) := by decide +kernel
theorem dX2_numberHere_45 : decode cX2_numberHere 45 = .ok (.istore_n 2, 1) := by decide +kernel
theorem dX2_numberHere_46 : decode cX2_numberHere 46 = .ok (.iinc 3 1, 3) := by decide +kernel
theorem dX2_numberHere_49 : decode cX2_numberHere 49 = .ok (.goto (-25), 3) := by decide +kernel
theorem dX2_numberHere_52 : decode cX2_numberHere 52 = .ok (.iload_n 2, 1) := by decide +kernel
theorem dX2_numberHere_53 : decode cX2_numberHere 53 = .ok (.ireturn, 1) := by decide +kernel
theorem dX2_wordHere_0 : decode cX2_wordHere 0 = .ok (.iconst 0, 1) := by decide +kernel
theorem dX2_wordHere_1 : decode cX2_wordHere 1 = .ok (.istore_n 2, 1) := by decide +kernel
theorem dX2_wordHere_2 : decode cX2_wordHere 2 = .ok (.iload_n 2, 1) := by decide +kernel
theorem dX2_wordHere_3 : decode cX2_wordHere 3 = .ok (.bipush 9, 2) := by decide +kernel
theorem dX2_wordHere_5 : decode cX2_wordHere 5 = .ok (.if_icmp .gt 23, 3) := by decide +kernel
theorem dX2_wordHere_8 : decode cX2_wordHere 8 = .ok (.aload_n 0, 1) := by decide +kernel
theorem dX2_wordHere_9 : decode cX2_wordHere 9 = .ok (.aload_n 1, 1) := by decide +kernel
theorem dX2_wordHere_10 : decode cX2_wordHere 10 = .ok (.iload_n 2, 1) := by decide +kernel
theorem dX2_wordHere_11 : decode cX2_wordHere 11 = .ok (.invokestatic 130, 3) := by decide +kernel
theorem dX2_wordHere_14 : decode cX2_wordHere 14 = .ok (.invokevirtual 134, 3) := by decide +kernel
theorem dX2_wordHere_17 : decode cX2_wordHere 17 = .ok (.ifCond .eq 5, 3) := by decide +kernel
theorem dX2_wordHere_20 : decode cX2_wordHere 20 = .ok (.iload_n 2, 1) := by decide +kernel
theorem dX2_wordHere_21 : decode cX2_wordHere 21 = .ok (.ireturn, 1) := by decide +kernel
theorem dX2_wordHere_22 : decode cX2_wordHere 22 = .ok (.iinc 2 1, 3) := by decide +kernel
theorem dX2_wordHere_25 : decode cX2_wordHere 25 = .ok (.goto (-23), 3) := by decide +kernel
theorem dX2_wordHere_28 : decode cX2_wordHere 28 = .ok (.iconst (-1), 1) := by decide +kernel
theorem dX2_wordHere_29 : decode cX2_wordHere 29 = .ok (.ireturn, 1) := by decide +kernel
theorem dX2_isHere_0 : decode cX2_isHere 0 = .ok (.aload_n 2, 1) := by decide +kernel
theorem dX2_isHere_1 : decode cX2_isHere 1 = .ok (.invokevirtual 138, 3) := by decide +kernel
theorem dX2_isHere_4 : decode cX2_isHere 4 = .ok (.aload_n 0, 1) := by decide +kernel
theorem dX2_isHere_5 : decode cX2_isHere 5 = .ok (.getfield 21, 3) := by decide +kernel
theorem dX2_isHere_8 : decode cX2_isHere 8 = .ok (.aload_n 0, 1) := by decide +kernel
theorem dX2_isHere_9 : decode cX2_isHere 9 = .ok (.getfield 18, 3) := by decide +kernel
theorem dX2_isHere_12 : decode cX2_isHere 12 = .ok (.isub, 1) := by decide +kernel
theorem dX2_isHere_13 : decode cX2_isHere 13 = .ok (.if_icmp .eq 5, 3) := by decide +kernel
theorem dX2_isHere_16 : decode cX2_isHere 16 = .ok (.iconst 0, 1) := by decide +kernel
theorem dX2_isHere_17 : decode cX2_isHere 17 = .ok (.ireturn, 1) := by decide +kernel
theorem dX2_isHere_18 : decode cX2_isHere 18 = .ok (.iconst 0, 1) := by decide +kernel
theorem dX2_isHere_19 : decode cX2_isHere 19 = .ok (.istore_n 3, 1) := by decide +kernel
theorem dX2_isHere_20 : decode cX2_isHere 20 = .ok (.iload_n 3, 1) := by decide +kernel
theorem dX2_isHere_21 : decode cX2_isHere 21 = .ok (.aload_n 2, 1) := by decide +kernel
theorem dX2_isHere_22 : decode cX2_isHere 22 = .ok (.invokevirtual 138, 3) := by decide +kernel
theorem dX2_isHere_25 : decode cX2_isHere 25 = .ok (.if_icmp .ge 29, 3) := by decide +kernel
theorem dX2_isHere_28 : decode cX2_isHere 28 = .ok (.aload_n 2, 1) := by decide +kernel
theorem dX2_isHere_29 : decode cX2_isHere 29 = .ok (.iload_n 3, 1) := by decide +kernel
theorem dX2_isHere_30 : decode cX2_isHere 30 = .ok (.invokevirtual 144, 3) := by decide +kernel
theorem dX2_isHere_33 : decode cX2_isHere 33 = .ok (.aload_n 1, 1) := by decide +kernel
theorem dX2_isHere_34 : decode cX2_isHere 34 = .ok (.aload_n 0, 1) := by decide +kernel
theorem dX2_isHere_35 : decode cX2_isHere 35 = .ok (.getfield 18, 3) := by decide +kernel
theorem dX2_isHere_38 : decode cX2_isHere 38 = .ok (.iload_n 3, 1) := by decide +kernel
theorem dX2_isHere_39 : decode cX2_isHere 39 = .ok (.iadd, 1) := by decide +kernel
theorem dX2_isHere_40 : decode cX2_isHere 40 = .ok (.invokevirtual 117, 3) := by decide +kernel
theorem dX2_isHere_43 : decode cX2_isHere 43 = .ok (.if_icmp .eq 5, 3) := by decide +kernel
theorem dX2_isHere_46 : decode cX2_isHere 46 = .ok (.iconst 0, 1) := by decide +kernel
theorem dX2_isHere_47 : decode cX2_isHere 47 = .ok (.ireturn, 1) := by decide +kernel
theorem dX2_isHere_48 : decode cX2_isHere 48 = .ok (.iinc 3 1, 3) := by decide +kernel
theorem dX2_isHere_51 : decode cX2_isHere 51 = .ok (.goto (-31), 3) := by decide +kernel
theorem dX2_isHere_54 : decode cX2_isHere 54 = .ok (.iconst 1, 1) := by decide +kernel
theorem dX2_isHere_55 : decode cX2_isHere 55 = .ok (.ireturn, 1) := by decide +kernel
theorem dX2_lettersOf_0 : decode cX2_lettersOf 0 = .ok (.iload_n 0, 1) := by decide +kernel
theorem dX2_lettersOf_1 : decode cX2_lettersOf 1 = .ok (.tableswitch 78 0 8 #[51, 54, 57, 60, 63, 66, 69, 72, 75], 51) := by decide +kernel
theorem dX2_lettersOf_52 : decode cX2_lettersOf 52 = .ok (.ldc 148, 2) := by decide +kernel
theorem dX2_lettersOf_54 : decode cX2_lettersOf 54 = .ok (.areturn, 1) := by decide +kernel
theorem dX2_lettersOf_55 : decode cX2_lettersOf 55 = .ok (.ldc 150, 2) := by decide +kernel
theorem dX2_lettersOf_57 : decode cX2_lettersOf 57 = .ok (.areturn, 1) := by decide +kernel
theorem dX2_lettersOf_58 : decode cX2_lettersOf 58 = .ok (.ldc 152, 2) := by decide +kernel
theorem dX2_lettersOf_60 : decode cX2_lettersOf 60 = .ok (.areturn, 1) := by decide +kernel
theorem dX2_lettersOf_61 : decode cX2_lettersOf 61 = .ok (.ldc 154, 2) := by decide +kernel
theorem dX2_lettersOf_63 : decode cX2_lettersOf 63 = .ok (.areturn, 1) := by decide +kernel
theorem dX2_lettersOf_64 : decode cX2_lettersOf 64 = .ok (.ldc 156, 2) := by decide +kernel
theorem dX2_lettersOf_66 : decode cX2_lettersOf 66 = .ok (.areturn, 1) := by decide +kernel
theorem dX2_lettersOf_67 : decode cX2_lettersOf 67 = .ok (.ldc 158, 2) := by decide +kernel
theorem dX2_lettersOf_69 : decode cX2_lettersOf 69 = .ok (.areturn, 1) := by decide +kernel
theorem dX2_lettersOf_70 : decode cX2_lettersOf 70 = .ok (.ldc 160, 2) := by decide +kernel
theorem dX2_lettersOf_72 : decode cX2_lettersOf 72 = .ok (.areturn, 1) := by decide +kernel
theorem dX2_lettersOf_73 : decode cX2_lettersOf 73 = .ok (.ldc 161, 2) := by decide +kernel
theorem dX2_lettersOf_75 : decode cX2_lettersOf 75 = .ok (.areturn, 1) := by decide +kernel
theorem dX2_lettersOf_76 : decode cX2_lettersOf 76 = .ok (.ldc 163, 2) := by decide +kernel
theorem dX2_lettersOf_78 : decode cX2_lettersOf 78 = .ok (.areturn, 1) := by decide +kernel
theorem dX2_lettersOf_79 : decode cX2_lettersOf 79 = .ok (.ldc 165, 2) := by decide +kernel
theorem dX2_lettersOf_81 : decode cX2_lettersOf 81 = .ok (.areturn, 1) := by decide +kernel
theorem dX3_init_0 : decode cX3_init 0 = .ok (.aload_n 0, 1) := by decide +kernel
theorem dX3_init_1 : decode cX3_init 1 = .ok (.invokespecial 3, 3) := by decide +kernel
theorem dX3_init_4 : decode cX3_init 4 = .ok (.aload_n 0, 1) := by decide +kernel
theorem dX3_init_5 : decode cX3_init 5 = .ok (.bipush 8, 2) := by decide +kernel
theorem dX3_init_7 : decode cX3_init 7 = .ok (.newarray .int, 2) := by decide +kernel
theorem dX3_init_9 : decode cX3_init 9 = .ok (.putfield 11, 3) := by decide +kernel
theorem dX3_init_12 : decode cX3_init 12 = .ok (.aload_n 0, 1) := by decide +kernel
theorem dX3_init_13 : decode cX3_init 13 = .ok (.bipush 8, 2) := by decide +kernel
theorem dX3_init_15 : decode cX3_init 15 = .ok (.newarray .int, 2) := by decide +kernel
theorem dX3_init_17 : decode cX3_init 17 = .ok (.putfield 15, 3) := by decide +kernel
theorem dX3_init_20 : decode cX3_init 20 = .ok (.aload_n 0, 1) := by decide +kernel
theorem dX3_init_21 : decode cX3_init 21 = .ok (.sipush 320, 3) := by decide +kernel
theorem dX3_init_24 : decode cX3_init 24 = .ok (.newarray .long, 2) := by decide +kernel
theorem dX3_init_26 : decode cX3_init 26 = .ok (.putfield 18, 3) := by decide +kernel
theorem dX3_init_29 : decode cX3_init 29 = .ok (.iconst 0, 1) := by decide +kernel
theorem dX3_init_30 : decode cX3_init 30 = .ok (.istore_n 1, 1) := by decide +kernel
theorem dX3_init_31 : decode cX3_init 31 = .ok (.iload_n 1, 1) := by decide +kernel
theorem dX3_init_32 : decode cX3_init 32 = .ok (.aload_n 0, 1) := by decide +kernel
theorem dX3_init_33 : decode cX3_init 33 = .ok (.getfield 11, 3) := by decide +kernel
theorem dX3_init_36 : decode cX3_init 36 = .ok (.arraylength, 1) := by decide +kernel
theorem dX3_init_37 : decode cX3_init 37 = .ok (.if_icmp .ge 16, 3) := by decide +kernel
theorem dX3_init_40 : decode cX3_init 40 = .ok (.aload_n 0, 1) := by decide +kernel
theorem dX3_init_41 : decode cX3_init 41 = .ok (.getfield 11, 3) := by decide +kernel
theorem dX3_init_44 : decode cX3_init 44 = .ok (.iload_n 1, 1) := by decide +kernel
theorem dX3_init_45 : decode cX3_init 45 = .ok (.iconst (-1), 1) := by decide +kernel
theorem dX3_init_46 : decode cX3_init 46 = .ok (.iastore, 1) := by decide +kernel
theorem dX3_init_47 : decode cX3_init 47 = .ok (.iinc 1 1, 3) := by decide +kernel
theorem dX3_init_50 : decode cX3_init 50 = .ok (.goto (-19), 3) := by decide +kernel
theorem dX3_init_53 : decode cX3_init 53 = .ok (.return_, 1) := by decide +kernel
theorem dX3_isShelf_0 : decode cX3_isShelf 0 = .ok (.iload_n 0, 1) := by decide +kernel
theorem dX3_isShelf_1 : decode cX3_isShelf 1 = .ok (.ifCond .lt 13, 3) := by decide +kernel
theorem dX3_isShelf_4 : decode cX3_isShelf 4 = .ok (.iload_n 0, 1) := by decide +kernel
theorem dX3_isShelf_5 : decode cX3_isShelf 5 = .ok (.bipush 8, 2) := by decide +kernel
theorem dX3_isShelf_7 : decode cX3_isShelf 7 = .ok (.if_icmp .ge 7, 3) := by decide +kernel
theorem dX3_isShelf_10 : decode cX3_isShelf 10 = .ok (.iconst 1, 1) := by decide +kernel
theorem dX3_isShelf_11 : decode cX3_isShelf 11 = .ok (.goto 4, 3) := by decide +kernel
theorem dX3_isShelf_14 : decode cX3_isShelf 14 = .ok (.iconst 0, 1) := by decide +kernel
theorem dX3_isShelf_15 : decode cX3_isShelf 15 = .ok (.ireturn, 1) := by decide +kernel
theorem dX3_heldIn_0 : decode cX3_heldIn 0 = .ok (.iload_n 1, 1) := by decide +kernel
theorem dX3_heldIn_1 : decode cX3_heldIn 1 = .ok (.invokestatic 22, 3) := by decide +kernel
theorem dX3_heldIn_4 : decode cX3_heldIn 4 = .ok (.ifCond .eq 14, 3) := by decide +kernel
theorem dX3_heldIn_7 : decode cX3_heldIn 7 = .ok (.aload_n 0, 1) := by decide +kernel
theorem dX3_heldIn_8 : decode cX3_heldIn 8 = .ok (.getfield 11, 3) := by decide +kernel
theorem dX3_heldIn_11 : decode cX3_heldIn 11 = .ok (.iload_n 1, 1) := by decide +kernel
theorem dX3_heldIn_12 : decode cX3_heldIn 12 = .ok (.invokestatic 26, 3) := by decide +kernel
theorem dX3_heldIn_15 : decode cX3_heldIn 15 = .ok (.goto 4, 3) := by decide +kernel
theorem dX3_heldIn_18 : decode cX3_heldIn 18 = .ok (.iconst (-1), 1) := by decide +kernel
theorem dX3_heldIn_19 : decode cX3_heldIn 19 = .ok (.ireturn, 1) := by decide +kernel
theorem dX3_hasRow_0 : decode cX3_hasRow 0 = .ok (.aload_n 0, 1) := by decide +kernel
theorem dX3_hasRow_1 : decode cX3_hasRow 1 = .ok (.iload_n 1, 1) := by decide +kernel
theorem dX3_hasRow_2 : decode cX3_hasRow 2 = .ok (.invokevirtual 30, 3) := by decide +kernel
theorem dX3_hasRow_5 : decode cX3_hasRow 5 = .ok (.ifCond .lt 16, 3) := by decide +kernel
theorem dX3_hasRow_8 : decode cX3_hasRow 8 = .ok (.aload_n 0, 1) := by decide +kernel
theorem dX3_hasRow_9 : decode cX3_hasRow 9 = .ok (.iload_n 1, 1) := by decide +kernel
theorem dX3_hasRow_10 : decode cX3_hasRow 10 = .ok (.invokevirtual 30, 3) := by decide +kernel
theorem dX3_hasRow_13 : decode cX3_hasRow 13 = .ok (.iconst 4, 1) := by decide +kernel
theorem dX3_hasRow_14 : decode cX3_hasRow 14 = .ok (.if_icmp .gt 7, 3) := by decide +kernel
theorem dX3_hasRow_17 : decode cX3_hasRow 17 = .ok (.iconst 1, 1) := by decide +kernel
theorem dX3_hasRow_18 : decode cX3_hasRow 18 = .ok (.goto 4, 3) := by decide +kernel
theorem dX3_hasRow_21 : decode cX3_hasRow 21 = .ok (.iconst 0, 1) := by decide +kernel
theorem dX3_hasRow_22 : decode cX3_hasRow 22 = .ok (.ireturn, 1) := by decide +kernel
theorem dX3_hasRinger_0 : decode cX3_hasRinger 0 = .ok (.aload_n 0, 1) := by decide +kernel
theorem dX3_hasRinger_1 : decode cX3_hasRinger 1 = .ok (.iload_n 1, 1) := by decide +kernel
theorem dX3_hasRinger_2 : decode cX3_hasRinger 2 = .ok (.invokevirtual 30, 3) := by decide +kernel
theorem dX3_hasRinger_5 : decode cX3_hasRinger 5 = .ok (.bipush 10, 2) := by decide +kernel
theorem dX3_hasRinger_7 : decode cX3_hasRinger 7 = .ok (.if_icmp .lt 7, 3) := by decide +kernel
theorem dX3_hasRinger_10 : decode cX3_hasRinger 10 = .ok (.iconst 1, 1) := by decide +kernel
theorem dX3_hasRinger_11 : decode cX3_hasRinger 11 = .ok (.goto 4, 3) := by decide +kernel
theorem dX3_hasRinger_14 : decode cX3_hasRinger 14 = .ok (.iconst 0, 1) := by decide +kernel
theorem dX3_hasRinger_15 : decode cX3_hasRinger 15 = .ok (.ireturn, 1) := by decide +kernel
theorem dX3_ringerIn_0 : decode cX3_ringerIn 0 = .ok (.aload_n 0, 1) := by decide +kernel
theorem dX3_ringerIn_1 : decode cX3_ringerIn 1 = .ok (.iload_n 1, 1) := by decide +kernel
theorem dX3_ringerIn_2 : decode cX3_ringerIn 2 = .ok (.invokevirtual 34, 3) := by decide +kernel
theorem dX3_ringerIn_5 : decode cX3_ringerIn 5 = .ok (.ifCond .eq 14, 3) := by decide +kernel
theorem dX3_ringerIn_8 : decode cX3_ringerIn 8 = .ok (.aload_n 0, 1) := by decide +kernel
theorem dX3_ringerIn_9 : decode cX3_ringerIn 9 = .ok (.iload_n 1, 1) := by decide +kernel
theorem dX3_ringerIn_10 : decode cX3_ringerIn 10 = .ok (.invokevirtual 30, 3) := by decide +kernel
theorem dX3_ringerIn_13 : decode cX3_ringerIn 13 = .ok (.bipush 10, 2) := by decide +kernel
theorem dX3_ringerIn_15 : decode cX3_ringerIn 15 = .ok (.isub, 1) := by decide +kernel
theorem dX3_ringerIn_16 : decode cX3_ringerIn 16 = .ok (.goto 4, 3) := by decide +kernel
theorem dX3_ringerIn_19 : decode cX3_ringerIn 19 = .ok (.iconst (-1), 1) := by decide +kernel
theorem dX3_ringerIn_20 : decode cX3_ringerIn 20 = .ok (.ireturn, 1) := by decide +kernel
theorem dX3_sizeOf_0 : decode cX3_sizeOf 0 = .ok (.aload_n 0, 1) := by decide +kernel
theorem dX3_sizeOf_1 : decode cX3_sizeOf 1 = .ok (.iload_n 1, 1) := by decide +kernel
theorem dX3_sizeOf_2 : decode cX3_sizeOf 2 = .ok (.invokevirtual 37, 3) := by decide +kernel
theorem dX3_sizeOf_5 : decode cX3_sizeOf 5 = .ok (.ifCond .eq 14, 3) := by decide +kernel
theorem dX3_sizeOf_8 : decode cX3_sizeOf 8 = .ok (.aload_n 0, 1) := by decide +kernel
theorem dX3_sizeOf_9 : decode cX3_sizeOf 9 = .ok (.getfield 15, 3) := by decide +kernel
theorem dX3_sizeOf_12 : decode cX3_sizeOf 12 = .ok (.iload_n 1, 1) := by decide +kernel
theorem dX3_sizeOf_13 : decode cX3_sizeOf 13 = .ok (.invokestatic 26, 3) := by decide +kernel
theorem dX3_sizeOf_16 : decode cX3_sizeOf 16 = .ok (.goto 4, 3) := by decide +kernel
theorem dX3_sizeOf_19 : decode cX3_sizeOf 19 = .ok (.iconst 0, 1) := by decide +kernel
theorem dX3_sizeOf_20 : decode cX3_sizeOf 20 = .ok (.ireturn, 1) := by decide +kernel
theorem dX3_hasPart_0 : decode cX3_hasPart 0 = .ok (.aload_n 0, 1) := by decide +kernel
theorem dX3_hasPart_1 : decode cX3_hasPart 1 = .ok (.iload_n 1, 1) := by decide +kernel
theorem dX3_hasPart_2 : decode cX3_hasPart 2 = .ok (.invokevirtual 37, 3) := by decide +kernel
theorem dX3_hasPart_5 : decode cX3_hasPart 5 = .ok (.ifCond .eq 35, 3) := by decide +kernel
theorem dX3_hasPart_8 : decode cX3_hasPart 8 = .ok (.iload_n 2, 1) := by decide +kernel
theorem dX3_hasPart_9 : decode cX3_hasPart 9 = .ok (.ifCond .lt 31, 3) := by decide +kernel
theorem dX3_hasPart_12 : decode cX3_hasPart 12 = .ok (.iload_n 3, 1) := by decide +kernel
theorem dX3_hasPart_13 : decode cX3_hasPart 13 = .ok (.ifCond .lt 27, 3) := by decide +kernel
theorem dX3_hasPart_16 : decode cX3_hasPart 16 = .ok (.iload_n 3, 1) := by decide +kernel
theorem dX3_hasPart_17 : decode cX3_hasPart 17 = .ok (.aload_n 0, 1) := by decide +kernel
theorem dX3_hasPart_18 : decode cX3_hasPart 18 = .ok (.iload_n 1, 1) := by decide +kernel
theorem dX3_hasPart_19 : decode cX3_hasPart 19 = .ok (.invokevirtual 40, 3) := by decide +kernel
theorem dX3_hasPart_22 : decode cX3_hasPart 22 = .ok (.if_icmp .gt 18, 3) := by decide +kernel
theorem dX3_hasPart_25 : decode cX3_hasPart 25 = .ok (.iload_n 2, 1) := by decide +kernel
theorem dX3_hasPart_26 : decode cX3_hasPart 26 = .ok (.aload_n 0, 1) := by decide +kernel
theorem dX3_hasPart_27 : decode cX3_hasPart 27 = .ok (.iload_n 1, 1) := by decide +kernel
theorem dX3_hasPart_28 : decode cX3_hasPart 28 = .ok (.invokevirtual 40, 3) := by decide +kernel
theorem dX3_hasPart_31 : decode cX3_hasPart 31 = .ok (.iload_n 3, 1) := by decide +kernel
theorem dX3_hasPart_32 : decode cX3_hasPart 32 = .ok (.isub, 1) := by decide +kernel
theorem dX3_hasPart_33 : decode cX3_hasPart 33 = .ok (.if_icmp .gt 7, 3) := by decide +kernel
theorem dX3_hasPart_36 : decode cX3_hasPart 36 = .ok (.iconst 1, 1) := by decide +kernel
theorem dX3_hasPart_37 : decode cX3_hasPart 37 = .ok (.goto 4, 3) := by decide +kernel
theorem dX3_hasPart_40 : decode cX3_hasPart 40 = .ok (.iconst 0, 1) := by decide +kernel
theorem dX3_hasPart_41 : decode cX3_hasPart 41 = .ok (.ireturn, 1) := by decide +kernel
theorem dX3_putRow_0 : decode cX3_putRow 0 = .ok (.aload_n 0, 1) := by decide +kernel
theorem dX3_putRow_1 : decode cX3_putRow 1 = .ok (.getfield 11, 3) := by decide +kernel
theorem dX3_putRow_4 : decode cX3_putRow 4 = .ok (.iload_n 1, 1) := by decide +kernel
theorem dX3_putRow_5 : decode cX3_putRow 5 = .ok (.iload_n 2, 1) := by decide +kernel
theorem dX3_putRow_6 : decode cX3_putRow 6 = .ok (.invokestatic 43, 3) := by decide +kernel
theorem dX3_putRow_9 : decode cX3_putRow 9 = .ok (.aload_n 0, 1) := by decide +kernel
theorem dX3_putRow_10 : decode cX3_putRow 10 = .ok (.getfield 15, 3) := by decide +kernel
theorem dX3_putRow_13 : decode cX3_putRow 13 = .ok (.iload_n 1, 1) := by decide +kernel
theorem dX3_putRow_14 : decode cX3_putRow 14 = .ok (.iload_n 3, 1) := by decide +kernel
theorem dX3_putRow_15 : decode cX3_putRow 15 = .ok (.invokestatic 43, 3) := by decide +kernel
theorem dX3_putRow_18 : decode cX3_putRow 18 = .ok (.iconst 0, 1) := by decide +kernel
theorem dX3_putRow_19 : decode cX3_putRow 19 = .ok (.istore 4, 2) := by decide +kernel
theorem dX3_putRow_21 : decode cX3_putRow 21 = .ok (.iload 4, 2) := by decide +kernel
theorem dX3_putRow_23 : decode cX3_putRow 23 = .ok (.bipush 40, 2) := by decide +kernel
theorem dX3_putRow_25 : decode cX3_putRow 25 = .ok (.if_icmp .ge 17, 3) := by decide +kernel
theorem dX3_putRow_28 : decode cX3_putRow 28 = .ok (.aload_n 0, 1) := by decide +kernel
theorem dX3_putRow_29 : decode cX3_putRow 29 = .ok (.iload_n 1, 1) := by decide +kernel
theorem dX3_putRow_30 : decode cX3_putRow 30 = .ok (.iload 4, 2) := by decide +kernel
theorem dX3_putRow_32 : decode cX3_putRow 32 = .ok (.lconst 0, 1) := by decide +kernel
theorem dX3_putRow_33 : decode cX3_putRow 33 = .ok (.invokevirtual 47, 3) := by decide +kernel
theorem dX3_putRow_36 : decode cX3_putRow 36 = .ok (.iinc 4 1, 3) := by decide +kernel
theorem dX3_putRow_39 : decode cX3_putRow 39 = .ok (.goto (-18), 3) := by decide +kernel
theorem dX3_putRow_42 : decode cX3_putRow 42 = .ok (.return_, 1) := by decide +kernel
theorem dX3_putRinger_0 : decode cX3_putRinger 0 = .ok (.aload_n 0, 1) := by decide +kernel
theorem dX3_putRinger_1 : decode cX3_putRinger 1 = .ok (.getfield 11, 3) := by decide +kernel
theorem dX3_putRinger_4 : decode cX3_putRinger 4 = .ok (.iload_n 1, 1) := by decide +kernel
theorem dX3_putRinger_5 : decode cX3_putRinger 5 = .ok (.iload_n 2, 1) := by decide +kernel
theorem dX3_putRinger_6 : decode cX3_putRinger 6 = .ok (.iconst (-1), 1) := by decide +kernel
theorem dX3_putRinger_7 : decode cX3_putRinger 7 = .ok (.if_icmp .ne 7, 3) := by decide +kernel
theorem dX3_putRinger_10 : decode cX3_putRinger 10 = .ok (.iconst (-1), 1) := by decide +kernel
theorem dX3_putRinger_11 : decode cX3_putRinger 11 = .ok (.goto 7, 3) := by decide +kernel
theorem dX3_putRinger_14 : decode cX3_putRinger 14 = .ok (.bipush 10, 2) := by decide +kernel
theorem dX3_putRinger_16 : decode cX3_putRinger 16 = .ok (.iload_n 2, 1) := by decide +kernel
theorem dX3_putRinger_17 : decode cX3_putRinger 17 = .ok (.iadd, 1) := by decide +kernel
theorem dX3_putRinger_18 : decode cX3_putRinger 18 = .ok (.invokestatic 43, 3) := by decide +kernel
theorem dX3_putRinger_21 : decode cX3_putRinger 21 = .ok (.return_, 1) := by decide +kernel
theorem dX3_putElement_0 : decode cX3_putElement 0 = .ok (.aload_n 0, 1) := by decide +kernel
theorem dX3_putElement_1 : decode cX3_putElement 1 = .ok (.iload_n 1, 1) := by decide +kernel
theorem dX3_putElement_2 : decode cX3_putElement 2 = .ok (.iload_n 2, 1) := by decide +kernel
theorem dX3_putElement_3 : decode cX3_putElement 3 = .ok (.aload_n 0, 1) := by decide +kernel
theorem dX3_putElement_4 : decode cX3_putElement 4 = .ok (.iload_n 1, 1) := by decide +kernel
theorem dX3_putElement_5 : decode cX3_putElement 5 = .ok (.invokevirtual 30, 3) := by decide +kernel
theorem dX3_putElement_8 : decode cX3_putElement 8 = .ok (.lload_n 3, 1) := by decide +kernel
theorem dX3_putElement_9 : decode cX3_putElement 9 = .ok (.invokestatic 51, 3) := by decide +kernel
theorem dX3_putElement_12 : decode cX3_putElement 12 = .ok (.invokevirtual 47, 3) := by decide +kernel
theorem dX3_putElement_15 : decode cX3_putElement 15 = .ok (.return_, 1) := by decide +kernel
theorem dX3_putLong_0 : decode cX3_putLong 0 = .ok (.iload_n 1, 1) := by decide +kernel
theorem dX3_putLong_1 : decode cX3_putLong 1 = .ok (.bipush 40, 2) := by decide +kernel
theorem dX3_putLong_3 : decode cX3_putLong 3 = .ok (.imul, 1) := by decide +kernel
theorem dX3_putLong_4 : decode cX3_putLong 4 = .ok (.iload_n 2, 1) := by decide +kernel
theorem dX3_putLong_5 : decode cX3_putLong 5 = .ok (.iadd, 1) := by decide +kernel
theorem dX3_putLong_6 : decode cX3_putLong 6 = .ok (.istore 5, 2) := by decide +kernel
theorem dX3_putLong_8 : decode cX3_putLong 8 = .ok (.iload 5, 2) := by decide +kernel
theorem dX3_putLong_10 : decode cX3_putLong 10 = .ok (.ifCond .lt 21, 3) := by decide +kernel
theorem dX3_putLong_13 : decode cX3_putLong 13 = .ok (.iload 5, 2) := by decide +kernel
theorem dX3_putLong_15 : decode cX3_putLong 15 = .ok (.aload_n 0, 1) := by decide +kernel
theorem dX3_putLong_16 : decode cX3_putLong 16 = .ok (.getfield 18, 3) := by decide +kernel
theorem dX3_putLong_19 : decode cX3_putLong 19 = .ok (.arraylength, 1) := by decide +kernel
theorem dX3_putLong_20 : decode cX3_putLong 20 = .ok (.if_icmp .ge 11, 3) := by decide +kernel
theorem dX3_putLong_23 : decode cX3_putLong 23 = .ok (.aload_n 0, 1) := by decide +kernel
theorem dX3_putLong_24 : decode cX3_putLong 24 = .ok (.getfield 18, 3) := by decide +kernel
theorem dX3_putLong_27 : decode cX3_putLong 27 = .ok (.iload 5, 2) := by decide +kernel
theorem dX3_putLong_29 : decode cX3_putLong 29 = .ok (.lload_n 3, 1) := by decide +kernel
theorem dX3_putLong_30 : decode cX3_putLong 30 = .ok (.lastore, 1) := by decide +kernel
theorem dX3_putLong_31 : decode cX3_putLong 31 = .ok (.return_, 1) := by decide +kernel
theorem dX3_asSort_0 : decode cX3_asSort 0 = .ok (.iload_n 0, 1) := by decide +kernel
theorem dX3_asSort_1 : decode cX3_asSort 1 = .ok (.tableswitch 61 0 4 #[35, 40, 45, 61, 49], 35) := by decide +kernel
theorem dX3_asSort_36 : decode cX3_asSort 36 = .ok (.lload_n 1, 1) := by decide +kernel
theorem dX3_asSort_37 : decode cX3_asSort 37 = .ok (.l2i, 1) := by decide +kernel
theorem dX3_asSort_38 : decode cX3_asSort 38 = .ok (.i2b, 1) := by decide +kernel
theorem dX3_asSort_39 : decode cX3_asSort 39 = .ok (.i2l, 1) := by decide +kernel
theorem dX3_asSort_40 : decode cX3_asSort 40 = .ok (.lreturn, 1) := by decide +kernel
theorem dX3_asSort_41 : decode cX3_asSort 41 = .ok (.lload_n 1, 1) := by decide +kernel
theorem dX3_asSort_42 : decode cX3_asSort 42 = .ok (.l2i, 1) := by decide +kernel
theorem dX3_asSort_43 : decode cX3_asSort 43 = .ok (.i2s, 1) := by decide +kernel
theorem dX3_asSort_44 : decode cX3_asSort 44 = .ok (.i2l, 1) := by decide +kernel
theorem dX3_asSort_45 : decode cX3_asSort 45 = .ok (.lreturn, 1) := by decide +kernel
theorem dX3_asSort_46 : decode cX3_asSort 46 = .ok (.lload_n 1, 1) := by decide +kernel
theorem dX3_asSort_47 : decode cX3_asSort 47 = .ok (.l2i, 1) := by decide +kernel
theorem dX3_asSort_48 : decode cX3_asSort 48 = .ok (.i2l, 1) := by decide +kernel
theorem dX3_asSort_49 : decode cX3_asSort 49 = .ok (.lreturn, 1) := by decide +kernel
theorem dX3_asSort_50 : decode cX3_asSort 50 = .ok (.lload_n 1, 1) := by decide +kernel
theorem dX3_asSort_51 : decode cX3_asSort 51 = .ok (.lconst 0, 1) := by decide +kernel
theorem dX3_asSort_52 : decode cX3_asSort 52 = .ok (.lcmp, 1) := by decide +kernel
theorem dX3_asSort_53 : decode cX3_asSort 53 = .ok (.ifCond .eq 7, 3) := by decide +kernel
theorem dX3_asSort_56 : decode cX3_asSort 56 = .ok (.lconst 1, 1) := by decide +kernel
theorem dX3_asSort_57 : decode cX3_asSort 57 = .ok (.goto 4, 3) := by decide +kernel
theorem dX3_asSort_60 : decode cX3_asSort 60 = .ok (.lconst 0, 1) := by decide +kernel
theorem dX3_asSort_61 : decode cX3_asSort 61 = .ok (.lreturn, 1) := by decide +kernel
theorem dX3_asSort_62 : decode cX3_asSort 62 = .ok (.lload_n 1, 1) := by decide +kernel
theorem dX3_asSort_63 : decode cX3_asSort 63 = .ok (.lreturn, 1) := by decide +kernel
theorem dX3_elementAt_0 : decode cX3_elementAt 0 = .ok (.iload_n 2, 1) := by decide +kernel
theorem dX3_elementAt_1 : decode cX3_elementAt 1 = .ok (.ifCond .lt 12, 3) := by decide +kernel
theorem dX3_elementAt_4 : decode cX3_elementAt 4 = .ok (.iload_n 2, 1) := by decide +kernel
theorem dX3_elementAt_5 : decode cX3_elementAt 5 = .ok (.aload_n 0, 1) := by decide +kernel
theorem dX3_elementAt_6 : decode cX3_elementAt 6 = .ok (.iload_n 1, 1) := by decide +kernel
theorem dX3_elementAt_7 : decode cX3_elementAt 7 = .ok (.invokevirtual 40, 3) := by decide +kernel
theorem dX3_elementAt_10 : decode cX3_elementAt 10 = .ok (.if_icmp .lt 5, 3) := by decide +kernel
theorem dX3_elementAt_13 : decode cX3_elementAt 13 = .ok (.lconst 0, 1) := by decide +kernel
theorem dX3_elementAt_14 : decode cX3_elementAt 14 = .ok (.lreturn, 1) := by decide +kernel
theorem dX3_elementAt_15 : decode cX3_elementAt 15 = .ok (.iload_n 1, 1) := by decide +kernel
theorem dX3_elementAt_16 : decode cX3_elementAt 16 = .ok (.bipush 40, 2) := by decide +kernel
theorem dX3_elementAt_18 : decode cX3_elementAt 18 = .ok (.imul, 1) := by decide +kernel
theorem dX3_elementAt_19 : decode cX3_elementAt 19 = .ok (.iload_n 2, 1) := by decide +kernel
theorem dX3_elementAt_20 : decode cX3_elementAt 20 = .ok (.iadd, 1) := by decide +kernel
theorem dX3_elementAt_21 : decode cX3_elementAt 21 = .ok (.istore_n 3, 1) := by decide +kernel
theorem dX3_elementAt_22 : decode cX3_elementAt 22 = .ok (.iload_n 3, 1) := by decide +kernel
theorem dX3_elementAt_23 : decode cX3_elementAt 23 = .ok (.ifCond .lt 21, 3) := by decide +kernel
theorem dX3_elementAt_26 : decode cX3_elementAt 26 = .ok (.iload_n 3, 1) := by decide +kernel
theorem dX3_elementAt_27 : decode cX3_elementAt 27 = .ok (.aload_n 0, 1) := by decide +kernel
theorem dX3_elementAt_28 : decode cX3_elementAt 28 = .ok (.getfield 18, 3) := by decide +kernel
theorem dX3_elementAt_31 : decode cX3_elementAt 31 = .ok (.arraylength, 1) := by decide +kernel
theorem dX3_elementAt_32 : decode cX3_elementAt 32 = .ok (.if_icmp .ge 12, 3) := by decide +kernel
theorem dX3_elementAt_35 : decode cX3_elementAt 35 = .ok (.aload_n 0, 1) := by decide +kernel
theorem dX3_elementAt_36 : decode cX3_elementAt 36 = .ok (.getfield 18, 3) := by decide +kernel
theorem dX3_elementAt_39 : decode cX3_elementAt 39 = .ok (.iload_n 3, 1) := by decide +kernel
theorem dX3_elementAt_40 : decode cX3_elementAt 40 = .ok (.laload, 1) := by decide +kernel
theorem dX3_elementAt_41 : decode cX3_elementAt 41 = .ok (.goto 4, 3) := by decide +kernel
theorem dX3_elementAt_44 : decode cX3_elementAt 44 = .ok (.lconst 0, 1) := by decide +kernel
theorem dX3_elementAt_45 : decode cX3_elementAt 45 = .ok (.lreturn, 1) := by decide +kernel
theorem dX3_move_0 : decode cX3_move 0 = .ok (.aload_n 0, 1) := by decide +kernel
theorem dX3_move_1 : decode cX3_move 1 = .ok (.iload_n 1, 1) := by decide +kernel
theorem dX3_move_2 : decode cX3_move 2 = .ok (.iload_n 3, 1) := by decide +kernel
theorem dX3_move_3 : decode cX3_move 3 = .ok (.iload 5, 2) := by decide +kernel
theorem dX3_move_5 : decode cX3_move 5 = .ok (.invokevirtual 55, 3) := by decide +kernel
theorem dX3_move_8 : decode cX3_move 8 = .ok (.ifCond .eq 41, 3) := by decide +kernel
theorem dX3_move_11 : decode cX3_move 11 = .ok (.aload_n 0, 1) := by decide +kernel
theorem dX3_move_12 : decode cX3_move 12 = .ok (.iload_n 2, 1) := by decide +kernel
theorem dX3_move_13 : decode cX3_move 13 = .ok (.iload 4, 2) := by decide +kernel
theorem dX3_move_15 : decode cX3_move 15 = .ok (.iload 5, 2) := by decide +kernel
theorem dX3_move_17 : decode cX3_move 17 = .ok (.invokevirtual 55, 3) := by decide +kernel
theorem dX3_move_20 : decode cX3_move 20 = .ok (.ifCond .eq 29, 3) := by decide +kernel
theorem dX3_move_23 : decode cX3_move 23 = .ok (.aload_n 0, 1) := by decide +kernel
theorem dX3_move_24 : decode cX3_move 24 = .ok (.getfield 18, 3) := by decide +kernel
theorem dX3_move_27 : decode cX3_move 27 = .ok (.iload_n 1, 1) := by decide +kernel
theorem dX3_move_28 : decode cX3_move 28 = .ok (.bipush 40, 2) := by decide +kernel
theorem dX3_move_30 : decode cX3_move 30 = .ok (.imul, 1) := by decide +kernel
theorem dX3_move_31 : decode cX3_move 31 = .ok (.iload_n 3, 1) := by decide +kernel
theorem dX3_move_32 : decode cX3_move 32 = .ok (.iadd, 1) := by decide +kernel
theorem dX3_move_33 : decode cX3_move 33 = .ok (.aload_n 0, 1) := by decide +kernel
theorem dX3_move_34 : decode cX3_move 34 = .ok (.getfield 18, 3) := by decide +kernel
theorem dX3_move_37 : decode cX3_move 37 = .ok (.iload_n 2, 1) := by decide +kernel
theorem dX3_move_38 : decode cX3_move 38 = .ok (.bipush 40, 2) := by decide +kernel
theorem dX3_move_40 : decode cX3_move 40 = .ok (.imul, 1) := by decide +kernel
theorem dX3_move_41 : decode cX3_move 41 = .ok (.iload 4, 2) := by decide +kernel
theorem dX3_move_43 : decode cX3_move 43 = .ok (.iadd, 1) := by decide +kernel
theorem dX3_move_44 : decode cX3_move 44 = .ok (.iload 5, 2) := by decide +kernel
theorem dX3_move_46 : decode cX3_move 46 = .ok (.invokestatic 59, 3) := by decide +kernel
theorem dX3_move_49 : decode cX3_move 49 = .ok (.return_, 1) := by decide +kernel
theorem dX3_forgetRingersFrom_0 : decode cX3_forgetRingersFrom 0 = .ok (.iconst 0, 1) := by decide +kernel
theorem dX3_forgetRingersFrom_1 : decode cX3_forgetRingersFrom 1 = .ok (.istore_n 2, 1) := by decide +kernel
theorem dX3_forgetRingersFrom_2 : decode cX3_forgetRingersFrom 2 = .ok (.iload_n 2, 1) := by decide +kernel
theorem dX3_forgetRingersFrom_3 : decode cX3_forgetRingersFrom 3 = .ok (.bipush 8, 2) := by decide +kernel
theorem dX3_forgetRingersFrom_5 : decode cX3_forgetRingersFrom 5 = .ok (.if_icmp .ge 24, 3) := by decide +kernel
theorem dX3_forgetRingersFrom_8 : decode cX3_forgetRingersFrom 8 = .ok (.aload_n 0, 1) := by decide +kernel
theorem dX3_forgetRingersFrom_9 : decode cX3_forgetRingersFrom 9 = .ok (.iload_n 2, 1) := by decide +kernel
theorem dX3_forgetRingersFrom_10 : decode cX3_forgetRingersFrom 10 = .ok (.invokevirtual 65, 3) := by decide +kernel
theorem dX3_forgetRingersFrom_13 : decode cX3_forgetRingersFrom 13 = .ok (.iload_n 1, 1) := by decide +kernel
theorem dX3_forgetRingersFrom_14 : decode cX3_forgetRingersFrom 14 = .ok (.if_icmp .lt 9, 3) := by decide +kernel
theorem dX3_forgetRingersFrom_17 : decode cX3_forgetRingersFrom 17 = .ok (.aload_n 0, 1) := by decide +kernel
theorem dX3_forgetRingersFrom_18 : decode cX3_forgetRingersFrom 18 = .ok (.iload_n 2, 1) := by decide +kernel
theorem dX3_forgetRingersFrom_19 : decode cX3_forgetRingersFrom 19 = .ok (.iconst (-1), 1) := by decide +kernel
theorem dX3_forgetRingersFrom_20 : decode cX3_forgetRingersFrom 20 = .ok (.invokevirtual 68, 3) := by decide +kernel
theorem dX3_forgetRingersFrom_23 : decode cX3_forgetRingersFrom 23 = .ok (.iinc 2 1, 3) := by decide +kernel
theorem dX3_forgetRingersFrom_26 : decode cX3_forgetRingersFrom 26 = .ok (.goto (-24), 3) := by decide +kernel
theorem dX3_forgetRingersFrom_29 : decode cX3_forgetRingersFrom 29 = .ok (.return_, 1) := by decide +kernel
theorem dX3_countHeld_0 : decode cX3_countHeld 0 = .ok (.iconst 0, 1) := by decide +kernel
theorem dX3_countHeld_1 : decode cX3_countHeld 1 = .ok (.istore_n 1, 1) := by decide +kernel
theorem dX3_countHeld_2 : decode cX3_countHeld 2 = .ok (.iconst 0, 1) := by decide +kernel
theorem dX3_countHeld_3 : decode cX3_countHeld 3 = .ok (.istore_n 2, 1) := by decide +kernel
theorem dX3_countHeld_4 : decode cX3_countHeld 4 = .ok (.iload_n 2, 1) := by decide +kernel
theorem dX3_countHeld_5 : decode cX3_countHeld 5 = .ok (.bipush 8, 2) := by decide +kernel
theorem dX3_countHeld_7 : decode cX3_countHeld 7 = .ok (.if_icmp .ge 21, 3) := by decide +kernel
theorem dX3_countHeld_10 : decode cX3_countHeld 10 = .ok (.aload_n 0, 1) := by decide +kernel
theorem dX3_countHeld_11 : decode cX3_countHeld 11 = .ok (.iload_n 2, 1) := by decide +kernel
theorem dX3_countHeld_12 : decode cX3_countHeld 12 = .ok (.invokevirtual 30, 3) := by decide +kernel
theorem dX3_countHeld_15 : decode cX3_countHeld 15 = .ok (.iconst (-1), 1) := by decide +kernel
theorem dX3_countHeld_16 : decode cX3_countHeld 16 = .ok (.if_icmp .eq 6, 3) := by decide +kernel
theorem dX3_countHeld_19 : decode cX3_countHeld 19 = .ok (.iinc 1 1, 3) := by decide +kernel
theorem dX3_countHeld_22 : decode cX3_countHeld 22 = .ok (.iinc 2 1, 3) := by decide +kernel
theorem dX3_countHeld_25 : decode cX3_countHeld 25 = .ok (.goto (-21), 3) := by decide +kernel
theorem dX3_countHeld_28 : decode cX3_countHeld 28 = .ok (.iload_n 1, 1) := by decide +kernel
theorem dX3_countHeld_29 : decode cX3_countHeld 29 = .ok (.ireturn, 1) := by decide +kernel
theorem dX4_init_0 : decode cX4_init 0 = .ok (.aload_n 0, 1) := by decide +kernel
theorem dX4_init_1 : decode cX4_init 1 = .ok (.invokespecial 3, 3) := by decide +kernel
theorem dX4_init_4 : decode cX4_init 4 = .ok (.aload_n 0, 1) := by decide +kernel
theorem dX4_init_5 : decode cX4_init 5 = .ok (.iconst 0, 1) := by decide +kernel
theorem dX4_init_6 : decode cX4_init 6 = .ok (.putfield 9, 3) := by decide +kernel
theorem dX4_init_9 : decode cX4_init 9 = .ok (.aload_n 0, 1) := by decide +kernel
theorem dX4_init_10 : decode cX4_init 10 = .ok (.sipush 250, 3) := by decide +kernel
theorem dX4_init_13 : decode cX4_init 13 = .ok (.newarray .int, 2) := by decide +kernel
theorem dX4_init_15 : decode cX4_init 15 = .ok (.putfield 15, 3) := by decide +kernel
theorem dX4_init_18 : decode cX4_init 18 = .ok (.return_, 1) := by decide +kernel
theorem dX4_hasRoom_0 : decode cX4_hasRoom 0 = .ok (.aload_n 0, 1) := by decide +kernel
theorem dX4_hasRoom_1 : decode cX4_hasRoom 1 = .ok (.getfield 9, 3) := by decide +kernel
theorem dX4_hasRoom_4 : decode cX4_hasRoom 4 = .ok (.sipush 250, 3) := by decide +kernel
theorem dX4_hasRoom_7 : decode cX4_hasRoom 7 = .ok (.if_icmp .ge 7, 3) := by decide +kernel
theorem dX4_hasRoom_10 : decode cX4_hasRoom 10 = .ok (.iconst 1, 1) := by decide +kernel
theorem dX4_hasRoom_11 : decode cX4_hasRoom 11 = .ok (.goto 4, 3) := by decide +kernel
theorem dX4_hasRoom_14 : decode cX4_hasRoom 14 = .ok (.iconst 0, 1) := by decide +kernel
theorem dX4_hasRoom_15 : decode cX4_hasRoom 15 = .ok (.ireturn, 1) := by decide +kernel
theorem dX4_add_0 : decode cX4_add 0 = .ok (.aload_n 0, 1) := by decide +kernel
theorem dX4_add_1 : decode cX4_add 1 = .ok (.getfield 15, 3) := by decide +kernel
theorem dX4_add_4 : decode cX4_add 4 = .ok (.aload_n 0, 1) := by decide +kernel
theorem dX4_add_5 : decode cX4_add 5 = .ok (.getfield 9, 3) := by decide +kernel
theorem dX4_add_8 : decode cX4_add 8 = .ok (.iload_n 1, 1) := by decide +kernel
theorem dX4_add_9 : decode cX4_add 9 = .ok (.invokestatic 19, 3) := by decide +kernel
theorem dX4_add_12 : decode cX4_add 12 = .ok (.aload_n 0, 1) := by decide +kernel
theorem dX4_add_13 : decode cX4_add 13 = .ok (.dup, 1) := by decide +kernel
theorem dX4_add_14 : decode cX4_add 14 = .ok (.getfield 9, 3) := by decide +kernel
theorem dX4_add_17 : decode cX4_add 17 = .ok (.iconst 1, 1) := by decide +kernel
theorem dX4_add_18 : decode cX4_add 18 = .ok (.iadd, 1) := by decide +kernel
theorem dX4_add_19 : decode cX4_add 19 = .ok (.putfield 9, 3) := by decide +kernel
theorem dX4_add_22 : decode cX4_add 22 = .ok (.aload_n 0, 1) := by decide +kernel
theorem dX4_add_23 : decode cX4_add 23 = .ok (.getfield 9, 3) := by decide +kernel
theorem dX4_add_26 : decode cX4_add 26 = .ok (.ireturn, 1) := by decide +kernel
theorem dX4_empty_0 : decode cX4_empty 0 = .ok (.aload_n 0, 1) := by decide +kernel
theorem dX4_empty_1 : decode cX4_empty 1 = .ok (.getfield 9, 3) := by decide +kernel
theorem dX4_empty_4 : decode cX4_empty 4 = .ok (.istore_n 1, 1) := by decide +kernel
theorem dX4_empty_5 : decode cX4_empty 5 = .ok (.aload_n 0, 1) := by decide +kernel
theorem dX4_empty_6 : decode cX4_empty 6 = .ok (.iconst 0, 1) := by decide +kernel
theorem dX4_empty_7 : decode cX4_empty 7 = .ok (.putfield 9, 3) := by decide +kernel
theorem dX4_empty_10 : decode cX4_empty 10 = .ok (.iload_n 1, 1) := by decide +kernel
theorem dX4_empty_11 : decode cX4_empty 11 = .ok (.ireturn, 1) := by decide +kernel
theorem dX4_letterAt_0 : decode cX4_letterAt 0 = .ok (.iload_n 1, 1) := by decide +kernel
theorem dX4_letterAt_1 : decode cX4_letterAt 1 = .ok (.aload_n 0, 1) := by decide +kernel
theorem dX4_letterAt_2 : decode cX4_letterAt 2 = .ok (.getfield 9, 3) := by decide +kernel
theorem dX4_letterAt_5 : decode cX4_letterAt 5 = .ok (.if_icmp .ge 14, 3) := by decide +kernel
theorem dX4_letterAt_8 : decode cX4_letterAt 8 = .ok (.aload_n 0, 1) := by decide +kernel
theorem dX4_letterAt_9 : decode cX4_letterAt 9 = .ok (.getfield 15, 3) := by decide +kernel
theorem dX4_letterAt_12 : decode cX4_letterAt 12 = .ok (.iload_n 1, 1) := by decide +kernel
theorem dX4_letterAt_13 : decode cX4_letterAt 13 = .ok (.invokestatic 23, 3) := by decide +kernel
theorem dX4_letterAt_16 : decode cX4_letterAt 16 = .ok (.goto 4, 3) := by decide +kernel
theorem dX4_letterAt_19 : decode cX4_letterAt 19 = .ok (.iconst (-1), 1) := by decide +kernel
theorem dX4_letterAt_20 : decode cX4_letterAt 20 = .ok (.ireturn, 1) := by decide +kernel
theorem dX5_init_0 : decode cX5_init 0 = .ok (.aload_n 0, 1) := by decide +kernel
theorem dX5_init_1 : decode cX5_init 1 = .ok (.invokespecial 3, 3) := by decide +kernel
theorem dX5_init_4 : decode cX5_init 4 = .ok (.aload_n 0, 1) := by decide +kernel
theorem dX5_init_5 : decode cX5_init 5 = .ok (.iconst 0, 1) := by decide +kernel
theorem dX5_init_6 : decode cX5_init 6 = .ok (.putfield 9, 3) := by decide +kernel
theorem dX5_init_9 : decode cX5_init 9 = .ok (.aload_n 0, 1) := by decide +kernel
theorem dX5_init_10 : decode cX5_init 10 = .ok (.bipush 10, 2) := by decide +kernel
theorem dX5_init_12 : decode cX5_init 12 = .ok (.newarray .int, 2) := by decide +kernel
theorem dX5_init_14 : decode cX5_init 14 = .ok (.putfield 15, 3) := by decide +kernel
theorem dX5_init_17 : decode cX5_init 17 = .ok (.aload_n 0, 1) := by decide +kernel
theorem dX5_init_18 : decode cX5_init 18 = .ok (.bipush 10, 2) := by decide +kernel
theorem dX5_init_20 : decode cX5_init 20 = .ok (.newarray .int, 2) := by decide +kernel
theorem dX5_init_22 : decode cX5_init 22 = .ok (.putfield 19, 3) := by decide +kernel
theorem dX5_init_25 : decode cX5_init 25 = .ok (.aload_n 0, 1) := by decide +kernel
theorem dX5_init_26 : decode cX5_init 26 = .ok (.bipush 10, 2) := by decide +kernel
theorem dX5_init_28 : decode cX5_init 28 = .ok (.newarray .int, 2) := by decide +kernel
theorem dX5_init_30 : decode cX5_init 30 = .ok (.putfield 22, 3) := by decide +kernel
theorem dX5_init_33 : decode cX5_init 33 = .ok (.aload_n 0, 1) := by decide +kernel
theorem dX5_init_34 : decode cX5_init 34 = .ok (.bipush 10, 2) := by decide +kernel
theorem dX5_init_36 : decode cX5_init 36 = .ok (.newarray .int, 2) := by decide +kernel
theorem dX5_init_38 : decode cX5_init 38 = .ok (.putfield 25, 3) := by decide +kernel
theorem dX5_init_41 : decode cX5_init 41 = .ok (.aload_n 0, 1) := by decide +kernel
theorem dX5_init_42 : decode cX5_init 42 = .ok (.iconst 0, 1) := by decide +kernel
theorem dX5_init_43 : decode cX5_init 43 = .ok (.putfield 28, 3) := by decide +kernel
theorem dX5_init_46 : decode cX5_init 46 = .ok (.aload_n 0, 1) := by decide +kernel
theorem dX5_init_47 : decode cX5_init 47 = .ok (.iconst 0, 1) := by decide +kernel
theorem dX5_init_48 : decode cX5_init 48 = .ok (.putfield 31, 3) := by decide +kernel
theorem dX5_init_51 : decode cX5_init 51 = .ok (.aload_n 0, 1) := by decide +kernel
theorem dX5_init_52 : decode cX5_init 52 = .ok (.iconst 0, 1) := by decide +kernel
theorem dX5_init_53 : decode cX5_init 53 = .ok (.putfield 34, 3) := by decide +kernel
theorem dX5_init_56 : decode cX5_init 56 = .ok (.aload_n 0, 1) := by decide +kernel
theorem dX5_init_57 : decode cX5_init 57 = .ok (.iconst 0, 1) := by decide +kernel
theorem dX5_init_58 : decode cX5_init 58 = .ok (.putfield 37, 3) := by decide +kernel
theorem dX5_init_61 : decode cX5_init 61 = .ok (.aload_n 0, 1) := by decide +kernel
theorem dX5_init_62 : decode cX5_init 62 = .ok (.iconst 1, 1) := by decide +kernel
theorem dX5_init_63 : decode cX5_init 63 = .ok (.putfield 40, 3) := by decide +kernel
theorem dX5_init_66 : decode cX5_init 66 = .ok (.aload_n 0, 1) := by decide +kernel
theorem dX5_init_67 : decode cX5_init 67 = .ok (.new 43, 3) := by decide +kernel
theorem dX5_init_70 : decode cX5_init 70 = .ok (.dup, 1) := by decide +kernel
theorem dX5_init_71 : decode cX5_init 71 = .ok (.invokespecial 45, 3) := by decide +kernel
theorem dX5_init_74 : decode cX5_init 74 = .ok (.putfield 46, 3) := by decide +kernel
theorem dX5_init_77 : decode cX5_init 77 = .ok (.aload_n 0, 1) := by decide +kernel
theorem dX5_init_78 : decode cX5_init 78 = .ok (.bipush 10, 2) := by decide +kernel
theorem dX5_init_80 : decode cX5_init 80 = .ok (.newarray .int, 2) := by decide +kernel
theorem dX5_init_82 : decode cX5_init 82 = .ok (.putfield 50, 3) := by decide +kernel
theorem dX5_init_85 : decode cX5_init 85 = .ok (.return_, 1) := by decide +kernel
theorem dX5_takeFrom_0 : decode cX5_takeFrom 0 = .ok (.aload_n 0, 1) := by decide +kernel
theorem dX5_takeFrom_1 : decode cX5_takeFrom 1 = .ok (.aload_n 1, 1) := by decide +kernel
theorem dX5_takeFrom_2 : decode cX5_takeFrom 2 = .ok (.getfield 9, 3) := by decide +kernel
theorem dX5_takeFrom_5 : decode cX5_takeFrom 5 = .ok (.putfield 9, 3) := by decide +kernel
theorem dX5_takeFrom_8 : decode cX5_takeFrom 8 = .ok (.aload_n 1, 1) := by decide +kernel
theorem dX5_takeFrom_9 : decode cX5_takeFrom 9 = .ok (.getfield 15, 3) := by decide +kernel
theorem dX5_takeFrom_12 : decode cX5_takeFrom 12 = .ok (.iconst 0, 1) := by decide +kernel
theorem dX5_takeFrom_13 : decode cX5_takeFrom 13 = .ok (.aload_n 0, 1) := by decide +kernel
theorem dX5_takeFrom_14 : decode cX5_takeFrom 14 = .ok (.getfield 15, 3) := by decide +kernel
theorem dX5_takeFrom_17 : decode cX5_takeFrom 17 = .ok (.iconst 0, 1) := by decide +kernel
theorem dX5_takeFrom_18 : decode cX5_takeFrom 18 = .ok (.bipush 10, 2) := by decide +kernel
theorem dX5_takeFrom_20 : decode cX5_takeFrom 20 = .ok (.invokestatic 53, 3) := by decide +kernel
theorem dX5_takeFrom_23 : decode cX5_takeFrom 23 = .ok (.aload_n 1, 1) := by decide +kernel
theorem dX5_takeFrom_24 : decode cX5_takeFrom 24 = .ok (.getfield 19, 3) := by decide +kernel
theorem dX5_takeFrom_27 : decode cX5_takeFrom 27 = .ok (.iconst 0, 1) := by decide +kernel
theorem dX5_takeFrom_28 : decode cX5_takeFrom 28 = .ok (.aload_n 0, 1) := by decide +kernel
theorem dX5_takeFrom_29 : decode cX5_takeFrom 29 = .ok (.getfield 19, 3) := by decide +kernel
theorem dX5_takeFrom_32 : decode cX5_takeFrom 32 = .ok (.iconst 0, 1) := by decide +kernel
theorem dX5_takeFrom_33 : decode cX5_takeFrom 33 = .ok (.bipush 10, 2) := by decide +kernel
theorem dX5_takeFrom_35 : decode cX5_takeFrom 35 = .ok (.invokestatic 53, 3) := by decide +kernel
theorem dX5_takeFrom_38 : decode cX5_takeFrom 38 = .ok (.aload_n 1, 1) := by decide +kernel
theorem dX5_takeFrom_39 : decode cX5_takeFrom 39 = .ok (.getfield 22, 3) := by decide +kernel
theorem dX5_takeFrom_42 : decode cX5_takeFrom 42 = .ok (.iconst 0, 1) := by decide +kernel
theorem dX5_takeFrom_43 : decode cX5_takeFrom 43 = .ok (.aload_n 0, 1) := by decide +kernel
theorem dX5_takeFrom_44 : decode cX5_takeFrom 44 = .ok (.getfield 22, 3) := by decide +kernel
theorem dX5_takeFrom_47 : decode cX5_takeFrom 47 = .ok (.iconst 0, 1) := by decide +kernel
theorem dX5_takeFrom_48 : decode cX5_takeFrom 48 = .ok (.bipush 10, 2) := by decide +kernel
theorem dX5_takeFrom_50 : decode cX5_takeFrom 50 = .ok (.invokestatic 53, 3) := by decide +kernel
theorem dX5_takeFrom_53 : decode cX5_takeFrom 53 = .ok (.aload_n 1, 1) := by decide +kernel
theorem dX5_takeFrom_54 : decode cX5_takeFrom 54 = .ok (.getfield 25, 3) := by decide +kernel
theorem dX5_takeFrom_57 : decode cX5_takeFrom 57 = .ok (.iconst 0, 1) := by decide +kernel
theorem dX5_takeFrom_58 : decode cX5_takeFrom 58 = .ok (.aload_n 0, 1) := by decide +kernel
theorem dX5_takeFrom_59 : decode cX5_takeFrom 59 = .ok (.getfield 25, 3) := by decide +kernel
theorem dX5_takeFrom_62 : decode cX5_takeFrom 62 = .ok (.iconst 0, 1) := by decide +kernel
theorem dX5_takeFrom_63 : decode cX5_takeFrom 63 = .ok (.bipush 10, 2) := by decide +kernel
theorem dX5_takeFrom_65 : decode cX5_takeFrom 65 = .ok (.invokestatic 53, 3) := by decide +kernel
theorem dX5_takeFrom_68 : decode cX5_takeFrom 68 = .ok (.aload_n 0, 1) := by decide +kernel
theorem dX5_takeFrom_69 : decode cX5_takeFrom 69 = .ok (.aload_n 1, 1) := by decide +kernel
theorem dX5_takeFrom_70 : decode cX5_takeFrom 70 = .ok (.getfield 28, 3) := by decide +kernel
theorem dX5_takeFrom_73 : decode cX5_takeFrom 73 = .ok (.putfield 28, 3) := by decide +kernel
theorem dX5_takeFrom_76 : decode cX5_takeFrom 76 = .ok (.aload_n 0, 1) := by decide +kernel
theorem dX5_takeFrom_77 : decode cX5_takeFrom 77 = .ok (.aload_n 1, 1) := by decide +kernel
theorem dX5_takeFrom_78 : decode cX5_takeFrom 78 = .ok (.getfield 31, 3) := by decide +kernel
theorem dX5_takeFrom_81 : decode cX5_takeFrom 81 = .ok (.putfield 31, 3) := by decide +kernel
theorem dX5_takeFrom_84 : decode cX5_takeFrom 84 = .ok (.aload_n 0, 1) := by decide +kernel
theorem dX5_takeFrom_85 : decode cX5_takeFrom 85 = .ok (.aload_n 1, 1) := by decide +kernel
theorem dX5_takeFrom_86 : decode cX5_takeFrom 86 = .ok (.getfield 34, 3) := by decide +kernel
theorem dX5_takeFrom_89 : decode cX5_takeFrom 89 = .ok (.putfield 34, 3) := by decide +kernel
theorem dX5_takeFrom_92 : decode cX5_takeFrom 92 = .ok (.aload_n 0, 1) := by decide +kernel
theorem dX5_takeFrom_93 : decode cX5_takeFrom 93 = .ok (.aload_n 1, 1) := by decide +kernel
theorem dX5_takeFrom_94 : decode cX5_takeFrom 94 = .ok (.getfield 37, 3) := by decide +kernel
theorem dX5_takeFrom_97 : decode cX5_takeFrom 97 = .ok (.putfield 37, 3) := by decide +kernel
theorem dX5_takeFrom_100 : decode cX5_takeFrom 100 = .ok (.aload_n 0, 1) := by decide +kernel
theorem dX5_takeFrom_101 : decode cX5_takeFrom 101 = .ok (.aload_n 1, 1) := by decide +kernel
theorem dX5_takeFrom_102 : decode cX5_takeFrom 102 = .ok (.getfield 40, 3) := by decide +kernel
theorem dX5_takeFrom_105 : decode cX5_takeFrom 105 = .ok (.putfield 40, 3) := by decide +kernel
theorem dX5_takeFrom_108 : decode cX5_takeFrom 108 = .ok (.aload_n 0, 1) := by decide +kernel
theorem dX5_takeFrom_109 : decode cX5_takeFrom 109 = .ok (.getfield 46, 3) := by decide +kernel
theorem dX5_takeFrom_112 : decode cX5_takeFrom 112 = .ok (.aload_n 1, 1) := by decide +kernel
theorem dX5_takeFrom_113 : decode cX5_takeFrom 113 = .ok (.getfield 46, 3) := by decide +kernel
theorem dX5_takeFrom_116 : decode cX5_takeFrom 116 = .ok (.invokevirtual 59, 3) := by decide +kernel
theorem dX5_takeFrom_119 : decode cX5_takeFrom 119 = .ok (.return_, 1) := by decide +kernel
theorem dX5_isThing_0 : decode cX5_isThing 0 = .ok (.iload_n 1, 1) := by decide +kernel
theorem dX5_isThing_1 : decode cX5_isThing 1 = .ok (.ifCond .lt 15, 3) := by decide +kernel
theorem dX5_isThing_4 : decode cX5_isThing 4 = .ok (.iload_n 1, 1) := by decide +kernel
theorem dX5_isThing_5 : decode cX5_isThing 5 = .ok (.aload_n 0, 1) := by decide +kernel
theorem dX5_isThing_6 : decode cX5_isThing 6 = .ok (.getfield 9, 3) := by decide +kernel
theorem dX5_isThing_9 : decode cX5_isThing 9 = .ok (.if_icmp .ge 7, 3) := by decide +kernel
theorem dX5_isThing_12 : decode cX5_isThing 12 = .ok (.iconst 1, 1) := by decide +kernel
theorem dX5_isThing_13 : decode cX5_isThing 13 = .ok (.goto 4, 3) := by decide +kernel
theorem dX5_isThing_16 : decode cX5_isThing 16 = .ok (.iconst 0, 1) := by decide +kernel
theorem dX5_isThing_17 : decode cX5_isThing 17 = .ok (.ireturn, 1) := by decide +kernel
theorem dX5_everyThing_0 : decode cX5_everyThing 0 = .ok (.iconst 1, 1) := by decide +kernel
theorem dX5_everyThing_1 : decode cX5_everyThing 1 = .ok (.aload_n 0, 1) := by decide +kernel
theorem dX5_everyThing_2 : decode cX5_everyThing 2 = .ok (.getfield 9, 3) := by decide +kernel
theorem dX5_everyThing_5 : decode cX5_everyThing 5 = .ok (.ishl, 1) := by decide +kernel
theorem dX5_everyThing_6 : decode cX5_everyThing 6 = .ok (.iconst 1, 1) := by decide +kernel
theorem dX5_everyThing_7 : decode cX5_everyThing 7 = .ok (.isub, 1) := by decide +kernel
theorem dX5_everyThing_8 : decode cX5_everyThing 8 = .ok (.ireturn, 1) := by decide +kernel
theorem dX5_areThings_0 : decode cX5_areThings 0 = .ok (.iload_n 1, 1) := by decide +kernel
theorem dX5_areThings_1 : decode cX5_areThings 1 = .ok (.aload_n 0, 1) := by decide +kernel
theorem dX5_areThings_2 : decode cX5_areThings 2 = .ok (.invokevirtual 63, 3) := by decide +kernel
theorem dX5_areThings_5 : decode cX5_areThings 5 = .ok (.iconst (-1), 1) := by decide +kernel
theorem dX5_areThings_6 : decode cX5_areThings 6 = .ok (.ixor, 1) := by decide +kernel
theorem dX5_areThings_7 : decode cX5_areThings 7 = .ok (.iand, 1) := by decide +kernel
theorem dX5_areThings_8 : decode cX5_areThings 8 = .ok (.ifCond .ne 7, 3) := by decide +kernel
theorem dX5_areThings_11 : decode cX5_areThings 11 = .ok (.iconst 1, 1) := by decide +kernel
theorem dX5_areThings_12 : decode cX5_areThings 12 = .ok (.goto 4, 3) := by decide +kernel
theorem dX5_areThings_15 : decode cX5_areThings 15 = .ok (.iconst 0, 1) := by decide +kernel
theorem dX5_areThings_16 : decode cX5_areThings 16 = .ok (.ireturn, 1) := by decide +kernel
theorem dX5_hasRoom_0 : decode cX5_hasRoom 0 = .ok (.aload_n 0, 1) := by decide +kernel
theorem dX5_hasRoom_1 : decode cX5_hasRoom 1 = .ok (.getfield 9, 3) := by decide +kernel
theorem dX5_hasRoom_4 : decode cX5_hasRoom 4 = .ok (.bipush 10, 2) := by decide +kernel
theorem dX5_hasRoom_6 : decode cX5_hasRoom 6 = .ok (.if_icmp .ge 7, 3) := by decide +kernel
theorem dX5_hasRoom_9 : decode cX5_hasRoom 9 = .ok (.iconst 1, 1) := by decide +kernel
theorem dX5_hasRoom_10 : decode cX5_hasRoom 10 = .ok (.goto 4, 3) := by decide +kernel
theorem dX5_hasRoom_13 : decode cX5_hasRoom 13 = .ok (.iconst 0, 1) := by decide +kernel
theorem dX5_hasRoom_14 : decode cX5_hasRoom 14 = .ok (.ireturn, 1) := by decide +kernel
theorem dX5_addThing_0 : decode cX5_addThing 0 = .ok (.aload_n 0, 1) := by decide +kernel
theorem dX5_addThing_1 : decode cX5_addThing 1 = .ok (.getfield 9, 3) := by decide +kernel
theorem dX5_addThing_4 : decode cX5_addThing 4 = .ok (.istore_n 3, 1) := by decide +kernel
theorem dX5_addThing_5 : decode cX5_addThing 5 = .ok (.aload_n 0, 1) := by decide +kernel
theorem dX5_addThing_6 : decode cX5_addThing 6 = .ok (.getfield 15, 3) := by decide +kernel
theorem dX5_addThing_9 : decode cX5_addThing 9 = .ok (.iload_n 3, 1) := by decide +kernel
theorem dX5_addThing_10 : decode cX5_addThing 10 = .ok (.iload_n 1, 1) := by decide +kernel
theorem dX5_addThing_11 : decode cX5_addThing 11 = .ok (.invokestatic 67, 3) := by decide +kernel
theorem dX5_addThing_14 : decode cX5_addThing 14 = .ok (.aload_n 0, 1) := by decide +kernel
theorem dX5_addThing_15 : decode cX5_addThing 15 = .ok (.getfield 19, 3) := by decide +kernel
theorem dX5_addThing_18 : decode cX5_addThing 18 = .ok (.iload_n 3, 1) := by decide +kernel
theorem dX5_addThing_19 : decode cX5_addThing 19 = .ok (.iload_n 2, 1) := by decide +kernel
theorem dX5_addThing_20 : decode cX5_addThing 20 = .ok (.invokestatic 67, 3) := by decide +kernel
theorem dX5_addThing_23 : decode cX5_addThing 23 = .ok (.aload_n 0, 1) := by decide +kernel
theorem dX5_addThing_24 : decode cX5_addThing 24 = .ok (.getfield 22, 3) := by decide +kernel
theorem dX5_addThing_27 : decode cX5_addThing 27 = .ok (.iload_n 3, 1) := by decide +kernel
theorem dX5_addThing_28 : decode cX5_addThing 28 = .ok (.iconst 0, 1) := by decide +kernel
theorem dX5_addThing_29 : decode cX5_addThing 29 = .ok (.invokestatic 67, 3) := by decide +kernel
theorem dX5_addThing_32 : decode cX5_addThing 32 = .ok (.aload_n 0, 1) := by decide +kernel
theorem dX5_addThing_33 : decode cX5_addThing 33 = .ok (.getfield 25, 3) := by decide +kernel
theorem dX5_addThing_36 : decode cX5_addThing 36 = .ok (.iload_n 3, 1) := by decide +kernel
theorem dX5_addThing_37 : decode cX5_addThing 37 = .ok (.iconst 0, 1) := by decide +kernel
theorem dX5_addThing_38 : decode cX5_addThing 38 = .ok (.invokestatic 67, 3) := by decide +kernel
theorem dX5_addThing_41 : decode cX5_addThing 41 = .ok (.aload_n 0, 1) := by decide +kernel
theorem dX5_addThing_42 : decode cX5_addThing 42 = .ok (.dup, 1) := by decide +kernel
theorem dX5_addThing_43 : decode cX5_addThing 43 = .ok (.getfield 28, 3) := by decide +kernel
theorem dX5_addThing_46 : decode cX5_addThing 46 = .ok (.iconst 1, 1) := by decide +kernel
theorem dX5_addThing_47 : decode cX5_addThing 47 = .ok (.iload_n 3, 1) := by decide +kernel
theorem dX5_addThing_48 : decode cX5_addThing 48 = .ok (.ishl, 1) := by decide +kernel
theorem dX5_addThing_49 : decode cX5_addThing 49 = .ok (.ior, 1) := by decide +kernel
theorem dX5_addThing_50 : decode cX5_addThing 50 = .ok (.putfield 28, 3) := by decide +kernel
theorem dX5_addThing_53 : decode cX5_addThing 53 = .ok (.aload_n 0, 1) := by decide +kernel
theorem dX5_addThing_54 : decode cX5_addThing 54 = .ok (.iload_n 3, 1) := by decide +kernel
theorem dX5_addThing_55 : decode cX5_addThing 55 = .ok (.iconst 1, 1) := by decide +kernel
theorem dX5_addThing_56 : decode cX5_addThing 56 = .ok (.iadd, 1) := by decide +kernel
theorem dX5_addThing_57 : decode cX5_addThing 57 = .ok (.putfield 9, 3) := by decide +kernel
theorem dX5_addThing_60 : decode cX5_addThing 60 = .ok (.iload_n 3, 1) := by decide +kernel
theorem dX5_addThing_61 : decode cX5_addThing 61 = .ok (.ireturn, 1) := by decide +kernel
theorem dX5_hangThing_0 : decode cX5_hangThing 0 = .ok (.iconst 1, 1) := by decide +kernel
theorem dX5_hangThing_1 : decode cX5_hangThing 1 = .ok (.iload_n 2, 1) := by decide +kernel
theorem dX5_hangThing_2 : decode cX5_hangThing 2 = .ok (.ishl, 1) := by decide +kernel
theorem dX5_hangThing_3 : decode cX5_hangThing 3 = .ok (.istore 4, 2) := by decide +kernel
theorem dX5_hangThing_5 : decode cX5_hangThing 5 = .ok (.aload_n 0, 1) := by decide +kernel
theorem dX5_hangThing_6 : decode cX5_hangThing 6 = .ok (.getfield 25, 3) := by decide +kernel
theorem dX5_hangThing_9 : decode cX5_hangThing 9 = .ok (.iload_n 1, 1) := by decide +kernel
theorem dX5_hangThing_10 : decode cX5_hangThing 10 = .ok (.invokestatic 71, 3) := by decide +kernel
theorem dX5_hangThing_13 : decode cX5_hangThing 13 = .ok (.istore 5, 2) := by decide +kernel
theorem dX5_hangThing_15 : decode cX5_hangThing 15 = .ok (.aload_n 0, 1) := by decide +kernel
theorem dX5_hangThing_16 : decode cX5_hangThing 16 = .ok (.getfield 25, 3) := by decide +kernel
theorem dX5_hangThing_19 : decode cX5_hangThing 19 = .ok (.iload_n 1, 1) := by decide +kernel
theorem dX5_hangThing_20 : decode cX5_hangThing 20 = .ok (.iload_n 3, 1) := by decide +kernel
theorem dX5_hangThing_21 : decode cX5_hangThing 21 = .ok (.ifCond .eq 11, 3) := by decide +kernel
theorem dX5_hangThing_24 : decode cX5_hangThing 24 = .ok (.iload 5, 2) := by decide +kernel
theorem dX5_hangThing_26 : decode cX5_hangThing 26 = .ok (.iload 4, 2) := by decide +kernel
theorem dX5_hangThing_28 : decode cX5_hangThing 28 = .ok (.ior, 1) := by decide +kernel
theorem dX5_hangThing_29 : decode cX5_hangThing 29 = .ok (.goto 10, 3) := by decide +kernel
theorem dX5_hangThing_32 : decode cX5_hangThing 32 = .ok (.iload 5, 2) := by decide +kernel
theorem dX5_hangThing_34 : decode cX5_hangThing 34 = .ok (.iload 4, 2) := by decide +kernel
theorem dX5_hangThing_36 : decode cX5_hangThing 36 = .ok (.iconst (-1), 1) := by decide +kernel
theorem dX5_hangThing_37 : decode cX5_hangThing 37 = .ok (.ixor, 1) := by decide +kernel
theorem dX5_hangThing_38 : decode cX5_hangThing 38 = .ok (.iand, 1) := by decide +kernel
theorem dX5_hangThing_39 : decode cX5_hangThing 39 = .ok (.invokestatic 67, 3) := by decide +kernel
theorem dX5_hangThing_42 : decode cX5_hangThing 42 = .ok (.return_, 1) := by decide +kernel
theorem dX5_freeThing_0 : decode cX5_freeThing 0 = .ok (.aload_n 0, 1) := by decide +kernel
theorem dX5_freeThing_1 : decode cX5_freeThing 1 = .ok (.getfield 25, 3) := by decide +kernel
theorem dX5_freeThing_4 : decode cX5_freeThing 4 = .ok (.iload_n 1, 1) := by decide +kernel
theorem dX5_freeThing_5 : decode cX5_freeThing 5 = .ok (.iconst 0, 1) := by decide +kernel
theorem dX5_freeThing_6 : decode cX5_freeThing 6 = .ok (.invokestatic 67, 3) := by decide +kernel
theorem dX5_freeThing_9 : decode cX5_freeThing 9 = .ok (.return_, 1) := by decide +kernel
theorem dX5_hungOf_0 : decode cX5_hungOf 0 = .ok (.aload_n 0, 1) := by decide +kernel
theorem dX5_hungOf_1 : decode cX5_hungOf 1 = .ok (.getfield 25, 3) := by decide +kernel
theorem dX5_hungOf_4 : decode cX5_hungOf 4 = .ok (.iload_n 1, 1) := by decide +kernel
theorem dX5_hungOf_5 : decode cX5_hungOf 5 = .ok (.invokestatic 71, 3) := by decide +kernel
theorem dX5_hungOf_8 : decode cX5_hungOf 8 = .ok (.ireturn, 1) := by decide +kernel
theorem dX5_most_0 : decode cX5_most 0 = .ok (.iload_n 0, 1) := by decide +kernel
theorem dX5_most_1 : decode cX5_most 1 = .ok (.tableswitch 35 0 2 #[27, 30, 32], 27) := by decide +kernel
theorem dX5_most_28 : decode cX5_most 28 = .ok (.bipush 99, 2) := by decide +kernel
theorem dX5_most_30 : decode cX5_most 30 = .ok (.ireturn, 1) := by decide +kernel
theorem dX5_most_31 : decode cX5_most 31 = .ok (.iconst 3, 1) := by decide +kernel
theorem dX5_most_32 : decode cX5_most 32 = .ok (.ireturn, 1) := by decide +kernel
theorem dX5_most_33 : decode cX5_most 33 = .ok (.bipush 99, 2) := by decide +kernel
theorem dX5_most_35 : decode cX5_most 35 = .ok (.ireturn, 1) := by decide +kernel
theorem dX5_most_36 : decode cX5_most 36 = .ok (.iconst 1, 1) := by decide +kernel
theorem dX5_most_37 : decode cX5_most 37 = .ok (.ireturn, 1) := by decide +kernel
theorem dX5_partOf_0 : decode cX5_partOf 0 = .ok (.iload_n 2, 1) := by decide +kernel
theorem dX5_partOf_1 : decode cX5_partOf 1 = .ok (.tableswitch 112 0 6 #[43, 52, 61, 70, 79, 85, 98], 43) := by decide +kernel
theorem dX5_partOf_44 : decode cX5_partOf 44 = .ok (.aload_n 0, 1) := by decide +kernel
theorem dX5_partOf_45 : decode cX5_partOf 45 = .ok (.getfield 15, 3) := by decide +kernel
theorem dX5_partOf_48 : decode cX5_partOf 48 = .ok (.iload_n 1, 1) := by decide +kernel
theorem dX5_partOf_49 : decode cX5_partOf 49 = .ok (.invokestatic 71, 3) := by decide +kernel
theorem dX5_partOf_52 : decode cX5_partOf 52 = .ok (.ireturn, 1) := by decide +kernel
theorem dX5_partOf_53 : decode cX5_partOf 53 = .ok (.aload_n 0, 1) := by decide +kernel
theorem dX5_partOf_54 : decode cX5_partOf 54 = .ok (.getfield 19, 3) := by decide +kernel
theorem dX5_partOf_57 : decode cX5_partOf 57 = .ok (.iload_n 1, 1) := by decide +kernel
theorem dX5_partOf_58 : decode cX5_partOf 58 = .ok (.invokestatic 71, 3) := by decide +kernel
theorem dX5_partOf_61 : decode cX5_partOf 61 = .ok (.ireturn, 1) := by decide +kernel
theorem dX5_partOf_62 : decode cX5_partOf 62 = .ok (.aload_n 0, 1) := by decide +kernel
theorem dX5_partOf_63 : decode cX5_partOf 63 = .ok (.getfield 22, 3) := by decide +kernel
theorem dX5_partOf_66 : decode cX5_partOf 66 = .ok (.iload_n 1, 1) := by decide +kernel
theorem dX5_partOf_67 : decode cX5_partOf 67 = .ok (.invokestatic 71, 3) := by decide +kernel
theorem dX5_partOf_70 : decode cX5_partOf 70 = .ok (.ireturn, 1) := by decide +kernel
theorem dX5_partOf_71 : decode cX5_partOf 71 = .ok (.aload_n 0, 1) := by decide +kernel
theorem dX5_partOf_72 : decode cX5_partOf 72 = .ok (.getfield 28, 3) := by decide +kernel
theorem dX5_partOf_75 : decode cX5_partOf 75 = .ok (.iload_n 1, 1) := by decide +kernel
theorem dX5_partOf_76 : decode cX5_partOf 76 = .ok (.invokestatic 75, 3) := by decide +kernel
theorem dX5_partOf_79 : decode cX5_partOf 79 = .ok (.ireturn, 1) := by decide +kernel
theorem dX5_partOf_80 : decode cX5_partOf 80 = .ok (.aload_n 0, 1) := by decide +kernel
theorem dX5_partOf_81 : decode cX5_partOf 81 = .ok (.iload_n 1, 1) := by decide +kernel
theorem dX5_partOf_82 : decode cX5_partOf 82 = .ok (.invokevirtual 79, 3) := by decide +kernel
theorem dX5_partOf_85 : decode cX5_partOf 85 = .ok (.ireturn, 1) := by decide +kernel
theorem dX5_partOf_86 : decode cX5_partOf 86 = .ok (.aload_n 0, 1) := by decide +kernel
theorem dX5_partOf_87 : decode cX5_partOf 87 = .ok (.aload_n 0, 1) := by decide +kernel
theorem dX5_partOf_88 : decode cX5_partOf 88 = .ok (.getfield 28, 3) := by decide +kernel
theorem dX5_partOf_91 : decode cX5_partOf 91 = .ok (.invokevirtual 83, 3) := by decide +kernel
theorem dX5_partOf_94 : decode cX5_partOf 94 = .ok (.iload_n 1, 1) := by decide +kernel
theorem dX5_partOf_95 : decode cX5_partOf 95 = .ok (.invokestatic 75, 3) := by decide +kernel
theorem dX5_partOf_98 : decode cX5_partOf 98 = .ok (.ireturn, 1) := by decide +kernel
theorem dX5_partOf_99 : decode cX5_partOf 99 = .ok (.aload_n 0, 1) := by decide +kernel
theorem dX5_partOf_100 : decode cX5_partOf 100 = .ok (.iload_n 1, 1) := by decide +kernel
theorem dX5_partOf_101 : decode cX5_partOf 101 = .ok (.invokevirtual 86, 3) := by decide +kernel
theorem dX5_partOf_104 : decode cX5_partOf 104 = .ok (.ifCond .eq 7, 3) := by decide +kernel
theorem dX5_partOf_107 : decode cX5_partOf 107 = .ok (.iconst 1, 1) := by decide +kernel
theorem dX5_partOf_108 : decode cX5_partOf 108 = .ok (.goto 4, 3) := by decide +kernel
theorem dX5_partOf_111 : decode cX5_partOf 111 = .ok (.iconst 0, 1) := by decide +kernel
theorem dX5_partOf_112 : decode cX5_partOf 112 = .ok (.ireturn, 1) := by decide +kernel
theorem dX5_partOf_113 : decode cX5_partOf 113 = .ok (.aload_n 0, 1) := by decide +kernel
theorem dX5_partOf_114 : decode cX5_partOf 114 = .ok (.iload_n 1, 1) := by decide +kernel
theorem dX5_partOf_115 : decode cX5_partOf 115 = .ok (.invokevirtual 90, 3) := by decide +kernel
theorem dX5_partOf_118 : decode cX5_partOf 118 = .ok (.ireturn, 1) := by decide +kernel
theorem dX5_changePart_0 : decode cX5_changePart 0 = .ok (.iload_n 2, 1) := by decide +kernel
theorem dX5_changePart_1 : decode cX5_changePart 1 = .ok (.tableswitch 63 0 2 #[27, 39, 51], 27) := by decide +kernel
theorem dX5_changePart_28 : decode cX5_changePart 28 = .ok (.aload_n 0, 1) := by decide +kernel
theorem dX5_changePart_29 : decode cX5_changePart 29 = .ok (.getfield 15, 3) := by decide +kernel
theorem dX5_changePart_32 : decode cX5_changePart 32 = .ok (.iload_n 1, 1) := by decide +kernel
theorem dX5_changePart_33 : decode cX5_changePart 33 = .ok (.iload_n 3, 1) := by decide +kernel
theorem dX5_changePart_34 : decode cX5_changePart 34 = .ok (.invokestatic 67, 3) := by decide +kernel
theorem dX5_changePart_37 : decode cX5_changePart 37 = .ok (.goto 42, 3) := by decide +kernel
theorem dX5_changePart_40 : decode cX5_changePart 40 = .ok (.aload_n 0, 1) := by decide +kernel
theorem dX5_changePart_41 : decode cX5_changePart 41 = .ok (.getfield 19, 3) := by decide +kernel
theorem dX5_changePart_44 : decode cX5_changePart 44 = .ok (.iload_n 1, 1) := by decide +kernel
theorem dX5_changePart_45 : decode cX5_changePart 45 = .ok (.iload_n 3, 1) := by decide +kernel
theorem dX5_changePart_46 : decode cX5_changePart 46 = .ok (.invokestatic 67, 3) := by decide +kernel
theorem dX5_changePart_49 : decode cX5_changePart 49 = .ok (.goto 30, 3) := by decide +kernel
theorem dX5_changePart_52 : decode cX5_changePart 52 = .ok (.aload_n 0, 1) := by decide +kernel
theorem dX5_changePart_53 : decode cX5_changePart 53 = .ok (.getfield 22, 3) := by decide +kernel
theorem dX5_changePart_56 : decode cX5_changePart 56 = .ok (.iload_n 1, 1) := by decide +kernel
theorem dX5_changePart_57 : decode cX5_changePart 57 = .ok (.iload_n 3, 1) := by decide +kernel
theorem dX5_changePart_58 : decode cX5_changePart 58 = .ok (.invokestatic 67, 3) := by decide +kernel
theorem dX5_changePart_61 : decode cX5_changePart 61 = .ok (.goto 18, 3) := by decide +kernel
theorem dX5_changePart_64 : decode cX5_changePart 64 = .ok (.aload_n 0, 1) := by decide +kernel
theorem dX5_changePart_65 : decode cX5_changePart 65 = .ok (.iload_n 1, 1) := by decide +kernel
theorem dX5_changePart_66 : decode cX5_changePart 66 = .ok (.iload_n 3, 1) := by decide +kernel
theorem dX5_changePart_67 : decode cX5_changePart 67 = .ok (.iconst 1, 1) := by decide +kernel
theorem dX5_changePart_68 : decode cX5_changePart 68 = .ok (.if_icmp .ne 7, 3) := by decide +kernel
theorem dX5_changePart_71 : decode cX5_changePart 71 = .ok (.iconst 1, 1) := by decide +kernel
theorem dX5_changePart_72 : decode cX5_changePart 72 = .ok (.goto 4, 3) := by decide +kernel
theorem dX5_changePart_75 : decode cX5_changePart 75 = .ok (.iconst 0, 1) := by decide +kernel
theorem dX5_changePart_76 : decode cX5_changePart 76 = .ok (.invokevirtual 93, 3) := by decide +kernel
theorem dX5_changePart_79 : decode cX5_changePart 79 = .ok (.return_, 1) := by decide +kernel
theorem dX5_tellBeen_0 : decode cX5_tellBeen 0 = .ok (.aload_n 0, 1) := by decide +kernel
theorem dX5_tellBeen_1 : decode cX5_tellBeen 1 = .ok (.iload_n 2, 1) := by decide +kernel
theorem dX5_tellBeen_2 : decode cX5_tellBeen 2 = .ok (.ifCond .eq 14, 3) := by decide +kernel
theorem dX5_tellBeen_5 : decode cX5_tellBeen 5 = .ok (.aload_n 0, 1) := by decide +kernel
theorem dX5_tellBeen_6 : decode cX5_tellBeen 6 = .ok (.getfield 28, 3) := by decide +kernel
theorem dX5_tellBeen_9 : decode cX5_tellBeen 9 = .ok (.iconst 1, 1) := by decide +kernel
theorem dX5_tellBeen_10 : decode cX5_tellBeen 10 = .ok (.iload_n 1, 1) := by decide +kernel
theorem dX5_tellBeen_11 : decode cX5_tellBeen 11 = .ok (.ishl, 1) := by decide +kernel
theorem dX5_tellBeen_12 : decode cX5_tellBeen 12 = .ok (.ior, 1) := by decide +kernel
theorem dX5_tellBeen_13 : decode cX5_tellBeen 13 = .ok (.goto 13, 3) := by decide +kernel
theorem dX5_tellBeen_16 : decode cX5_tellBeen 16 = .ok (.aload_n 0, 1) := by decide +kernel
theorem dX5_tellBeen_17 : decode cX5_tellBeen 17 = .ok (.getfield 28, 3) := by decide +kernel
theorem dX5_tellBeen_20 : decode cX5_tellBeen 20 = .ok (.iconst 1, 1) := by decide +kernel
theorem dX5_tellBeen_21 : decode cX5_tellBeen 21 = .ok (.iload_n 1, 1) := by decide +kernel
theorem dX5_tellBeen_22 : decode cX5_tellBeen 22 = .ok (.ishl, 1) := by decide +kernel
theorem dX5_tellBeen_23 : decode cX5_tellBeen 23 = .ok (.iconst (-1), 1) := by decide +kernel
theorem dX5_tellBeen_24 : decode cX5_tellBeen 24 = .ok (.ixor, 1) := by decide +kernel
theorem dX5_tellBeen_25 : decode cX5_tellBeen 25 = .ok (.iand, 1) := by decide +kernel
theorem dX5_tellBeen_26 : decode cX5_tellBeen 26 = .ok (.putfield 28, 3) := by decide +kernel
theorem dX5_tellBeen_29 : decode cX5_tellBeen 29 = .ok (.return_, 1) := by decide +kernel
theorem dX5_mostTold_0 : decode cX5_mostTold 0 = .ok (.iload_n 0, 1) := by decide +kernel
theorem dX5_mostTold_1 : decode cX5_mostTold 1 = .ok (.ifCond .ne 7, 3) := by decide +kernel
theorem dX5_mostTold_4 : decode cX5_mostTold 4 = .ok (.iconst 3, 1) := by decide +kernel
theorem dX5_mostTold_5 : decode cX5_mostTold 5 = .ok (.goto 17, 3) := by decide +kernel
theorem dX5_mostTold_8 : decode cX5_mostTold 8 = .ok (.iload_n 0, 1) := by decide +kernel
theorem dX5_mostTold_9 : decode cX5_mostTold 9 = .ok (.iconst 1, 1) := by decide +kernel
theorem dX5_mostTold_10 : decode cX5_mostTold 10 = .ok (.if_icmp .ne 9, 3) := by decide +kernel
theorem dX5_mostTold_13 : decode cX5_mostTold 13 = .ok (.sipush 999, 3) := by decide +kernel
theorem dX5_mostTold_16 : decode cX5_mostTold 16 = .ok (.goto 6, 3) := by decide +kernel
theorem dX5_mostTold_19 : decode cX5_mostTold 19 = .ok (.sipush 255, 3) := by decide +kernel
theorem dX5_mostTold_22 : decode cX5_mostTold 22 = .ok (.ireturn, 1) := by decide +kernel
theorem dX5_toldOf_0 : decode cX5_toldOf 0 = .ok (.iload_n 1, 1) := by decide +kernel
theorem dX5_toldOf_1 : decode cX5_toldOf 1 = .ok (.ifCond .ne 10, 3) := by decide +kernel
theorem dX5_toldOf_4 : decode cX5_toldOf 4 = .ok (.aload_n 0, 1) := by decide +kernel
theorem dX5_toldOf_5 : decode cX5_toldOf 5 = .ok (.getfield 31, 3) := by decide +kernel
theorem dX5_toldOf_8 : decode cX5_toldOf 8 = .ok (.goto 19, 3) := by decide +kernel
theorem dX5_toldOf_11 : decode cX5_toldOf 11 = .ok (.iload_n 1, 1) := by decide +kernel
theorem dX5_toldOf_12 : decode cX5_toldOf 12 = .ok (.iconst 1, 1) := by decide +kernel
theorem dX5_toldOf_13 : decode cX5_toldOf 13 = .ok (.if_icmp .ne 10, 3) := by decide +kernel
theorem dX5_toldOf_16 : decode cX5_toldOf 16 = .ok (.aload_n 0, 1) := by decide +kernel
theorem dX5_toldOf_17 : decode cX5_toldOf 17 = .ok (.getfield 34, 3) := by decide +kernel
theorem dX5_toldOf_20 : decode cX5_toldOf 20 = .ok (.goto 7, 3) := by decide +kernel
theorem dX5_toldOf_23 : decode cX5_toldOf 23 = .ok (.aload_n 0, 1) := by decide +kernel
theorem dX5_toldOf_24 : decode cX5_toldOf 24 = .ok (.getfield 37, 3) := by decide +kernel
theorem dX5_toldOf_27 : decode cX5_toldOf 27 = .ok (.ireturn, 1) := by decide +kernel
theorem dX5_changeTold_0 : decode cX5_changeTold 0 = .ok (.iload_n 1, 1) := by decide +kernel
theorem dX5_changeTold_1 : decode cX5_changeTold 1 = .ok (.lookupswitch 43 #[(0, 27), (1, 35)], 27) := by decide +kernel
theorem dX5_changeTold_28 : decode cX5_changeTold 28 = .ok (.aload_n 0, 1) := by decide +kernel
theorem dX5_changeTold_29 : decode cX5_changeTold 29 = .ok (.iload_n 2, 1) := by decide +kernel
theorem dX5_changeTold_30 : decode cX5_changeTold 30 = .ok (.putfield 31, 3) := by decide +kernel
theorem dX5_changeTold_33 : decode cX5_changeTold 33 = .ok (.goto 16, 3) := by decide +kernel
theorem dX5_changeTold_36 : decode cX5_changeTold 36 = .ok (.aload_n 0, 1) := by decide +kernel
theorem dX5_changeTold_37 : decode cX5_changeTold 37 = .ok (.iload_n 2, 1) := by decide +kernel
theorem dX5_changeTold_38 : decode cX5_changeTold 38 = .ok (.putfield 34, 3) := by decide +kernel
theorem dX5_changeTold_41 : decode cX5_changeTold 41 = .ok (.goto 8, 3) := by decide +kernel
theorem dX5_changeTold_44 : decode cX5_changeTold 44 = .ok (.aload_n 0, 1) := by decide +kernel
theorem dX5_changeTold_45 : decode cX5_changeTold 45 = .ok (.iload_n 2, 1) := by decide +kernel
theorem dX5_changeTold_46 : decode cX5_changeTold 46 = .ok (.putfield 37, 3) := by decide +kernel
theorem dX5_changeTold_49 : decode cX5_changeTold 49 = .ok (.return_, 1) := by decide +kernel
theorem dX5_isOpen_0 : decode cX5_isOpen 0 = .ok (.aload_n 0, 1) := by decide +kernel
theorem dX5_isOpen_1 : decode cX5_isOpen 1 = .ok (.getfield 37, 3) := by decide +kernel
theorem dX5_isOpen_4 : decode cX5_isOpen 4 = .ok (.iload_n 1, 1) := by decide +kernel
theorem dX5_isOpen_5 : decode cX5_isOpen 5 = .ok (.bipush 8, 2) := by decide +kernel
theorem dX5_isOpen_7 : decode cX5_isOpen 7 = .ok (.irem, 1) := by decide +kernel
theorem dX5_isOpen_8 : decode cX5_isOpen 8 = .ok (.invokestatic 97, 3) := by decide +kernel
theorem dX5_isOpen_11 : decode cX5_isOpen 11 = .ok (.ifCond .ne 7, 3) := by decide +kernel
theorem dX5_isOpen_14 : decode cX5_isOpen 14 = .ok (.iconst 1, 1) := by decide +kernel
theorem dX5_isOpen_15 : decode cX5_isOpen 15 = .ok (.goto 4, 3) := by decide +kernel
theorem dX5_isOpen_18 : decode cX5_isOpen 18 = .ok (.iconst 0, 1) := by decide +kernel
theorem dX5_isOpen_19 : decode cX5_isOpen 19 = .ok (.ireturn, 1) := by decide +kernel
theorem dX5_mayBeRung_0 : decode cX5_mayBeRung 0 = .ok (.aload_n 0, 1) := by decide +kernel
theorem dX5_mayBeRung_1 : decode cX5_mayBeRung 1 = .ok (.iload_n 1, 1) := by decide +kernel
theorem dX5_mayBeRung_2 : decode cX5_mayBeRung 2 = .ok (.invokevirtual 86, 3) := by decide +kernel
theorem dX5_mayBeRung_5 : decode cX5_mayBeRung 5 = .ok (.ifCond .ne 5, 3) := by decide +kernel
theorem dX5_mayBeRung_8 : decode cX5_mayBeRung 8 = .ok (.iconst 0, 1) := by decide +kernel
theorem dX5_mayBeRung_9 : decode cX5_mayBeRung 9 = .ok (.ireturn, 1) := by decide +kernel
theorem dX5_mayBeRung_10 : decode cX5_mayBeRung 10 = .ok (.aload_n 0, 1) := by decide +kernel
theorem dX5_mayBeRung_11 : decode cX5_mayBeRung 11 = .ok (.getfield 28, 3) := by decide +kernel
theorem dX5_mayBeRung_14 : decode cX5_mayBeRung 14 = .ok (.iload_n 1, 1) := by decide +kernel
theorem dX5_mayBeRung_15 : decode cX5_mayBeRung 15 = .ok (.invokestatic 97, 3) := by decide +kernel
theorem dX5_mayBeRung_18 : decode cX5_mayBeRung 18 = .ok (.ifCond .ne 5, 3) := by decide +kernel
theorem dX5_mayBeRung_21 : decode cX5_mayBeRung 21 = .ok (.iconst 2, 1) := by decide +kernel
theorem dX5_mayBeRung_22 : decode cX5_mayBeRung 22 = .ok (.ireturn, 1) := by decide +kernel
theorem dX5_mayBeRung_23 : decode cX5_mayBeRung 23 = .ok (.aload_n 0, 1) := by decide +kernel
theorem dX5_mayBeRung_24 : decode cX5_mayBeRung 24 = .ok (.getfield 19, 3) := by decide +kernel
theorem dX5_mayBeRung_27 : decode cX5_mayBeRung 27 = .ok (.iload_n 1, 1) := by decide +kernel
theorem dX5_mayBeRung_28 : decode cX5_mayBeRung 28 = .ok (.invokestatic 71, 3) := by decide +kernel
theorem dX5_mayBeRung_31 : decode cX5_mayBeRung 31 = .ok (.aload_n 0, 1) := by decide +kernel
theorem dX5_mayBeRung_32 : decode cX5_mayBeRung 32 = .ok (.getfield 31, 3) := by decide +kernel
theorem dX5_mayBeRung_35 : decode cX5_mayBeRung 35 = .ok (.if_icmp .ne 7, 3) := by decide +kernel
theorem dX5_mayBeRung_38 : decode cX5_mayBeRung 38 = .ok (.iconst 1, 1) := by decide +kernel
theorem dX5_mayBeRung_39 : decode cX5_mayBeRung 39 = .ok (.goto 4, 3) := by decide +kernel
theorem dX5_mayBeRung_42 : decode cX5_mayBeRung 42 = .ok (.iconst 0, 1) := by decide +kernel
theorem dX5_mayBeRung_43 : decode cX5_mayBeRung 43 = .ok (.ireturn, 1) := by decide +kernel
theorem dX5_allThatMay_0 : decode cX5_allThatMay 0 = .ok (.iconst 0, 1) := by decide +kernel
theorem dX5_allThatMay_1 : decode cX5_allThatMay 1 = .ok (.istore_n 2, 1) := by decide +kernel
theorem dX5_allThatMay_2 : decode cX5_allThatMay 2 = .ok (.iconst 0, 1) := by decide +kernel
theorem dX5_allThatMay_3 : decode cX5_allThatMay 3 = .ok (.istore_n 3, 1) := by decide +kernel
theorem dX5_allThatMay_4 : decode cX5_allThatMay 4 = .ok (.iload_n 3, 1) := by decide +kernel
theorem dX5_allThatMay_5 : decode cX5_allThatMay 5 = .ok (.aload_n 0, 1) := by decide +kernel
theorem dX5_allThatMay_6 : decode cX5_allThatMay 6 = .ok (.getfield 9, 3) := by decide +kernel
theorem dX5_allThatMay_9 : decode cX5_allThatMay 9 = .ok (.if_icmp .ge 24, 3) := by decide +kernel
theorem dX5_allThatMay_12 : decode cX5_allThatMay 12 = .ok (.aload_n 0, 1) := by decide +kernel
theorem dX5_allThatMay_13 : decode cX5_allThatMay 13 = .ok (.iload_n 3, 1) := by decide +kernel
theorem dX5_allThatMay_14 : decode cX5_allThatMay 14 = .ok (.invokevirtual 90, 3) := by decide +kernel
theorem dX5_allThatMay_17 : decode cX5_allThatMay 17 = .ok (.iload_n 1, 1) := by decide +kernel
theorem dX5_allThatMay_18 : decode cX5_allThatMay 18 = .ok (.if_icmp .ne 9, 3) := by decide +kernel
theorem dX5_allThatMay_21 : decode cX5_allThatMay 21 = .ok (.iload_n 2, 1) := by decide +kernel
theorem dX5_allThatMay_22 : decode cX5_allThatMay 22 = .ok (.iconst 1, 1) := by decide +kernel
theorem dX5_allThatMay_23 : decode cX5_allThatMay 23 = .ok (.iload_n 3, 1) := by decide +kernel
theorem dX5_allThatMay_24 : decode cX5_allThatMay 24 = .ok (.ishl, 1) := by decide +kernel
theorem dX5_allThatMay_25 : decode cX5_allThatMay 25 = .ok (.ior, 1) := by decide +kernel
theorem dX5_allThatMay_26 : decode cX5_allThatMay 26 = .ok (.istore_n 2, 1) := by decide +kernel
theorem dX5_allThatMay_27 : decode cX5_allThatMay 27 = .ok (.iinc 3 1, 3) := by decide +kernel
theorem dX5_allThatMay_30 : decode cX5_allThatMay 30 = .ok (.goto (-26), 3) := by decide +kernel
theorem dX5_allThatMay_33 : decode cX5_allThatMay 33 = .ok (.iload_n 2, 1) := by decide +kernel
theorem dX5_allThatMay_34 : decode cX5_allThatMay 34 = .ok (.ireturn, 1) := by decide +kernel
theorem dX5_ringThing_0 : decode cX5_ringThing 0 = .ok (.aload_n 0, 1) := by decide +kernel
theorem dX5_ringThing_1 : decode cX5_ringThing 1 = .ok (.getfield 28, 3) := by decide +kernel
theorem dX5_ringThing_4 : decode cX5_ringThing 4 = .ok (.iload_n 1, 1) := by decide +kernel
theorem dX5_ringThing_5 : decode cX5_ringThing 5 = .ok (.invokestatic 97, 3) := by decide +kernel
theorem dX5_ringThing_8 : decode cX5_ringThing 8 = .ok (.ifCond .eq 10, 3) := by decide +kernel
theorem dX5_ringThing_11 : decode cX5_ringThing 11 = .ok (.aload_n 0, 1) := by decide +kernel
theorem dX5_ringThing_12 : decode cX5_ringThing 12 = .ok (.iload_n 1, 1) := by decide +kernel
theorem dX5_ringThing_13 : decode cX5_ringThing 13 = .ok (.iconst 0, 1) := by decide +kernel
theorem dX5_ringThing_14 : decode cX5_ringThing 14 = .ok (.invokevirtual 93, 3) := by decide +kernel
theorem dX5_ringThing_17 : decode cX5_ringThing 17 = .ok (.return_, 1) := by decide +kernel
theorem dX5_ringThing_18 : decode cX5_ringThing 18 = .ok (.aload_n 0, 1) := by decide +kernel
theorem dX5_ringThing_19 : decode cX5_ringThing 19 = .ok (.iload_n 1, 1) := by decide +kernel
theorem dX5_ringThing_20 : decode cX5_ringThing 20 = .ok (.iconst 1, 1) := by decide +kernel
theorem dX5_ringThing_21 : decode cX5_ringThing 21 = .ok (.invokevirtual 93, 3) := by decide +kernel
theorem dX5_ringThing_24 : decode cX5_ringThing 24 = .ok (.aload_n 0, 1) := by decide +kernel
theorem dX5_ringThing_25 : decode cX5_ringThing 25 = .ok (.getfield 19, 3) := by decide +kernel
theorem dX5_ringThing_28 : decode cX5_ringThing 28 = .ok (.iload_n 1, 1) := by decide +kernel
theorem dX5_ringThing_29 : decode cX5_ringThing 29 = .ok (.aload_n 0, 1) := by decide +kernel
theorem dX5_ringThing_30 : decode cX5_ringThing 30 = .ok (.getfield 31, 3) := by decide +kernel
theorem dX5_ringThing_33 : decode cX5_ringThing 33 = .ok (.invokestatic 67, 3) := by decide +kernel
theorem dX5_ringThing_36 : decode cX5_ringThing 36 = .ok (.aload_n 0, 1) := by decide +kernel
theorem dX5_ringThing_37 : decode cX5_ringThing 37 = .ok (.getfield 22, 3) := by decide +kernel
theorem dX5_ringThing_40 : decode cX5_ringThing 40 = .ok (.iload_n 1, 1) := by decide +kernel
theorem dX5_ringThing_41 : decode cX5_ringThing 41 = .ok (.iconst 0, 1) := by decide +kernel
theorem dX5_ringThing_42 : decode cX5_ringThing 42 = .ok (.aload_n 0, 1) := by decide +kernel
theorem dX5_ringThing_43 : decode cX5_ringThing 43 = .ok (.getfield 22, 3) := by decide +kernel
theorem dX5_ringThing_46 : decode cX5_ringThing 46 = .ok (.iload_n 1, 1) := by decide +kernel
theorem dX5_ringThing_47 : decode cX5_ringThing 47 = .ok (.invokestatic 71, 3) := by decide +kernel
theorem dX5_ringThing_50 : decode cX5_ringThing 50 = .ok (.iconst 1, 1) := by decide +kernel
theorem dX5_ringThing_51 : decode cX5_ringThing 51 = .ok (.isub, 1) := by decide +kernel
theorem dX5_ringThing_52 : decode cX5_ringThing 52 = .ok (.invokestatic 101, 3) := by decide +kernel
theorem dX5_ringThing_55 : decode cX5_ringThing 55 = .ok (.invokestatic 67, 3) := by decide +kernel
theorem dX5_ringThing_58 : decode cX5_ringThing 58 = .ok (.return_, 1) := by decide +kernel
theorem dX5_passDay_0 : decode cX5_passDay 0 = .ok (.aload_n 0, 1) := by decide +kernel
theorem dX5_passDay_1 : decode cX5_passDay 1 = .ok (.aload_n 0, 1) := by decide +kernel
theorem dX5_passDay_2 : decode cX5_passDay 2 = .ok (.getfield 31, 3) := by decide +kernel
theorem dX5_passDay_5 : decode cX5_passDay 5 = .ok (.iconst 1, 1) := by decide +kernel
theorem dX5_passDay_6 : decode cX5_passDay 6 = .ok (.iadd, 1) := by decide +kernel
theorem dX5_passDay_7 : decode cX5_passDay 7 = .ok (.iconst 4, 1) := by decide +kernel
theorem dX5_passDay_8 : decode cX5_passDay 8 = .ok (.irem, 1) := by decide +kernel
theorem dX5_passDay_9 : decode cX5_passDay 9 = .ok (.putfield 31, 3) := by decide +kernel
theorem dX5_passDay_12 : decode cX5_passDay 12 = .ok (.return_, 1) := by decide +kernel
theorem dX5_draw_0 : decode cX5_draw 0 = .ok (.iload_n 1, 1) := by decide +kernel
theorem dX5_draw_1 : decode cX5_draw 1 = .ok (.ifCond .gt 5, 3) := by decide +kernel
theorem dX5_draw_4 : decode cX5_draw 4 = .ok (.iconst 0, 1) := by decide +kernel
theorem dX5_draw_5 : decode cX5_draw 5 = .ok (.ireturn, 1) := by decide +kernel
theorem dX5_draw_6 : decode cX5_draw 6 = .ok (.aload_n 0, 1) := by decide +kernel
theorem dX5_draw_7 : decode cX5_draw 7 = .ok (.aload_n 0, 1) := by decide +kernel
theorem dX5_draw_8 : decode cX5_draw 8 = .ok (.getfield 40, 3) := by decide +kernel
theorem dX5_draw_11 : decode cX5_draw 11 = .ok (.ldc 106, 2) := by decide +kernel
theorem dX5_draw_13 : decode cX5_draw 13 = .ok (.imul, 1) := by decide +kernel
theorem dX5_draw_14 : decode cX5_draw 14 = .ok (.sipush 12345, 3) := by decide +kernel
theorem dX5_draw_17 : decode cX5_draw 17 = .ok (.iadd, 1) := by decide +kernel
theorem dX5_draw_18 : decode cX5_draw 18 = .ok (.putfield 40, 3) := by decide +kernel
theorem dX5_draw_21 : decode cX5_draw 21 = .ok (.aload_n 0, 1) := by decide +kernel
theorem dX5_draw_22 : decode cX5_draw 22 = .ok (.getfield 40, 3) := by decide +kernel
theorem dX5_draw_25 : decode cX5_draw 25 = .ok (.bipush 16, 2) := by decide +kernel
theorem dX5_draw_27 : decode cX5_draw 27 = .ok (.iushr, 1) := by decide +kernel
theorem dX5_draw_28 : decode cX5_draw 28 = .ok (.iload_n 1, 1) := by decide +kernel
theorem dX5_draw_29 : decode cX5_draw 29 = .ok (.irem, 1) := by decide +kernel
theorem dX5_draw_30 : decode cX5_draw 30 = .ok (.ireturn, 1) := by decide +kernel
theorem dX5_passYearByDraws_0 : decode cX5_passYearByDraws 0 = .ok (.aload_n 0, 1) := by decide +kernel
theorem dX5_passYearByDraws_1 : decode cX5_passYearByDraws 1 = .ok (.sipush 999, 3) := by decide +kernel
theorem dX5_passYearByDraws_4 : decode cX5_passYearByDraws 4 = .ok (.aload_n 0, 1) := by decide +kernel
theorem dX5_passYearByDraws_5 : decode cX5_passYearByDraws 5 = .ok (.getfield 34, 3) := by decide +kernel
theorem dX5_passYearByDraws_8 : decode cX5_passYearByDraws 8 = .ok (.iconst 1, 1) := by decide +kernel
theorem dX5_passYearByDraws_9 : decode cX5_passYearByDraws 9 = .ok (.iadd, 1) := by decide +kernel
theorem dX5_passYearByDraws_10 : decode cX5_passYearByDraws 10 = .ok (.invokestatic 107, 3) := by decide +kernel
theorem dX5_passYearByDraws_13 : decode cX5_passYearByDraws 13 = .ok (.putfield 34, 3) := by decide +kernel
theorem dX5_passYearByDraws_16 : decode cX5_passYearByDraws 16 = .ok (.iconst 0, 1) := by decide +kernel
theorem dX5_passYearByDraws_17 : decode cX5_passYearByDraws 17 = .ok (.istore_n 1, 1) := by decide +kernel
theorem dX5_passYearByDraws_18 : decode cX5_passYearByDraws 18 = .ok (.iload_n 1, 1) := by decide +kernel
theorem dX5_passYearByDraws_19 : decode cX5_passYearByDraws 19 = .ok (.aload_n 0, 1) := by decide +kernel
theorem dX5_passYearByDraws_20 : decode cX5_passYearByDraws 20 = .ok (.getfield 22, 3) := by decide +kernel
theorem dX5_passYearByDraws_23 : decode cX5_passYearByDraws 23 = .ok (.arraylength, 1) := by decide +kernel
theorem dX5_passYearByDraws_24 : decode cX5_passYearByDraws 24 = .ok (.if_icmp .ge 39, 3) := by decide +kernel
theorem dX5_passYearByDraws_27 : decode cX5_passYearByDraws 27 = .ok (.aload_n 0, 1) := by decide +kernel
theorem dX5_passYearByDraws_28 : decode cX5_passYearByDraws 28 = .ok (.getfield 28, 3) := by decide +kernel
theorem dX5_passYearByDraws_31 : decode cX5_passYearByDraws 31 = .ok (.iload_n 1, 1) := by decide +kernel
theorem dX5_passYearByDraws_32 : decode cX5_passYearByDraws 32 = .ok (.invokestatic 97, 3) := by decide +kernel
theorem dX5_passYearByDraws_35 : decode cX5_passYearByDraws 35 = .ok (.ifCond .eq 22, 3) := by decide +kernel
theorem dX5_passYearByDraws_38 : decode cX5_passYearByDraws 38 = .ok (.aload_n 0, 1) := by decide +kernel
theorem dX5_passYearByDraws_39 : decode cX5_passYearByDraws 39 = .ok (.getfield 22, 3) := by decide +kernel
theorem dX5_passYearByDraws_42 : decode cX5_passYearByDraws 42 = .ok (.iload_n 1, 1) := by decide +kernel
theorem dX5_passYearByDraws_43 : decode cX5_passYearByDraws 43 = .ok (.bipush 99, 2) := by decide +kernel
theorem dX5_passYearByDraws_45 : decode cX5_passYearByDraws 45 = .ok (.aload_n 0, 1) := by decide +kernel
theorem dX5_passYearByDraws_46 : decode cX5_passYearByDraws 46 = .ok (.getfield 22, 3) := by decide +kernel
theorem dX5_passYearByDraws_49 : decode cX5_passYearByDraws 49 = .ok (.iload_n 1, 1) := by decide +kernel
theorem dX5_passYearByDraws_50 : decode cX5_passYearByDraws 50 = .ok (.iaload, 1) := by decide +kernel
theorem dX5_passYearByDraws_51 : decode cX5_passYearByDraws 51 = .ok (.iconst 1, 1) := by decide +kernel
theorem dX5_passYearByDraws_52 : decode cX5_passYearByDraws 52 = .ok (.iadd, 1) := by decide +kernel
theorem dX5_passYearByDraws_53 : decode cX5_passYearByDraws 53 = .ok (.invokestatic 107, 3) := by decide +kernel
theorem dX5_passYearByDraws_56 : decode cX5_passYearByDraws 56 = .ok (.iastore, 1) := by decide +kernel
theorem dX5_passYearByDraws_57 : decode cX5_passYearByDraws 57 = .ok (.iinc 1 1, 3) := by decide +kernel
theorem dX5_passYearByDraws_60 : decode cX5_passYearByDraws 60 = .ok (.goto (-42), 3) := by decide +kernel
theorem dX5_passYearByDraws_63 : decode cX5_passYearByDraws 63 = .ok (.aload_n 0, 1) := by decide +kernel
theorem dX5_passYearByDraws_64 : decode cX5_passYearByDraws 64 = .ok (.aload_n 0, 1) := by decide +kernel
theorem dX5_passYearByDraws_65 : decode cX5_passYearByDraws 65 = .ok (.iconst 4, 1) := by decide +kernel
theorem dX5_passYearByDraws_66 : decode cX5_passYearByDraws 66 = .ok (.invokevirtual 110, 3) := by decide +kernel
theorem dX5_passYearByDraws_69 : decode cX5_passYearByDraws 69 = .ok (.putfield 31, 3) := by decide +kernel
theorem dX5_passYearByDraws_72 : decode cX5_passYearByDraws 72 = .ok (.aload_n 0, 1) := by decide +kernel
theorem dX5_passYearByDraws_73 : decode cX5_passYearByDraws 73 = .ok (.invokevirtual 113, 3) := by decide +kernel
theorem dX5_passYearByDraws_76 : decode cX5_passYearByDraws 76 = .ok (.istore_n 1, 1) := by decide +kernel
theorem dX5_passYearByDraws_77 : decode cX5_passYearByDraws 77 = .ok (.aload_n 0, 1) := by decide +kernel
theorem dX5_passYearByDraws_78 : decode cX5_passYearByDraws 78 = .ok (.bipush 8, 2) := by decide +kernel
theorem dX5_passYearByDraws_80 : decode cX5_passYearByDraws 80 = .ok (.invokevirtual 110, 3) := by decide +kernel
theorem dX5_passYearByDraws_83 : decode cX5_passYearByDraws 83 = .ok (.istore_n 2, 1) := by decide +kernel
theorem dX5_passYearByDraws_84 : decode cX5_passYearByDraws 84 = .ok (.aload_n 0, 1) := by decide +kernel
theorem dX5_passYearByDraws_85 : decode cX5_passYearByDraws 85 = .ok (.bipush 10, 2) := by decide +kernel
theorem dX5_passYearByDraws_87 : decode cX5_passYearByDraws 87 = .ok (.invokevirtual 110, 3) := by decide +kernel
theorem dX5_passYearByDraws_90 : decode cX5_passYearByDraws 90 = .ok (.ifCond .ne 15, 3) := by decide +kernel
theorem dX5_passYearByDraws_93 : decode cX5_passYearByDraws 93 = .ok (.aload_n 0, 1) := by decide +kernel
theorem dX5_passYearByDraws_94 : decode cX5_passYearByDraws 94 = .ok (.dup, 1) := by decide +kernel
theorem dX5_passYearByDraws_95 : decode cX5_passYearByDraws 95 = .ok (.getfield 37, 3) := by decide +kernel
theorem dX5_passYearByDraws_98 : decode cX5_passYearByDraws 98 = .ok (.iconst 1, 1) := by decide +kernel
theorem dX5_passYearByDraws_99 : decode cX5_passYearByDraws 99 = .ok (.iload_n 2, 1) := by decide +kernel
theorem dX5_passYearByDraws_100 : decode cX5_passYearByDraws 100 = .ok (.ishl, 1) := by decide +kernel
theorem dX5_passYearByDraws_101 : decode cX5_passYearByDraws 101 = .ok (.ior, 1) := by decide +kernel
theorem dX5_passYearByDraws_102 : decode cX5_passYearByDraws 102 = .ok (.putfield 37, 3) := by decide +kernel
theorem dX5_passYearByDraws_105 : decode cX5_passYearByDraws 105 = .ok (.iload_n 1, 1) := by decide +kernel
theorem dX5_passYearByDraws_106 : decode cX5_passYearByDraws 106 = .ok (.ireturn, 1) := by decide +kernel
theorem dX5_ringByDraws_0 : decode cX5_ringByDraws 0 = .ok (.aload_n 0, 1) := by decide +kernel
theorem dX5_ringByDraws_1 : decode cX5_ringByDraws 1 = .ok (.aload_n 0, 1) := by decide +kernel
theorem dX5_ringByDraws_2 : decode cX5_ringByDraws 2 = .ok (.getfield 9, 3) := by decide +kernel
theorem dX5_ringByDraws_5 : decode cX5_ringByDraws 5 = .ok (.invokevirtual 110, 3) := by decide +kernel
theorem dX5_ringByDraws_8 : decode cX5_ringByDraws 8 = .ok (.istore_n 1, 1) := by decide +kernel
theorem dX5_ringByDraws_9 : decode cX5_ringByDraws 9 = .ok (.aload_n 0, 1) := by decide +kernel
theorem dX5_ringByDraws_10 : decode cX5_ringByDraws 10 = .ok (.getfield 46, 3) := by decide +kernel
theorem dX5_ringByDraws_13 : decode cX5_ringByDraws 13 = .ok (.getfield 116, 3) := by decide +kernel
theorem dX5_ringByDraws_16 : decode cX5_ringByDraws 16 = .ok (.ifCond .le 43, 3) := by decide +kernel
theorem dX5_ringByDraws_19 : decode cX5_ringByDraws 19 = .ok (.aload_n 0, 1) := by decide +kernel
theorem dX5_ringByDraws_20 : decode cX5_ringByDraws 20 = .ok (.aload_n 0, 1) := by decide +kernel
theorem dX5_ringByDraws_21 : decode cX5_ringByDraws 21 = .ok (.getfield 46, 3) := by decide +kernel
theorem dX5_ringByDraws_24 : decode cX5_ringByDraws 24 = .ok (.getfield 116, 3) := by decide +kernel
theorem dX5_ringByDraws_27 : decode cX5_ringByDraws 27 = .ok (.invokevirtual 110, 3) := by decide +kernel
theorem dX5_ringByDraws_30 : decode cX5_ringByDraws 30 = .ok (.istore_n 2, 1) := by decide +kernel
theorem dX5_ringByDraws_31 : decode cX5_ringByDraws 31 = .ok (.aload_n 0, 1) := by decide +kernel
theorem dX5_ringByDraws_32 : decode cX5_ringByDraws 32 = .ok (.bipush 100, 2) := by decide +kernel
theorem dX5_ringByDraws_34 : decode cX5_ringByDraws 34 = .ok (.invokevirtual 110, 3) := by decide +kernel
theorem dX5_ringByDraws_37 : decode cX5_ringByDraws 37 = .ok (.aload_n 0, 1) := by decide +kernel
theorem dX5_ringByDraws_38 : decode cX5_ringByDraws 38 = .ok (.getfield 46, 3) := by decide +kernel
theorem dX5_ringByDraws_41 : decode cX5_ringByDraws 41 = .ok (.iload_n 2, 1) := by decide +kernel
theorem dX5_ringByDraws_42 : decode cX5_ringByDraws 42 = .ok (.aload_n 0, 1) := by decide +kernel
theorem dX5_ringByDraws_43 : decode cX5_ringByDraws 43 = .ok (.getfield 37, 3) := by decide +kernel
theorem dX5_ringByDraws_46 : decode cX5_ringByDraws 46 = .ok (.invokevirtual 119, 3) := by decide +kernel
theorem dX5_ringByDraws_49 : decode cX5_ringByDraws 49 = .ok (.if_icmp .ge 10, 3) := by decide +kernel
theorem dX5_ringByDraws_52 : decode cX5_ringByDraws 52 = .ok (.aload_n 0, 1) := by decide +kernel
theorem dX5_ringByDraws_53 : decode cX5_ringByDraws 53 = .ok (.iload_n 1, 1) := by decide +kernel
theorem dX5_ringByDraws_54 : decode cX5_ringByDraws 54 = .ok (.iconst 1, 1) := by decide +kernel
theorem dX5_ringByDraws_55 : decode cX5_ringByDraws 55 = .ok (.invokevirtual 122, 3) := by decide +kernel
theorem dX5_ringByDraws_58 : decode cX5_ringByDraws 58 = .ok (.istore_n 1, 1) := by decide +kernel
theorem dX5_ringByDraws_59 : decode cX5_ringByDraws 59 = .ok (.aload_n 0, 1) := by decide +kernel
theorem dX5_ringByDraws_60 : decode cX5_ringByDraws 60 = .ok (.iload_n 1, 1) := by decide +kernel
theorem dX5_ringByDraws_61 : decode cX5_ringByDraws 61 = .ok (.invokevirtual 90, 3) := by decide +kernel
theorem dX5_ringByDraws_64 : decode cX5_ringByDraws 64 = .ok (.ifCond .ne 5, 3) := by decide +kernel
theorem dX5_ringByDraws_67 : decode cX5_ringByDraws 67 = .ok (.iconst 0, 1) := by decide +kernel
theorem dX5_ringByDraws_68 : decode cX5_ringByDraws 68 = .ok (.ireturn, 1) := by decide +kernel
theorem dX5_ringByDraws_69 : decode cX5_ringByDraws 69 = .ok (.aload_n 0, 1) := by decide +kernel
theorem dX5_ringByDraws_70 : decode cX5_ringByDraws 70 = .ok (.iload_n 1, 1) := by decide +kernel
theorem dX5_ringByDraws_71 : decode cX5_ringByDraws 71 = .ok (.invokevirtual 125, 3) := by decide +kernel
theorem dX5_ringByDraws_74 : decode cX5_ringByDraws 74 = .ok (.iconst 1, 1) := by decide +kernel
theorem dX5_ringByDraws_75 : decode cX5_ringByDraws 75 = .ok (.ireturn, 1) := by decide +kernel
theorem dX5_standing_0 : decode cX5_standing 0 = .ok (.iconst 0, 1) := by decide +kernel
theorem dX5_standing_1 : decode cX5_standing 1 = .ok (.istore_n 2, 1) := by decide +kernel
theorem dX5_standing_2 : decode cX5_standing 2 = .ok (.iconst 0, 1) := by decide +kernel
theorem dX5_standing_3 : decode cX5_standing 3 = .ok (.istore_n 3, 1) := by decide +kernel
theorem dX5_standing_4 : decode cX5_standing 4 = .ok (.iload_n 3, 1) := by decide +kernel
theorem dX5_standing_5 : decode cX5_standing 5 = .ok (.aload_n 0, 1) := by decide +kernel
theorem dX5_standing_6 : decode cX5_standing 6 = .ok (.getfield 25, 3) := by decide +kernel
theorem dX5_standing_9 : decode cX5_standing 9 = .ok (.arraylength, 1) := by decide +kernel
theorem dX5_standing_10 : decode cX5_standing 10 = .ok (.if_icmp .ge 42, 3) := by decide +kernel
theorem dX5_standing_13 : decode cX5_standing 13 = .ok (.iload_n 1, 1) := by decide +kernel
theorem dX5_standing_14 : decode cX5_standing 14 = .ok (.iload_n 3, 1) := by decide +kernel
theorem dX5_standing_15 : decode cX5_standing 15 = .ok (.ishr, 1) := by decide +kernel
theorem dX5_standing_16 : decode cX5_standing 16 = .ok (.ifCond .eq 36, 3) := by decide +kernel
theorem dX5_standing_19 : decode cX5_standing 19 = .ok (.iload_n 1, 1) := by decide +kernel
theorem dX5_standing_20 : decode cX5_standing 20 = .ok (.iload_n 3, 1) := by decide +kernel
theorem dX5_standing_21 : decode cX5_standing 21 = .ok (.invokestatic 97, 3) := by decide +kernel
theorem dX5_standing_24 : decode cX5_standing 24 = .ok (.ifCond .eq 22, 3) := by decide +kernel
theorem dX5_standing_27 : decode cX5_standing 27 = .ok (.aload_n 0, 1) := by decide +kernel
theorem dX5_standing_28 : decode cX5_standing 28 = .ok (.getfield 25, 3) := by decide +kernel
theorem dX5_standing_31 : decode cX5_standing 31 = .ok (.iload_n 3, 1) := by decide +kernel
theorem dX5_standing_32 : decode cX5_standing 32 = .ok (.iaload, 1) := by decide +kernel
theorem dX5_standing_33 : decode cX5_standing 33 = .ok (.iload_n 2, 1) := by decide +kernel
theorem dX5_standing_34 : decode cX5_standing 34 = .ok (.iconst (-1), 1) := by decide +kernel
theorem dX5_standing_35 : decode cX5_standing 35 = .ok (.ixor, 1) := by decide +kernel
theorem dX5_standing_36 : decode cX5_standing 36 = .ok (.iand, 1) := by decide +kernel
theorem dX5_standing_37 : decode cX5_standing 37 = .ok (.ifCond .ne 9, 3) := by decide +kernel
theorem dX5_standing_40 : decode cX5_standing 40 = .ok (.iload_n 2, 1) := by decide +kernel
theorem dX5_standing_41 : decode cX5_standing 41 = .ok (.iconst 1, 1) := by decide +kernel
theorem dX5_standing_42 : decode cX5_standing 42 = .ok (.iload_n 3, 1) := by decide +kernel
theorem dX5_standing_43 : decode cX5_standing 43 = .ok (.ishl, 1) := by decide +kernel
theorem dX5_standing_44 : decode cX5_standing 44 = .ok (.ior, 1) := by decide +kernel
theorem dX5_standing_45 : decode cX5_standing 45 = .ok (.istore_n 2, 1) := by decide +kernel
theorem dX5_standing_46 : decode cX5_standing 46 = .ok (.iinc 3 1, 3) := by decide +kernel
theorem dX5_standing_49 : decode cX5_standing 49 = .ok (.goto (-45), 3) := by decide +kernel
theorem dX5_standing_52 : decode cX5_standing 52 = .ok (.iload_n 2, 1) := by decide +kernel
theorem dX5_standing_53 : decode cX5_standing 53 = .ok (.ireturn, 1) := by decide +kernel
theorem dX5_valueIf_0 : decode cX5_valueIf 0 = .ok (.aload_n 0, 1) := by decide +kernel
theorem dX5_valueIf_1 : decode cX5_valueIf 1 = .ok (.iload_n 1, 1) := by decide +kernel
theorem dX5_valueIf_2 : decode cX5_valueIf 2 = .ok (.invokevirtual 83, 3) := by decide +kernel
theorem dX5_valueIf_5 : decode cX5_valueIf 5 = .ok (.istore_n 2, 1) := by decide +kernel
theorem dX5_valueIf_6 : decode cX5_valueIf 6 = .ok (.iconst 0, 1) := by decide +kernel
theorem dX5_valueIf_7 : decode cX5_valueIf 7 = .ok (.istore_n 3, 1) := by decide +kernel
theorem dX5_valueIf_8 : decode cX5_valueIf 8 = .ok (.iconst 0, 1) := by decide +kernel
theorem dX5_valueIf_9 : decode cX5_valueIf 9 = .ok (.istore 4, 2) := by decide +kernel
theorem dX5_valueIf_11 : decode cX5_valueIf 11 = .ok (.iload 4, 2) := by decide +kernel
theorem dX5_valueIf_13 : decode cX5_valueIf 13 = .ok (.aload_n 0, 1) := by decide +kernel
theorem dX5_valueIf_14 : decode cX5_valueIf 14 = .ok (.getfield 15, 3) := by decide +kernel
theorem dX5_valueIf_17 : decode cX5_valueIf 17 = .ok (.arraylength, 1) := by decide +kernel
theorem dX5_valueIf_18 : decode cX5_valueIf 18 = .ok (.if_icmp .ge 35, 3) := by decide +kernel
theorem dX5_valueIf_21 : decode cX5_valueIf 21 = .ok (.iload_n 2, 1) := by decide +kernel
theorem dX5_valueIf_22 : decode cX5_valueIf 22 = .ok (.iload 4, 2) := by decide +kernel
theorem dX5_valueIf_24 : decode cX5_valueIf 24 = .ok (.ishr, 1) := by decide +kernel
theorem dX5_valueIf_25 : decode cX5_valueIf 25 = .ok (.ifCond .eq 28, 3) := by decide +kernel
theorem dX5_valueIf_28 : decode cX5_valueIf 28 = .ok (.iload_n 2, 1) := by decide +kernel
theorem dX5_valueIf_29 : decode cX5_valueIf 29 = .ok (.iload 4, 2) := by decide +kernel
theorem dX5_valueIf_31 : decode cX5_valueIf 31 = .ok (.invokestatic 97, 3) := by decide +kernel
theorem dX5_valueIf_34 : decode cX5_valueIf 34 = .ok (.ifCond .eq 13, 3) := by decide +kernel
theorem dX5_valueIf_37 : decode cX5_valueIf 37 = .ok (.iload_n 3, 1) := by decide +kernel
theorem dX5_valueIf_38 : decode cX5_valueIf 38 = .ok (.aload_n 0, 1) := by decide +kernel
theorem dX5_valueIf_39 : decode cX5_valueIf 39 = .ok (.getfield 15, 3) := by decide +kernel
theorem dX5_valueIf_42 : decode cX5_valueIf 42 = .ok (.iload 4, 2) := by decide +kernel
theorem dX5_valueIf_44 : decode cX5_valueIf 44 = .ok (.iaload, 1) := by decide +kernel
theorem dX5_valueIf_45 : decode cX5_valueIf 45 = .ok (.iadd, 1) := by decide +kernel
theorem dX5_valueIf_46 : decode cX5_valueIf 46 = .ok (.istore_n 3, 1) := by decide +kernel
theorem dX5_valueIf_47 : decode cX5_valueIf 47 = .ok (.iinc 4 1, 3) := by decide +kernel
theorem dX5_valueIf_50 : decode cX5_valueIf 50 = .ok (.goto (-39), 3) := by decide +kernel
theorem dX5_valueIf_53 : decode cX5_valueIf 53 = .ok (.iload_n 3, 1) := by decide +kernel
theorem dX5_valueIf_54 : decode cX5_valueIf 54 = .ok (.ireturn, 1) := by decide +kernel
theorem dX5_valueNow_0 : decode cX5_valueNow 0 = .ok (.aload_n 0, 1) := by decide +kernel
theorem dX5_valueNow_1 : decode cX5_valueNow 1 = .ok (.aload_n 0, 1) := by decide +kernel
theorem dX5_valueNow_2 : decode cX5_valueNow 2 = .ok (.getfield 28, 3) := by decide +kernel
theorem dX5_valueNow_5 : decode cX5_valueNow 5 = .ok (.invokevirtual 129, 3) := by decide +kernel
theorem dX5_valueNow_8 : decode cX5_valueNow 8 = .ok (.ireturn, 1) := by decide +kernel
theorem dX5_offBy_0 : decode cX5_offBy 0 = .ok (.aload_n 0, 1) := by decide +kernel
theorem dX5_offBy_1 : decode cX5_offBy 1 = .ok (.aload_n 0, 1) := by decide +kernel
theorem dX5_offBy_2 : decode cX5_offBy 2 = .ok (.getfield 28, 3) := by decide +kernel
theorem dX5_offBy_5 : decode cX5_offBy 5 = .ok (.invokevirtual 83, 3) := by decide +kernel
theorem dX5_offBy_8 : decode cX5_offBy 8 = .ok (.aload_n 0, 1) := by decide +kernel
theorem dX5_offBy_9 : decode cX5_offBy 9 = .ok (.aload_n 0, 1) := by decide +kernel
theorem dX5_offBy_10 : decode cX5_offBy 10 = .ok (.getfield 28, 3) := by decide +kernel
theorem dX5_offBy_13 : decode cX5_offBy 13 = .ok (.iconst 1, 1) := by decide +kernel
theorem dX5_offBy_14 : decode cX5_offBy 14 = .ok (.iload_n 1, 1) := by decide +kernel
theorem dX5_offBy_15 : decode cX5_offBy 15 = .ok (.ishl, 1) := by decide +kernel
theorem dX5_offBy_16 : decode cX5_offBy 16 = .ok (.iconst (-1), 1) := by decide +kernel
theorem dX5_offBy_17 : decode cX5_offBy 17 = .ok (.ixor, 1) := by decide +kernel
theorem dX5_offBy_18 : decode cX5_offBy 18 = .ok (.iand, 1) := by decide +kernel
theorem dX5_offBy_19 : decode cX5_offBy 19 = .ok (.invokevirtual 83, 3) := by decide +kernel
theorem dX5_offBy_22 : decode cX5_offBy 22 = .ok (.iconst (-1), 1) := by decide +kernel
theorem dX5_offBy_23 : decode cX5_offBy 23 = .ok (.ixor, 1) := by decide +kernel
theorem dX5_offBy_24 : decode cX5_offBy 24 = .ok (.iand, 1) := by decide +kernel
theorem dX5_offBy_25 : decode cX5_offBy 25 = .ok (.ireturn, 1) := by decide +kernel
theorem dX5_beyond_0 : decode cX5_beyond 0 = .ok (.aload_n 0, 1) := by decide +kernel
theorem dX5_beyond_1 : decode cX5_beyond 1 = .ok (.getfield 9, 3) := by decide +kernel
theorem dX5_beyond_4 : decode cX5_beyond 4 = .ok (.ifCond .le 14, 3) := by decide +kernel
theorem dX5_beyond_7 : decode cX5_beyond 7 = .ok (.iload_n 1, 1) := by decide +kernel
theorem dX5_beyond_8 : decode cX5_beyond 8 = .ok (.iload_n 2, 1) := by decide +kernel
theorem dX5_beyond_9 : decode cX5_beyond 9 = .ok (.iadd, 1) := by decide +kernel
theorem dX5_beyond_10 : decode cX5_beyond 10 = .ok (.aload_n 0, 1) := by decide +kernel
theorem dX5_beyond_11 : decode cX5_beyond 11 = .ok (.getfield 9, 3) := by decide +kernel
theorem dX5_beyond_14 : decode cX5_beyond 14 = .ok (.irem, 1) := by decide +kernel
theorem dX5_beyond_15 : decode cX5_beyond 15 = .ok (.goto 4, 3) := by decide +kernel
theorem dX5_beyond_18 : decode cX5_beyond 18 = .ok (.iconst 0, 1) := by decide +kernel
theorem dX5_beyond_19 : decode cX5_beyond 19 = .ok (.ireturn, 1) := by decide +kernel
theorem dX5_downOf_0 : decode cX5_downOf 0 = .ok (.aload_n 0, 1) := by decide +kernel
theorem dX5_downOf_1 : decode cX5_downOf 1 = .ok (.iload_n 1, 1) := by decide +kernel
theorem dX5_downOf_2 : decode cX5_downOf 2 = .ok (.invokevirtual 79, 3) := by decide +kernel
theorem dX5_downOf_5 : decode cX5_downOf 5 = .ok (.istore_n 2, 1) := by decide +kernel
theorem dX5_downOf_6 : decode cX5_downOf 6 = .ok (.aload_n 0, 1) := by decide +kernel
theorem dX5_downOf_7 : decode cX5_downOf 7 = .ok (.getfield 25, 3) := by decide +kernel
theorem dX5_downOf_10 : decode cX5_downOf 10 = .ok (.arraylength, 1) := by decide +kernel
theorem dX5_downOf_11 : decode cX5_downOf 11 = .ok (.iconst 1, 1) := by decide +kernel
theorem dX5_downOf_12 : decode cX5_downOf 12 = .ok (.isub, 1) := by decide +kernel
theorem dX5_downOf_13 : decode cX5_downOf 13 = .ok (.istore_n 3, 1) := by decide +kernel
theorem dX5_downOf_14 : decode cX5_downOf 14 = .ok (.iload_n 3, 1) := by decide +kernel
theorem dX5_downOf_15 : decode cX5_downOf 15 = .ok (.ifCond .lt 26, 3) := by decide +kernel
theorem dX5_downOf_18 : decode cX5_downOf 18 = .ok (.iload_n 2, 1) := by decide +kernel
theorem dX5_downOf_19 : decode cX5_downOf 19 = .ok (.iload_n 3, 1) := by decide +kernel
theorem dX5_downOf_20 : decode cX5_downOf 20 = .ok (.invokestatic 97, 3) := by decide +kernel
theorem dX5_downOf_23 : decode cX5_downOf 23 = .ok (.ifCond .eq 12, 3) := by decide +kernel
theorem dX5_downOf_26 : decode cX5_downOf 26 = .ok (.iload_n 2, 1) := by decide +kernel
theorem dX5_downOf_27 : decode cX5_downOf 27 = .ok (.aload_n 0, 1) := by decide +kernel
theorem dX5_downOf_28 : decode cX5_downOf 28 = .ok (.getfield 25, 3) := by decide +kernel
theorem dX5_downOf_31 : decode cX5_downOf 31 = .ok (.iload_n 3, 1) := by decide +kernel
theorem dX5_downOf_32 : decode cX5_downOf 32 = .ok (.iaload, 1) := by decide +kernel
theorem dX5_downOf_33 : decode cX5_downOf 33 = .ok (.ior, 1) := by decide +kernel
theorem dX5_downOf_34 : decode cX5_downOf 34 = .ok (.istore_n 2, 1) := by decide +kernel
theorem dX5_downOf_35 : decode cX5_downOf 35 = .ok (.iinc 3 (-1), 3) := by decide +kernel
theorem dX5_downOf_38 : decode cX5_downOf 38 = .ok (.goto (-24), 3) := by decide +kernel
theorem dX5_downOf_41 : decode cX5_downOf 41 = .ok (.iload_n 2, 1) := by decide +kernel
theorem dX5_downOf_42 : decode cX5_downOf 42 = .ok (.ireturn, 1) := by decide +kernel
theorem dX5_upOf_0 : decode cX5_upOf 0 = .ok (.iconst 0, 1) := by decide +kernel
theorem dX5_upOf_1 : decode cX5_upOf 1 = .ok (.istore_n 2, 1) := by decide +kernel
theorem dX5_upOf_2 : decode cX5_upOf 2 = .ok (.iconst 0, 1) := by decide +kernel
theorem dX5_upOf_3 : decode cX5_upOf 3 = .ok (.istore_n 3, 1) := by decide +kernel
theorem dX5_upOf_4 : decode cX5_upOf 4 = .ok (.iload_n 3, 1) := by decide +kernel
theorem dX5_upOf_5 : decode cX5_upOf 5 = .ok (.aload_n 0, 1) := by decide +kernel
theorem dX5_upOf_6 : decode cX5_upOf 6 = .ok (.getfield 9, 3) := by decide +kernel
theorem dX5_upOf_9 : decode cX5_upOf 9 = .ok (.if_icmp .ge 27, 3) := by decide +kernel
theorem dX5_upOf_12 : decode cX5_upOf 12 = .ok (.aload_n 0, 1) := by decide +kernel
theorem dX5_upOf_13 : decode cX5_upOf 13 = .ok (.iload_n 3, 1) := by decide +kernel
theorem dX5_upOf_14 : decode cX5_upOf 14 = .ok (.invokevirtual 132, 3) := by decide +kernel
theorem dX5_upOf_17 : decode cX5_upOf 17 = .ok (.iload_n 1, 1) := by decide +kernel
theorem dX5_upOf_18 : decode cX5_upOf 18 = .ok (.invokestatic 97, 3) := by decide +kernel
theorem dX5_upOf_21 : decode cX5_upOf 21 = .ok (.ifCond .eq 9, 3) := by decide +kernel
theorem dX5_upOf_24 : decode cX5_upOf 24 = .ok (.iload_n 2, 1) := by decide +kernel
theorem dX5_upOf_25 : decode cX5_upOf 25 = .ok (.iconst 1, 1) := by decide +kernel
theorem dX5_upOf_26 : decode cX5_upOf 26 = .ok (.iload_n 3, 1) := by decide +kernel
theorem dX5_upOf_27 : decode cX5_upOf 27 = .ok (.ishl, 1) := by decide +kernel
theorem dX5_upOf_28 : decode cX5_upOf 28 = .ok (.ior, 1) := by decide +kernel
theorem dX5_upOf_29 : decode cX5_upOf 29 = .ok (.istore_n 2, 1) := by decide +kernel
theorem dX5_upOf_30 : decode cX5_upOf 30 = .ok (.iinc 3 1, 3) := by decide +kernel
theorem dX5_upOf_33 : decode cX5_upOf 33 = .ok (.goto (-29), 3) := by decide +kernel
theorem dX5_upOf_36 : decode cX5_upOf 36 = .ok (.iload_n 2, 1) := by decide +kernel
theorem dX5_upOf_37 : decode cX5_upOf 37 = .ok (.ireturn, 1) := by decide +kernel
theorem dX5_daysUntil_0 : decode cX5_daysUntil 0 = .ok (.iconst 0, 1) := by decide +kernel
theorem dX5_daysUntil_1 : decode cX5_daysUntil 1 = .ok (.istore_n 2, 1) := by decide +kernel
theorem dX5_daysUntil_2 : decode cX5_daysUntil 2 = .ok (.iconst 0, 1) := by decide +kernel
theorem dX5_daysUntil_3 : decode cX5_daysUntil 3 = .ok (.istore_n 3, 1) := by decide +kernel
theorem dX5_daysUntil_4 : decode cX5_daysUntil 4 = .ok (.iload_n 3, 1) := by decide +kernel
theorem dX5_daysUntil_5 : decode cX5_daysUntil 5 = .ok (.aload_n 0, 1) := by decide +kernel
theorem dX5_daysUntil_6 : decode cX5_daysUntil 6 = .ok (.getfield 9, 3) := by decide +kernel
theorem dX5_daysUntil_9 : decode cX5_daysUntil 9 = .ok (.if_icmp .ge 62, 3) := by decide +kernel
theorem dX5_daysUntil_12 : decode cX5_daysUntil 12 = .ok (.iload_n 1, 1) := by decide +kernel
theorem dX5_daysUntil_13 : decode cX5_daysUntil 13 = .ok (.iload_n 3, 1) := by decide +kernel
theorem dX5_daysUntil_14 : decode cX5_daysUntil 14 = .ok (.invokestatic 97, 3) := by decide +kernel
theorem dX5_daysUntil_17 : decode cX5_daysUntil 17 = .ok (.ifCond .eq 48, 3) := by decide +kernel
theorem dX5_daysUntil_20 : decode cX5_daysUntil 20 = .ok (.aload_n 0, 1) := by decide +kernel
theorem dX5_daysUntil_21 : decode cX5_daysUntil 21 = .ok (.getfield 28, 3) := by decide +kernel
theorem dX5_daysUntil_24 : decode cX5_daysUntil 24 = .ok (.iload_n 3, 1) := by decide +kernel
theorem dX5_daysUntil_25 : decode cX5_daysUntil 25 = .ok (.invokestatic 97, 3) := by decide +kernel
theorem dX5_daysUntil_28 : decode cX5_daysUntil 28 = .ok (.ifCond .eq 11, 3) := by decide +kernel
theorem dX5_daysUntil_31 : decode cX5_daysUntil 31 = .ok (.aload_n 0, 1) := by decide +kernel
theorem dX5_daysUntil_32 : decode cX5_daysUntil 32 = .ok (.iload_n 3, 1) := by decide +kernel
theorem dX5_daysUntil_33 : decode cX5_daysUntil 33 = .ok (.invokevirtual 86, 3) := by decide +kernel
theorem dX5_daysUntil_36 : decode cX5_daysUntil 36 = .ok (.ifCond .ne 5, 3) := by decide +kernel
theorem dX5_daysUntil_39 : decode cX5_daysUntil 39 = .ok (.iconst (-1), 1) := by decide +kernel
theorem dX5_daysUntil_40 : decode cX5_daysUntil 40 = .ok (.ireturn, 1) := by decide +kernel
theorem dX5_daysUntil_41 : decode cX5_daysUntil 41 = .ok (.iload_n 2, 1) := by decide +kernel
theorem dX5_daysUntil_42 : decode cX5_daysUntil 42 = .ok (.aload_n 0, 1) := by decide +kernel
theorem dX5_daysUntil_43 : decode cX5_daysUntil 43 = .ok (.getfield 19, 3) := by decide +kernel
theorem dX5_daysUntil_46 : decode cX5_daysUntil 46 = .ok (.iload_n 3, 1) := by decide +kernel
theorem dX5_daysUntil_47 : decode cX5_daysUntil 47 = .ok (.invokestatic 71, 3) := by decide +kernel
theorem dX5_daysUntil_50 : decode cX5_daysUntil 50 = .ok (.aload_n 0, 1) := by decide +kernel
theorem dX5_daysUntil_51 : decode cX5_daysUntil 51 = .ok (.getfield 31, 3) := by decide +kernel
theorem dX5_daysUntil_54 : decode cX5_daysUntil 54 = .ok (.isub, 1) := by decide +kernel
theorem dX5_daysUntil_55 : decode cX5_daysUntil 55 = .ok (.iconst 4, 1) := by decide +kernel
theorem dX5_daysUntil_56 : decode cX5_daysUntil 56 = .ok (.invokestatic 135, 3) := by decide +kernel
theorem dX5_daysUntil_59 : decode cX5_daysUntil 59 = .ok (.iconst 1, 1) := by decide +kernel
theorem dX5_daysUntil_60 : decode cX5_daysUntil 60 = .ok (.iadd, 1) := by decide +kernel
theorem dX5_daysUntil_61 : decode cX5_daysUntil 61 = .ok (.invokestatic 101, 3) := by decide +kernel
theorem dX5_daysUntil_64 : decode cX5_daysUntil 64 = .ok (.istore_n 2, 1) := by decide +kernel
theorem dX5_daysUntil_65 : decode cX5_daysUntil 65 = .ok (.iinc 3 1, 3) := by decide +kernel
theorem dX5_daysUntil_68 : decode cX5_daysUntil 68 = .ok (.goto (-64), 3) := by decide +kernel
theorem dX5_daysUntil_71 : decode cX5_daysUntil 71 = .ok (.iload_n 2, 1) := by decide +kernel
theorem dX5_daysUntil_72 : decode cX5_daysUntil 72 = .ok (.ireturn, 1) := by decide +kernel
theorem dX5_stepsToPutBack_0 : decode cX5_stepsToPutBack 0 = .ok (.aload_n 0, 1) := by decide +kernel
theorem dX5_stepsToPutBack_1 : decode cX5_stepsToPutBack 1 = .ok (.iload_n 1, 1) := by decide +kernel
theorem dX5_stepsToPutBack_2 : decode cX5_stepsToPutBack 2 = .ok (.invokevirtual 132, 3) := by decide +kernel
theorem dX5_stepsToPutBack_5 : decode cX5_stepsToPutBack 5 = .ok (.iconst 1, 1) := by decide +kernel
theorem dX5_stepsToPutBack_6 : decode cX5_stepsToPutBack 6 = .ok (.iload_n 1, 1) := by decide +kernel
theorem dX5_stepsToPutBack_7 : decode cX5_stepsToPutBack 7 = .ok (.ishl, 1) := by decide +kernel
theorem dX5_stepsToPutBack_8 : decode cX5_stepsToPutBack 8 = .ok (.ior, 1) := by decide +kernel
theorem dX5_stepsToPutBack_9 : decode cX5_stepsToPutBack 9 = .ok (.aload_n 0, 1) := by decide +kernel
theorem dX5_stepsToPutBack_10 : decode cX5_stepsToPutBack 10 = .ok (.getfield 28, 3) := by decide +kernel
theorem dX5_stepsToPutBack_13 : decode cX5_stepsToPutBack 13 = .ok (.iconst (-1), 1) := by decide +kernel
theorem dX5_stepsToPutBack_14 : decode cX5_stepsToPutBack 14 = .ok (.ixor, 1) := by decide +kernel
theorem dX5_stepsToPutBack_15 : decode cX5_stepsToPutBack 15 = .ok (.iand, 1) := by decide +kernel
theorem dX5_stepsToPutBack_16 : decode cX5_stepsToPutBack 16 = .ok (.istore_n 2, 1) := by decide +kernel
theorem dX5_stepsToPutBack_17 : decode cX5_stepsToPutBack 17 = .ok (.iconst 0, 1) := by decide +kernel
theorem dX5_stepsToPutBack_18 : decode cX5_stepsToPutBack 18 = .ok (.istore_n 3, 1) := by decide +kernel
theorem dX5_stepsToPutBack_19 : decode cX5_stepsToPutBack 19 = .ok (.iload_n 3, 1) := by decide +kernel
theorem dX5_stepsToPutBack_20 : decode cX5_stepsToPutBack 20 = .ok (.aload_n 0, 1) := by decide +kernel
theorem dX5_stepsToPutBack_21 : decode cX5_stepsToPutBack 21 = .ok (.getfield 9, 3) := by decide +kernel
theorem dX5_stepsToPutBack_24 : decode cX5_stepsToPutBack 24 = .ok (.if_icmp .ge 27, 3) := by decide +kernel
theorem dX5_stepsToPutBack_27 : decode cX5_stepsToPutBack 27 = .ok (.iload_n 2, 1) := by decide +kernel
theorem dX5_stepsToPutBack_28 : decode cX5_stepsToPutBack 28 = .ok (.iload_n 3, 1) := by decide +kernel
theorem dX5_stepsToPutBack_29 : decode cX5_stepsToPutBack 29 = .ok (.invokestatic 97, 3) := by decide +kernel
theorem dX5_stepsToPutBack_32 : decode cX5_stepsToPutBack 32 = .ok (.ifCond .eq 13, 3) := by decide +kernel
theorem dX5_stepsToPutBack_35 : decode cX5_stepsToPutBack 35 = .ok (.aload_n 0, 1) := by decide +kernel
theorem dX5_stepsToPutBack_36 : decode cX5_stepsToPutBack 36 = .ok (.iload_n 3, 1) := by decide +kernel
theorem dX5_stepsToPutBack_37 : decode cX5_stepsToPutBack 37 = .ok (.invokevirtual 86, 3) := by decide +kernel
theorem dX5_stepsToPutBack_40 : decode cX5_stepsToPutBack 40 = .ok (.ifCond .ne 5, 3) := by decide +kernel
theorem dX5_stepsToPutBack_43 : decode cX5_stepsToPutBack 43 = .ok (.iconst (-1), 1) := by decide +kernel
theorem dX5_stepsToPutBack_44 : decode cX5_stepsToPutBack 44 = .ok (.ireturn, 1) := by decide +kernel
theorem dX5_stepsToPutBack_45 : decode cX5_stepsToPutBack 45 = .ok (.iinc 3 1, 3) := by decide +kernel
theorem dX5_stepsToPutBack_48 : decode cX5_stepsToPutBack 48 = .ok (.goto (-29), 3) := by decide +kernel
theorem dX5_stepsToPutBack_51 : decode cX5_stepsToPutBack 51 = .ok (.iload_n 2, 1) := by decide +kernel
theorem dX5_stepsToPutBack_52 : decode cX5_stepsToPutBack 52 = .ok (.invokestatic 138, 3) := by decide +kernel
theorem dX5_stepsToPutBack_55 : decode cX5_stepsToPutBack 55 = .ok (.ireturn, 1) := by decide +kernel
theorem dX5_highest_0 : decode cX5_highest 0 = .ok (.iconst 0, 1) := by decide +kernel
theorem dX5_highest_1 : decode cX5_highest 1 = .ok (.istore_n 1, 1) := by decide +kernel
theorem dX5_highest_2 : decode cX5_highest 2 = .ok (.iconst 0, 1) := by decide +kernel
theorem dX5_highest_3 : decode cX5_highest 3 = .ok (.istore_n 2, 1) := by decide +kernel
theorem dX5_highest_4 : decode cX5_highest 4 = .ok (.iload_n 2, 1) := by decide +kernel
theorem dX5_highest_5 : decode cX5_highest 5 = .ok (.aload_n 0, 1) := by decide +kernel
theorem dX5_highest_6 : decode cX5_highest 6 = .ok (.getfield 9, 3) := by decide +kernel
theorem dX5_highest_9 : decode cX5_highest 9 = .ok (.if_icmp .ge 17, 3) := by decide +kernel
theorem dX5_highest_12 : decode cX5_highest 12 = .ok (.iload_n 1, 1) := by decide +kernel
theorem dX5_highest_13 : decode cX5_highest 13 = .ok (.aload_n 0, 1) := by decide +kernel
theorem dX5_highest_14 : decode cX5_highest 14 = .ok (.iload_n 2, 1) := by decide +kernel
theorem dX5_highest_15 : decode cX5_highest 15 = .ok (.invokevirtual 79, 3) := by decide +kernel
theorem dX5_highest_18 : decode cX5_highest 18 = .ok (.ior, 1) := by decide +kernel
theorem dX5_highest_19 : decode cX5_highest 19 = .ok (.istore_n 1, 1) := by decide +kernel
theorem dX5_highest_20 : decode cX5_highest 20 = .ok (.iinc 2 1, 3) := by decide +kernel
theorem dX5_highest_23 : decode cX5_highest 23 = .ok (.goto (-19), 3) := by decide +kernel
theorem dX5_highest_26 : decode cX5_highest 26 = .ok (.aload_n 0, 1) := by decide +kernel
theorem dX5_highest_27 : decode cX5_highest 27 = .ok (.invokevirtual 63, 3) := by decide +kernel
theorem dX5_highest_30 : decode cX5_highest 30 = .ok (.iload_n 1, 1) := by decide +kernel
theorem dX5_highest_31 : decode cX5_highest 31 = .ok (.iconst (-1), 1) := by decide +kernel
theorem dX5_highest_32 : decode cX5_highest 32 = .ok (.ixor, 1) := by decide +kernel
theorem dX5_highest_33 : decode cX5_highest 33 = .ok (.iand, 1) := by decide +kernel
theorem dX5_highest_34 : decode cX5_highest 34 = .ok (.ireturn, 1) := by decide +kernel
theorem dX5_lowest_0 : decode cX5_lowest 0 = .ok (.iconst 0, 1) := by decide +kernel
theorem dX5_lowest_1 : decode cX5_lowest 1 = .ok (.istore_n 1, 1) := by decide +kernel
theorem dX5_lowest_2 : decode cX5_lowest 2 = .ok (.iconst 0, 1) := by decide +kernel
theorem dX5_lowest_3 : decode cX5_lowest 3 = .ok (.istore_n 2, 1) := by decide +kernel
theorem dX5_lowest_4 : decode cX5_lowest 4 = .ok (.iload_n 2, 1) := by decide +kernel
theorem dX5_lowest_5 : decode cX5_lowest 5 = .ok (.aload_n 0, 1) := by decide +kernel
theorem dX5_lowest_6 : decode cX5_lowest 6 = .ok (.getfield 9, 3) := by decide +kernel
theorem dX5_lowest_9 : decode cX5_lowest 9 = .ok (.if_icmp .ge 23, 3) := by decide +kernel
theorem dX5_lowest_12 : decode cX5_lowest 12 = .ok (.aload_n 0, 1) := by decide +kernel
theorem dX5_lowest_13 : decode cX5_lowest 13 = .ok (.iload_n 2, 1) := by decide +kernel
theorem dX5_lowest_14 : decode cX5_lowest 14 = .ok (.invokevirtual 79, 3) := by decide +kernel
theorem dX5_lowest_17 : decode cX5_lowest 17 = .ok (.ifCond .ne 9, 3) := by decide +kernel
theorem dX5_lowest_20 : decode cX5_lowest 20 = .ok (.iload_n 1, 1) := by decide +kernel
theorem dX5_lowest_21 : decode cX5_lowest 21 = .ok (.iconst 1, 1) := by decide +kernel
theorem dX5_lowest_22 : decode cX5_lowest 22 = .ok (.iload_n 2, 1) := by decide +kernel
theorem dX5_lowest_23 : decode cX5_lowest 23 = .ok (.ishl, 1) := by decide +kernel
theorem dX5_lowest_24 : decode cX5_lowest 24 = .ok (.ior, 1) := by decide +kernel
theorem dX5_lowest_25 : decode cX5_lowest 25 = .ok (.istore_n 1, 1) := by decide +kernel
theorem dX5_lowest_26 : decode cX5_lowest 26 = .ok (.iinc 2 1, 3) := by decide +kernel
theorem dX5_lowest_29 : decode cX5_lowest 29 = .ok (.goto (-25), 3) := by decide +kernel
theorem dX5_lowest_32 : decode cX5_lowest 32 = .ok (.iload_n 1, 1) := by decide +kernel
theorem dX5_lowest_33 : decode cX5_lowest 33 = .ok (.ireturn, 1) := by decide +kernel
theorem dX5_measureDepths_0 : decode cX5_measureDepths 0 = .ok (.iconst 0, 1) := by decide +kernel
theorem dX5_measureDepths_1 : decode cX5_measureDepths 1 = .ok (.istore_n 1, 1) := by decide +kernel
theorem dX5_measureDepths_2 : decode cX5_measureDepths 2 = .ok (.iload_n 1, 1) := by decide +kernel
theorem dX5_measureDepths_3 : decode cX5_measureDepths 3 = .ok (.aload_n 0, 1) := by decide +kernel
theorem dX5_measureDepths_4 : decode cX5_measureDepths 4 = .ok (.getfield 50, 3) := by decide +kernel
theorem dX5_measureDepths_7 : decode cX5_measureDepths 7 = .ok (.arraylength, 1) := by decide +kernel
theorem dX5_measureDepths_8 : decode cX5_measureDepths 8 = .ok (.if_icmp .ge 56, 3) := by decide +kernel
theorem dX5_measureDepths_11 : decode cX5_measureDepths 11 = .ok (.iconst 0, 1) := by decide +kernel
theorem dX5_measureDepths_12 : decode cX5_measureDepths 12 = .ok (.istore_n 2, 1) := by decide +kernel
theorem dX5_measureDepths_13 : decode cX5_measureDepths 13 = .ok (.iconst 0, 1) := by decide +kernel
theorem dX5_measureDepths_14 : decode cX5_measureDepths 14 = .ok (.istore_n 3, 1) := by decide +kernel
theorem dX5_measureDepths_15 : decode cX5_measureDepths 15 = .ok (.iload_n 3, 1) := by decide +kernel
theorem dX5_measureDepths_16 : decode cX5_measureDepths 16 = .ok (.iload_n 1, 1) := by decide +kernel
theorem dX5_measureDepths_17 : decode cX5_measureDepths 17 = .ok (.if_icmp .ge 34, 3) := by decide +kernel
theorem dX5_measureDepths_20 : decode cX5_measureDepths 20 = .ok (.aload_n 0, 1) := by decide +kernel
theorem dX5_measureDepths_21 : decode cX5_measureDepths 21 = .ok (.iload_n 1, 1) := by decide +kernel
theorem dX5_measureDepths_22 : decode cX5_measureDepths 22 = .ok (.invokevirtual 79, 3) := by decide +kernel
theorem dX5_measureDepths_25 : decode cX5_measureDepths 25 = .ok (.iload_n 3, 1) := by decide +kernel
theorem dX5_measureDepths_26 : decode cX5_measureDepths 26 = .ok (.invokestatic 97, 3) := by decide +kernel
theorem dX5_measureDepths_29 : decode cX5_measureDepths 29 = .ok (.ifCond .eq 16, 3) := by decide +kernel
theorem dX5_measureDepths_32 : decode cX5_measureDepths 32 = .ok (.iload_n 2, 1) := by decide +kernel
theorem dX5_measureDepths_33 : decode cX5_measureDepths 33 = .ok (.aload_n 0, 1) := by decide +kernel
theorem dX5_measureDepths_34 : decode cX5_measureDepths 34 = .ok (.getfield 50, 3) := by decide +kernel
theorem dX5_measureDepths_37 : decode cX5_measureDepths 37 = .ok (.iload_n 3, 1) := by decide +kernel
theorem dX5_measureDepths_38 : decode cX5_measureDepths 38 = .ok (.iaload, 1) := by decide +kernel
theorem dX5_measureDepths_39 : decode cX5_measureDepths 39 = .ok (.iconst 1, 1) := by decide +kernel
theorem dX5_measureDepths_40 : decode cX5_measureDepths 40 = .ok (.iadd, 1) := by decide +kernel
theorem dX5_measureDepths_41 : decode cX5_measureDepths 41 = .ok (.invokestatic 101, 3) := by decide +kernel
theorem dX5_measureDepths_44 : decode cX5_measureDepths 44 = .ok (.istore_n 2, 1) := by decide +kernel
theorem dX5_measureDepths_45 : decode cX5_measureDepths 45 = .ok (.iinc 3 1, 3) := by decide +kernel
theorem dX5_measureDepths_48 : decode cX5_measureDepths 48 = .ok (.goto (-33), 3) := by decide +kernel
theorem dX5_measureDepths_51 : decode cX5_measureDepths 51 = .ok (.aload_n 0, 1) := by decide +kernel
theorem dX5_measureDepths_52 : decode cX5_measureDepths 52 = .ok (.getfield 50, 3) := by decide +kernel
theorem dX5_measureDepths_55 : decode cX5_measureDepths 55 = .ok (.iload_n 1, 1) := by decide +kernel
theorem dX5_measureDepths_56 : decode cX5_measureDepths 56 = .ok (.iload_n 2, 1) := by decide +kernel
theorem dX5_measureDepths_57 : decode cX5_measureDepths 57 = .ok (.iastore, 1) := by decide +kernel
theorem dX5_measureDepths_58 : decode cX5_measureDepths 58 = .ok (.iinc 1 1, 3) := by decide +kernel
theorem dX5_measureDepths_61 : decode cX5_measureDepths 61 = .ok (.goto (-59), 3) := by decide +kernel
theorem dX5_measureDepths_64 : decode cX5_measureDepths 64 = .ok (.return_, 1) := by decide +kernel
theorem dX5_depthOf_0 : decode cX5_depthOf 0 = .ok (.aload_n 0, 1) := by decide +kernel
theorem dX5_depthOf_1 : decode cX5_depthOf 1 = .ok (.invokevirtual 143, 3) := by decide +kernel
theorem dX5_depthOf_4 : decode cX5_depthOf 4 = .ok (.aload_n 0, 1) := by decide +kernel
theorem dX5_depthOf_5 : decode cX5_depthOf 5 = .ok (.getfield 50, 3) := by decide +kernel
theorem dX5_depthOf_8 : decode cX5_depthOf 8 = .ok (.iload_n 1, 1) := by decide +kernel
theorem dX5_depthOf_9 : decode cX5_depthOf 9 = .ok (.invokestatic 71, 3) := by decide +kernel
theorem dX5_depthOf_12 : decode cX5_depthOf 12 = .ok (.ireturn, 1) := by decide +kernel
theorem dX5_chainFrom_0 : decode cX5_chainFrom 0 = .ok (.aload_n 0, 1) := by decide +kernel
theorem dX5_chainFrom_1 : decode cX5_chainFrom 1 = .ok (.invokevirtual 143, 3) := by decide +kernel
theorem dX5_chainFrom_4 : decode cX5_chainFrom 4 = .ok (.iconst 1, 1) := by decide +kernel
theorem dX5_chainFrom_5 : decode cX5_chainFrom 5 = .ok (.iload_n 1, 1) := by decide +kernel
theorem dX5_chainFrom_6 : decode cX5_chainFrom 6 = .ok (.ishl, 1) := by decide +kernel
theorem dX5_chainFrom_7 : decode cX5_chainFrom 7 = .ok (.istore_n 2, 1) := by decide +kernel
theorem dX5_chainFrom_8 : decode cX5_chainFrom 8 = .ok (.iload_n 1, 1) := by decide +kernel
theorem dX5_chainFrom_9 : decode cX5_chainFrom 9 = .ok (.istore_n 3, 1) := by decide +kernel
theorem dX5_chainFrom_10 : decode cX5_chainFrom 10 = .ok (.aload_n 0, 1) := by decide +kernel
theorem dX5_chainFrom_11 : decode cX5_chainFrom 11 = .ok (.getfield 50, 3) := by decide +kernel
theorem dX5_chainFrom_14 : decode cX5_chainFrom 14 = .ok (.iload_n 1, 1) := by decide +kernel
theorem dX5_chainFrom_15 : decode cX5_chainFrom 15 = .ok (.invokestatic 71, 3) := by decide +kernel
theorem dX5_chainFrom_18 : decode cX5_chainFrom 18 = .ok (.iconst 1, 1) := by decide +kernel
theorem dX5_chainFrom_19 : decode cX5_chainFrom 19 = .ok (.isub, 1) := by decide +kernel
theorem dX5_chainFrom_20 : decode cX5_chainFrom 20 = .ok (.istore 4, 2) := by decide +kernel
theorem dX5_chainFrom_22 : decode cX5_chainFrom 22 = .ok (.iload 4, 2) := by decide +kernel
theorem dX5_chainFrom_24 : decode cX5_chainFrom 24 = .ok (.ifCond .lt 23, 3) := by decide +kernel
theorem dX5_chainFrom_27 : decode cX5_chainFrom 27 = .ok (.aload_n 0, 1) := by decide +kernel
theorem dX5_chainFrom_28 : decode cX5_chainFrom 28 = .ok (.iload_n 3, 1) := by decide +kernel
theorem dX5_chainFrom_29 : decode cX5_chainFrom 29 = .ok (.iload 4, 2) := by decide +kernel
theorem dX5_chainFrom_31 : decode cX5_chainFrom 31 = .ok (.invokevirtual 146, 3) := by decide +kernel
theorem dX5_chainFrom_34 : decode cX5_chainFrom 34 = .ok (.istore_n 3, 1) := by decide +kernel
theorem dX5_chainFrom_35 : decode cX5_chainFrom 35 = .ok (.iload_n 2, 1) := by decide +kernel
theorem dX5_chainFrom_36 : decode cX5_chainFrom 36 = .ok (.iconst 1, 1) := by decide +kernel
theorem dX5_chainFrom_37 : decode cX5_chainFrom 37 = .ok (.iload_n 3, 1) := by decide +kernel
theorem dX5_chainFrom_38 : decode cX5_chainFrom 38 = .ok (.ishl, 1) := by decide +kernel
theorem dX5_chainFrom_39 : decode cX5_chainFrom 39 = .ok (.ior, 1) := by decide +kernel
theorem dX5_chainFrom_40 : decode cX5_chainFrom 40 = .ok (.istore_n 2, 1) := by decide +kernel
theorem dX5_chainFrom_41 : decode cX5_chainFrom 41 = .ok (.iinc 4 (-1), 3) := by decide +kernel
theorem dX5_chainFrom_44 : decode cX5_chainFrom 44 = .ok (.goto (-22), 3) := by decide +kernel
theorem dX5_chainFrom_47 : decode cX5_chainFrom 47 = .ok (.iload_n 2, 1) := by decide +kernel
theorem dX5_chainFrom_48 : decode cX5_chainFrom 48 = .ok (.ireturn, 1) := by decide +kernel
theorem dX5_leastHungAt_0 : decode cX5_leastHungAt 0 = .ok (.iconst 0, 1) := by decide +kernel
theorem dX5_leastHungAt_1 : decode cX5_leastHungAt 1 = .ok (.istore_n 3, 1) := by decide +kernel
theorem dX5_leastHungAt_2 : decode cX5_leastHungAt 2 = .ok (.iload_n 3, 1) := by decide +kernel
theorem dX5_leastHungAt_3 : decode cX5_leastHungAt 3 = .ok (.iload_n 1, 1) := by decide +kernel
theorem dX5_leastHungAt_4 : decode cX5_leastHungAt 4 = .ok (.if_icmp .ge 35, 3) := by decide +kernel
theorem dX5_leastHungAt_7 : decode cX5_leastHungAt 7 = .ok (.aload_n 0, 1) := by decide +kernel
theorem dX5_leastHungAt_8 : decode cX5_leastHungAt 8 = .ok (.iload_n 1, 1) := by decide +kernel
theorem dX5_leastHungAt_9 : decode cX5_leastHungAt 9 = .ok (.invokevirtual 79, 3) := by decide +kernel
theorem dX5_leastHungAt_12 : decode cX5_leastHungAt 12 = .ok (.iload_n 3, 1) := by decide +kernel
theorem dX5_leastHungAt_13 : decode cX5_leastHungAt 13 = .ok (.invokestatic 97, 3) := by decide +kernel
theorem dX5_leastHungAt_16 : decode cX5_leastHungAt 16 = .ok (.ifCond .eq 17, 3) := by decide +kernel
theorem dX5_leastHungAt_19 : decode cX5_leastHungAt 19 = .ok (.aload_n 0, 1) := by decide +kernel
theorem dX5_leastHungAt_20 : decode cX5_leastHungAt 20 = .ok (.getfield 50, 3) := by decide +kernel
theorem dX5_leastHungAt_23 : decode cX5_leastHungAt 23 = .ok (.iload_n 3, 1) := by decide +kernel
theorem dX5_leastHungAt_24 : decode cX5_leastHungAt 24 = .ok (.invokestatic 71, 3) := by decide +kernel
theorem dX5_leastHungAt_27 : decode cX5_leastHungAt 27 = .ok (.iload_n 2, 1) := by decide +kernel
theorem dX5_leastHungAt_28 : decode cX5_leastHungAt 28 = .ok (.if_icmp .ne 5, 3) := by decide +kernel
theorem dX5_leastHungAt_31 : decode cX5_leastHungAt 31 = .ok (.iload_n 3, 1) := by decide +kernel
theorem dX5_leastHungAt_32 : decode cX5_leastHungAt 32 = .ok (.ireturn, 1) := by decide +kernel
theorem dX5_leastHungAt_33 : decode cX5_leastHungAt 33 = .ok (.iinc 3 1, 3) := by decide +kernel
theorem dX5_leastHungAt_36 : decode cX5_leastHungAt 36 = .ok (.goto (-34), 3) := by decide +kernel
theorem dX5_leastHungAt_39 : decode cX5_leastHungAt 39 = .ok (.iload_n 1, 1) := by decide +kernel
theorem dX5_leastHungAt_40 : decode cX5_leastHungAt 40 = .ok (.ireturn, 1) := by decide +kernel
theorem dX5_rungInWeather_0 : decode cX5_rungInWeather 0 = .ok (.iconst 0, 1) := by decide +kernel
theorem dX5_rungInWeather_1 : decode cX5_rungInWeather 1 = .ok (.istore_n 2, 1) := by decide +kernel
theorem dX5_rungInWeather_2 : decode cX5_rungInWeather 2 = .ok (.iconst 0, 1) := by decide +kernel
theorem dX5_rungInWeather_3 : decode cX5_rungInWeather 3 = .ok (.istore_n 3, 1) := by decide +kernel
theorem dX5_rungInWeather_4 : decode cX5_rungInWeather 4 = .ok (.iload_n 3, 1) := by decide +kernel
theorem dX5_rungInWeather_5 : decode cX5_rungInWeather 5 = .ok (.aload_n 0, 1) := by decide +kernel
theorem dX5_rungInWeather_6 : decode cX5_rungInWeather 6 = .ok (.getfield 9, 3) := by decide +kernel
theorem dX5_rungInWeather_9 : decode cX5_rungInWeather 9 = .ok (.if_icmp .ge 27, 3) := by decide +kernel
theorem dX5_rungInWeather_12 : decode cX5_rungInWeather 12 = .ok (.aload_n 0, 1) := by decide +kernel
theorem dX5_rungInWeather_13 : decode cX5_rungInWeather 13 = .ok (.getfield 19, 3) := by decide +kernel
theorem dX5_rungInWeather_16 : decode cX5_rungInWeather 16 = .ok (.iload_n 3, 1) := by decide +kernel
theorem dX5_rungInWeather_17 : decode cX5_rungInWeather 17 = .ok (.invokestatic 71, 3) := by decide +kernel
theorem dX5_rungInWeather_20 : decode cX5_rungInWeather 20 = .ok (.iload_n 1, 1) := by decide +kernel
theorem dX5_rungInWeather_21 : decode cX5_rungInWeather 21 = .ok (.if_icmp .ne 9, 3) := by decide +kernel
theorem dX5_rungInWeather_24 : decode cX5_rungInWeather 24 = .ok (.iload_n 2, 1) := by decide +kernel
theorem dX5_rungInWeather_25 : decode cX5_rungInWeather 25 = .ok (.iconst 1, 1) := by decide +kernel
theorem dX5_rungInWeather_26 : decode cX5_rungInWeather 26 = .ok (.iload_n 3, 1) := by decide +kernel
theorem dX5_rungInWeather_27 : decode cX5_rungInWeather 27 = .ok (.ishl, 1) := by decide +kernel
theorem dX5_rungInWeather_28 : decode cX5_rungInWeather 28 = .ok (.ior, 1) := by decide +kernel
theorem dX5_rungInWeather_29 : decode cX5_rungInWeather 29 = .ok (.istore_n 2, 1) := by decide +kernel
theorem dX5_rungInWeather_30 : decode cX5_rungInWeather 30 = .ok (.iinc 3 1, 3) := by decide +kernel
theorem dX5_rungInWeather_33 : decode cX5_rungInWeather 33 = .ok (.goto (-29), 3) := by decide +kernel
theorem dX5_rungInWeather_36 : decode cX5_rungInWeather 36 = .ok (.iload_n 2, 1) := by decide +kernel
theorem dX5_rungInWeather_37 : decode cX5_rungInWeather 37 = .ok (.ireturn, 1) := by decide +kernel
theorem dX5_countBackIn_0 : decode cX5_countBackIn 0 = .ok (.iconst 0, 1) := by decide +kernel
theorem dX5_countBackIn_1 : decode cX5_countBackIn 1 = .ok (.istore_n 2, 1) := by decide +kernel
theorem dX5_countBackIn_2 : decode cX5_countBackIn 2 = .ok (.iconst 0, 1) := by decide +kernel
theorem dX5_countBackIn_3 : decode cX5_countBackIn 3 = .ok (.istore_n 3, 1) := by decide +kernel
theorem dX5_countBackIn_4 : decode cX5_countBackIn 4 = .ok (.iload_n 3, 1) := by decide +kernel
theorem dX5_countBackIn_5 : decode cX5_countBackIn 5 = .ok (.aload_n 0, 1) := by decide +kernel
theorem dX5_countBackIn_6 : decode cX5_countBackIn 6 = .ok (.getfield 9, 3) := by decide +kernel
theorem dX5_countBackIn_9 : decode cX5_countBackIn 9 = .ok (.if_icmp .ge 43, 3) := by decide +kernel
theorem dX5_countBackIn_12 : decode cX5_countBackIn 12 = .ok (.aload_n 0, 1) := by decide +kernel
theorem dX5_countBackIn_13 : decode cX5_countBackIn 13 = .ok (.getfield 28, 3) := by decide +kernel
theorem dX5_countBackIn_16 : decode cX5_countBackIn 16 = .ok (.iload_n 3, 1) := by decide +kernel
theorem dX5_countBackIn_17 : decode cX5_countBackIn 17 = .ok (.invokestatic 97, 3) := by decide +kernel
theorem dX5_countBackIn_20 : decode cX5_countBackIn 20 = .ok (.ifCond .eq 26, 3) := by decide +kernel
theorem dX5_countBackIn_23 : decode cX5_countBackIn 23 = .ok (.aload_n 0, 1) := by decide +kernel
theorem dX5_countBackIn_24 : decode cX5_countBackIn 24 = .ok (.iload_n 3, 1) := by decide +kernel
theorem dX5_countBackIn_25 : decode cX5_countBackIn 25 = .ok (.invokevirtual 86, 3) := by decide +kernel
theorem dX5_countBackIn_28 : decode cX5_countBackIn 28 = .ok (.ifCond .eq 18, 3) := by decide +kernel
theorem dX5_countBackIn_31 : decode cX5_countBackIn 31 = .ok (.aload_n 0, 1) := by decide +kernel
theorem dX5_countBackIn_32 : decode cX5_countBackIn 32 = .ok (.getfield 19, 3) := by decide +kernel
theorem dX5_countBackIn_35 : decode cX5_countBackIn 35 = .ok (.iload_n 3, 1) := by decide +kernel
theorem dX5_countBackIn_36 : decode cX5_countBackIn 36 = .ok (.invokestatic 71, 3) := by decide +kernel
theorem dX5_countBackIn_39 : decode cX5_countBackIn 39 = .ok (.iload_n 1, 1) := by decide +kernel
theorem dX5_countBackIn_40 : decode cX5_countBackIn 40 = .ok (.if_icmp .ne 6, 3) := by decide +kernel
theorem dX5_countBackIn_43 : decode cX5_countBackIn 43 = .ok (.iinc 2 1, 3) := by decide +kernel
theorem dX5_countBackIn_46 : decode cX5_countBackIn 46 = .ok (.iinc 3 1, 3) := by decide +kernel
theorem dX5_countBackIn_49 : decode cX5_countBackIn 49 = .ok (.goto (-45), 3) := by decide +kernel
theorem dX5_countBackIn_52 : decode cX5_countBackIn 52 = .ok (.iload_n 2, 1) := by decide +kernel
theorem dX5_countBackIn_53 : decode cX5_countBackIn 53 = .ok (.ireturn, 1) := by decide +kernel
theorem dX5_fullestWeather_0 : decode cX5_fullestWeather 0 = .ok (.iconst 0, 1) := by decide +kernel
theorem dX5_fullestWeather_1 : decode cX5_fullestWeather 1 = .ok (.istore_n 1, 1) := by decide +kernel
theorem dX5_fullestWeather_2 : decode cX5_fullestWeather 2 = .ok (.iconst 1, 1) := by decide +kernel
theorem dX5_fullestWeather_3 : decode cX5_fullestWeather 3 = .ok (.istore_n 2, 1) := by decide +kernel
theorem dX5_fullestWeather_4 : decode cX5_fullestWeather 4 = .ok (.iload_n 2, 1) := by decide +kernel
theorem dX5_fullestWeather_5 : decode cX5_fullestWeather 5 = .ok (.iconst 3, 1) := by decide +kernel
theorem dX5_fullestWeather_6 : decode cX5_fullestWeather 6 = .ok (.if_icmp .gt 24, 3) := by decide +kernel
theorem dX5_fullestWeather_9 : decode cX5_fullestWeather 9 = .ok (.aload_n 0, 1) := by decide +kernel
theorem dX5_fullestWeather_10 : decode cX5_fullestWeather 10 = .ok (.iload_n 2, 1) := by decide +kernel
theorem dX5_fullestWeather_11 : decode cX5_fullestWeather 11 = .ok (.invokevirtual 149, 3) := by decide +kernel
theorem dX5_fullestWeather_14 : decode cX5_fullestWeather 14 = .ok (.aload_n 0, 1) := by decide +kernel
theorem dX5_fullestWeather_15 : decode cX5_fullestWeather 15 = .ok (.iload_n 1, 1) := by decide +kernel
theorem dX5_fullestWeather_16 : decode cX5_fullestWeather 16 = .ok (.invokevirtual 149, 3) := by decide +kernel
theorem dX5_fullestWeather_19 : decode cX5_fullestWeather 19 = .ok (.if_icmp .le 5, 3) := by decide +kernel
theorem dX5_fullestWeather_22 : decode cX5_fullestWeather 22 = .ok (.iload_n 2, 1) := by decide +kernel
theorem dX5_fullestWeather_23 : decode cX5_fullestWeather 23 = .ok (.istore_n 1, 1) := by decide +kernel
theorem dX5_fullestWeather_24 : decode cX5_fullestWeather 24 = .ok (.iinc 2 1, 3) := by decide +kernel
theorem dX5_fullestWeather_27 : decode cX5_fullestWeather 27 = .ok (.goto (-23), 3) := by decide +kernel
theorem dX5_fullestWeather_30 : decode cX5_fullestWeather 30 = .ok (.iload_n 1, 1) := by decide +kernel
theorem dX5_fullestWeather_31 : decode cX5_fullestWeather 31 = .ok (.ireturn, 1) := by decide +kernel
theorem dX5_countOpenOn_0 : decode cX5_countOpenOn 0 = .ok (.iconst 0, 1) := by decide +kernel
theorem dX5_countOpenOn_1 : decode cX5_countOpenOn 1 = .ok (.istore_n 2, 1) := by decide +kernel
theorem dX5_countOpenOn_2 : decode cX5_countOpenOn 2 = .ok (.iconst 0, 1) := by decide +kernel
theorem dX5_countOpenOn_3 : decode cX5_countOpenOn 3 = .ok (.istore_n 3, 1) := by decide +kernel
theorem dX5_countOpenOn_4 : decode cX5_countOpenOn 4 = .ok (.iload_n 3, 1) := by decide +kernel
theorem dX5_countOpenOn_5 : decode cX5_countOpenOn 5 = .ok (.aload_n 0, 1) := by decide +kernel
theorem dX5_countOpenOn_6 : decode cX5_countOpenOn 6 = .ok (.getfield 9, 3) := by decide +kernel
theorem dX5_countOpenOn_9 : decode cX5_countOpenOn 9 = .ok (.if_icmp .ge 28, 3) := by decide +kernel
theorem dX5_countOpenOn_12 : decode cX5_countOpenOn 12 = .ok (.iload_n 3, 1) := by decide +kernel
theorem dX5_countOpenOn_13 : decode cX5_countOpenOn 13 = .ok (.bipush 8, 2) := by decide +kernel
theorem dX5_countOpenOn_15 : decode cX5_countOpenOn 15 = .ok (.irem, 1) := by decide +kernel
theorem dX5_countOpenOn_16 : decode cX5_countOpenOn 16 = .ok (.iload_n 1, 1) := by decide +kernel
theorem dX5_countOpenOn_17 : decode cX5_countOpenOn 17 = .ok (.if_icmp .ne 14, 3) := by decide +kernel
theorem dX5_countOpenOn_20 : decode cX5_countOpenOn 20 = .ok (.aload_n 0, 1) := by decide +kernel
theorem dX5_countOpenOn_21 : decode cX5_countOpenOn 21 = .ok (.iload_n 3, 1) := by decide +kernel
theorem dX5_countOpenOn_22 : decode cX5_countOpenOn 22 = .ok (.invokevirtual 86, 3) := by decide +kernel
theorem dX5_countOpenOn_25 : decode cX5_countOpenOn 25 = .ok (.ifCond .eq 6, 3) := by decide +kernel
theorem dX5_countOpenOn_28 : decode cX5_countOpenOn 28 = .ok (.iinc 2 1, 3) := by decide +kernel
theorem dX5_countOpenOn_31 : decode cX5_countOpenOn 31 = .ok (.iinc 3 1, 3) := by decide +kernel
theorem dX5_countOpenOn_34 : decode cX5_countOpenOn 34 = .ok (.goto (-30), 3) := by decide +kernel
theorem dX5_countOpenOn_37 : decode cX5_countOpenOn 37 = .ok (.iload_n 2, 1) := by decide +kernel
theorem dX5_countOpenOn_38 : decode cX5_countOpenOn 38 = .ok (.ireturn, 1) := by decide +kernel
theorem dX5_fullestBell_0 : decode cX5_fullestBell 0 = .ok (.iconst 0, 1) := by decide +kernel
theorem dX5_fullestBell_1 : decode cX5_fullestBell 1 = .ok (.istore_n 1, 1) := by decide +kernel
theorem dX5_fullestBell_2 : decode cX5_fullestBell 2 = .ok (.iconst 1, 1) := by decide +kernel
theorem dX5_fullestBell_3 : decode cX5_fullestBell 3 = .ok (.istore_n 2, 1) := by decide +kernel
theorem dX5_fullestBell_4 : decode cX5_fullestBell 4 = .ok (.iload_n 2, 1) := by decide +kernel
theorem dX5_fullestBell_5 : decode cX5_fullestBell 5 = .ok (.bipush 7, 2) := by decide +kernel
theorem dX5_fullestBell_7 : decode cX5_fullestBell 7 = .ok (.if_icmp .gt 24, 3) := by decide +kernel
theorem dX5_fullestBell_10 : decode cX5_fullestBell 10 = .ok (.aload_n 0, 1) := by decide +kernel
theorem dX5_fullestBell_11 : decode cX5_fullestBell 11 = .ok (.iload_n 2, 1) := by decide +kernel
theorem dX5_fullestBell_12 : decode cX5_fullestBell 12 = .ok (.invokevirtual 152, 3) := by decide +kernel
theorem dX5_fullestBell_15 : decode cX5_fullestBell 15 = .ok (.aload_n 0, 1) := by decide +kernel
theorem dX5_fullestBell_16 : decode cX5_fullestBell 16 = .ok (.iload_n 1, 1) := by decide +kernel
theorem dX5_fullestBell_17 : decode cX5_fullestBell 17 = .ok (.invokevirtual 152, 3) := by decide +kernel
theorem dX5_fullestBell_20 : decode cX5_fullestBell 20 = .ok (.if_icmp .le 5, 3) := by decide +kernel
theorem dX5_fullestBell_23 : decode cX5_fullestBell 23 = .ok (.iload_n 2, 1) := by decide +kernel
theorem dX5_fullestBell_24 : decode cX5_fullestBell 24 = .ok (.istore_n 1, 1) := by decide +kernel
theorem dX5_fullestBell_25 : decode cX5_fullestBell 25 = .ok (.iinc 2 1, 3) := by decide +kernel
theorem dX5_fullestBell_28 : decode cX5_fullestBell 28 = .ok (.goto (-24), 3) := by decide +kernel
theorem dX5_fullestBell_31 : decode cX5_fullestBell 31 = .ok (.iload_n 1, 1) := by decide +kernel
theorem dX5_fullestBell_32 : decode cX5_fullestBell 32 = .ok (.ireturn, 1) := by decide +kernel
theorem dX5_oldestBeen_0 : decode cX5_oldestBeen 0 = .ok (.iconst (-1), 1) := by decide +kernel
theorem dX5_oldestBeen_1 : decode cX5_oldestBeen 1 = .ok (.istore_n 2, 1) := by decide +kernel
theorem dX5_oldestBeen_2 : decode cX5_oldestBeen 2 = .ok (.iconst 0, 1) := by decide +kernel
theorem dX5_oldestBeen_3 : decode cX5_oldestBeen 3 = .ok (.istore_n 3, 1) := by decide +kernel
theorem dX5_oldestBeen_4 : decode cX5_oldestBeen 4 = .ok (.iload_n 3, 1) := by decide +kernel
theorem dX5_oldestBeen_5 : decode cX5_oldestBeen 5 = .ok (.aload_n 0, 1) := by decide +kernel
theorem dX5_oldestBeen_6 : decode cX5_oldestBeen 6 = .ok (.getfield 9, 3) := by decide +kernel
theorem dX5_oldestBeen_9 : decode cX5_oldestBeen 9 = .ok (.if_icmp .ge 63, 3) := by decide +kernel
theorem dX5_oldestBeen_12 : decode cX5_oldestBeen 12 = .ok (.aload_n 0, 1) := by decide +kernel
theorem dX5_oldestBeen_13 : decode cX5_oldestBeen 13 = .ok (.getfield 28, 3) := by decide +kernel
theorem dX5_oldestBeen_16 : decode cX5_oldestBeen 16 = .ok (.iload_n 3, 1) := by decide +kernel
theorem dX5_oldestBeen_17 : decode cX5_oldestBeen 17 = .ok (.invokestatic 97, 3) := by decide +kernel
theorem dX5_oldestBeen_20 : decode cX5_oldestBeen 20 = .ok (.ifCond .eq 46, 3) := by decide +kernel
theorem dX5_oldestBeen_23 : decode cX5_oldestBeen 23 = .ok (.aload_n 0, 1) := by decide +kernel
theorem dX5_oldestBeen_24 : decode cX5_oldestBeen 24 = .ok (.getfield 22, 3) := by decide +kernel
theorem dX5_oldestBeen_27 : decode cX5_oldestBeen 27 = .ok (.iload_n 3, 1) := by decide +kernel
theorem dX5_oldestBeen_28 : decode cX5_oldestBeen 28 = .ok (.invokestatic 71, 3) := by decide +kernel
theorem dX5_oldestBeen_31 : decode cX5_oldestBeen 31 = .ok (.aload_n 0, 1) := by decide +kernel
theorem dX5_oldestBeen_32 : decode cX5_oldestBeen 32 = .ok (.getfield 22, 3) := by decide +kernel
theorem dX5_oldestBeen_35 : decode cX5_oldestBeen 35 = .ok (.iload_n 2, 1) := by decide +kernel
theorem dX5_oldestBeen_36 : decode cX5_oldestBeen 36 = .ok (.invokestatic 71, 3) := by decide +kernel
theorem dX5_oldestBeen_39 : decode cX5_oldestBeen 39 = .ok (.isub, 1) := by decide +kernel
theorem dX5_oldestBeen_40 : decode cX5_oldestBeen 40 = .ok (.istore 4, 2) := by decide +kernel
theorem dX5_oldestBeen_42 : decode cX5_oldestBeen 42 = .ok (.iload_n 2, 1) := by decide +kernel
theorem dX5_oldestBeen_43 : decode cX5_oldestBeen 43 = .ok (.iconst (-1), 1) := by decide +kernel
theorem dX5_oldestBeen_44 : decode cX5_oldestBeen 44 = .ok (.if_icmp .eq 20, 3) := by decide +kernel
theorem dX5_oldestBeen_47 : decode cX5_oldestBeen 47 = .ok (.iload_n 1, 1) := by decide +kernel
theorem dX5_oldestBeen_48 : decode cX5_oldestBeen 48 = .ok (.ifCond .eq 11, 3) := by decide +kernel
theorem dX5_oldestBeen_51 : decode cX5_oldestBeen 51 = .ok (.iload 4, 2) := by decide +kernel
theorem dX5_oldestBeen_53 : decode cX5_oldestBeen 53 = .ok (.ifCond .le 13, 3) := by decide +kernel
theorem dX5_oldestBeen_56 : decode cX5_oldestBeen 56 = .ok (.goto 8, 3) := by decide +kernel
theorem dX5_oldestBeen_59 : decode cX5_oldestBeen 59 = .ok (.iload 4, 2) := by decide +kernel
theorem dX5_oldestBeen_61 : decode cX5_oldestBeen 61 = .ok (.ifCond .ge 5, 3) := by decide +kernel
theorem dX5_oldestBeen_64 : decode cX5_oldestBeen 64 = .ok (.iload_n 3, 1) := by decide +kernel
theorem dX5_oldestBeen_65 : decode cX5_oldestBeen 65 = .ok (.istore_n 2, 1) := by decide +kernel
theorem dX5_oldestBeen_66 : decode cX5_oldestBeen 66 = .ok (.iinc 3 1, 3) := by decide +kernel
theorem dX5_oldestBeen_69 : decode cX5_oldestBeen 69 = .ok (.goto (-65), 3) := by decide +kernel
theorem dX5_oldestBeen_72 : decode cX5_oldestBeen 72 = .ok (.iload_n 2, 1) := by decide +kernel
theorem dX5_oldestBeen_73 : decode cX5_oldestBeen 73 = .ok (.ireturn, 1) := by decide +kernel
theorem dX6_init_0 : decode cX6_init 0 = .ok (.aload_n 0, 1) := by decide +kernel
theorem dX6_init_1 : decode cX6_init 1 = .ok (.invokespecial 1, 3) := by decide +kernel
theorem dX6_init_4 : decode cX6_init 4 = .ok (.aload_n 0, 1) := by decide +kernel
theorem dX6_init_5 : decode cX6_init 5 = .ok (.new 7, 3) := by decide +kernel
theorem dX6_init_8 : decode cX6_init 8 = .ok (.dup, 1) := by decide +kernel
theorem dX6_init_9 : decode cX6_init 9 = .ok (.invokespecial 9, 3) := by decide +kernel
theorem dX6_init_12 : decode cX6_init 12 = .ok (.putfield 10, 3) := by decide +kernel
theorem dX6_init_15 : decode cX6_init 15 = .ok (.aload_n 0, 1) := by decide +kernel
theorem dX6_init_16 : decode cX6_init 16 = .ok (.new 7, 3) := by decide +kernel
theorem dX6_init_19 : decode cX6_init 19 = .ok (.dup, 1) := by decide +kernel
theorem dX6_init_20 : decode cX6_init 20 = .ok (.invokespecial 9, 3) := by decide +kernel
theorem dX6_init_23 : decode cX6_init 23 = .ok (.putfield 16, 3) := by decide +kernel
theorem dX6_init_26 : decode cX6_init 26 = .ok (.aload_n 0, 1) := by decide +kernel
theorem dX6_init_27 : decode cX6_init 27 = .ok (.new 7, 3) := by decide +kernel
theorem dX6_init_30 : decode cX6_init 30 = .ok (.dup, 1) := by decide +kernel
theorem dX6_init_31 : decode cX6_init 31 = .ok (.invokespecial 9, 3) := by decide +kernel
theorem dX6_init_34 : decode cX6_init 34 = .ok (.putfield 19, 3) := by decide +kernel
theorem dX6_init_37 : decode cX6_init 37 = .ok (.aload_n 0, 1) := by decide +kernel
theorem dX6_init_38 : decode cX6_init 38 = .ok (.new 22, 3) := by decide +kernel
theorem dX6_init_41 : decode cX6_init 41 = .ok (.dup, 1) := by decide +kernel
theorem dX6_init_42 : decode cX6_init 42 = .ok (.invokespecial 24, 3) := by decide +kernel
theorem dX6_init_45 : decode cX6_init 45 = .ok (.putfield 25, 3) := by decide +kernel
theorem dX6_init_48 : decode cX6_init 48 = .ok (.aload_n 0, 1) := by decide +kernel
theorem dX6_init_49 : decode cX6_init 49 = .ok (.new 29, 3) := by decide +kernel
theorem dX6_init_52 : decode cX6_init 52 = .ok (.dup, 1) := by decide +kernel
theorem dX6_init_53 : decode cX6_init 53 = .ok (.invokespecial 31, 3) := by decide +kernel
theorem dX6_init_56 : decode cX6_init 56 = .ok (.putfield 32, 3) := by decide +kernel
theorem dX6_init_59 : decode cX6_init 59 = .ok (.aload_n 0, 1) := by decide +kernel
theorem dX6_init_60 : decode cX6_init 60 = .ok (.new 36, 3) := by decide +kernel
theorem dX6_init_63 : decode cX6_init 63 = .ok (.dup, 1) := by decide +kernel
theorem dX6_init_64 : decode cX6_init 64 = .ok (.invokespecial 38, 3) := by decide +kernel
theorem dX6_init_67 : decode cX6_init 67 = .ok (.putfield 39, 3) := by decide +kernel
theorem dX6_init_70 : decode cX6_init 70 = .ok (.aload_n 0, 1) := by decide +kernel
theorem dX6_init_71 : decode cX6_init 71 = .ok (.iconst 5, 1) := by decide +kernel
theorem dX6_init_72 : decode cX6_init 72 = .ok (.newarray .int, 2) := by decide +kernel
theorem dX6_init_74 : decode cX6_init 74 = .ok (.putfield 43, 3) := by decide +kernel
theorem dX6_init_77 : decode cX6_init 77 = .ok (.aload_n 0, 1) := by decide +kernel
theorem dX6_init_78 : decode cX6_init 78 = .ok (.iconst 0, 1) := by decide +kernel
theorem dX6_init_79 : decode cX6_init 79 = .ok (.putfield 47, 3) := by decide +kernel
theorem dX6_init_82 : decode cX6_init 82 = .ok (.return_, 1) := by decide +kernel
theorem dX6_row_0 : decode cX6_row 0 = .ok (.iload_n 1, 1) := by decide +kernel
theorem dX6_row_1 : decode cX6_row 1 = .ok (.invokestatic 51, 3) := by decide +kernel
theorem dX6_row_4 : decode cX6_row 4 = .ok (.ifCond .eq 20, 3) := by decide +kernel
theorem dX6_row_7 : decode cX6_row 7 = .ok (.iload_n 2, 1) := by decide +kernel
theorem dX6_row_8 : decode cX6_row 8 = .ok (.iconst 4, 1) := by decide +kernel
theorem dX6_row_9 : decode cX6_row 9 = .ok (.invokestatic 55, 3) := by decide +kernel
theorem dX6_row_12 : decode cX6_row 12 = .ok (.ifCond .eq 12, 3) := by decide +kernel
theorem dX6_row_15 : decode cX6_row 15 = .ok (.iload_n 3, 1) := by decide +kernel
theorem dX6_row_16 : decode cX6_row 16 = .ok (.bipush 40, 2) := by decide +kernel
theorem dX6_row_18 : decode cX6_row 18 = .ok (.invokestatic 55, 3) := by decide +kernel
theorem dX6_row_21 : decode cX6_row 21 = .ok (.ifCond .ne 10, 3) := by decide +kernel
theorem dX6_row_24 : decode cX6_row 24 = .ok (.aload_n 0, 1) := by decide +kernel
theorem dX6_row_25 : decode cX6_row 25 = .ok (.bipush (-2), 2) := by decide +kernel
theorem dX6_row_27 : decode cX6_row 27 = .ok (.invokevirtual 59, 3) := by decide +kernel
theorem dX6_row_30 : decode cX6_row 30 = .ok (.ireturn, 1) := by decide +kernel
theorem dX6_row_31 : decode cX6_row 31 = .ok (.aload_n 0, 1) := by decide +kernel
theorem dX6_row_32 : decode cX6_row 32 = .ok (.getfield 25, 3) := by decide +kernel
theorem dX6_row_35 : decode cX6_row 35 = .ok (.iload_n 1, 1) := by decide +kernel
theorem dX6_row_36 : decode cX6_row 36 = .ok (.iload_n 2, 1) := by decide +kernel
theorem dX6_row_37 : decode cX6_row 37 = .ok (.iload_n 3, 1) := by decide +kernel
theorem dX6_row_38 : decode cX6_row 38 = .ok (.invokevirtual 63, 3) := by decide +kernel
theorem dX6_row_41 : decode cX6_row 41 = .ok (.iconst 1, 1) := by decide +kernel
theorem dX6_row_42 : decode cX6_row 42 = .ok (.ireturn, 1) := by decide +kernel
theorem dX6_set_0 : decode cX6_set 0 = .ok (.aload_n 0, 1) := by decide +kernel
theorem dX6_set_1 : decode cX6_set 1 = .ok (.iload_n 1, 1) := by decide +kernel
theorem dX6_set_2 : decode cX6_set 2 = .ok (.invokevirtual 67, 3) := by decide +kernel
theorem dX6_set_5 : decode cX6_set 5 = .ok (.istore 5, 2) := by decide +kernel
theorem dX6_set_7 : decode cX6_set 7 = .ok (.iload 5, 2) := by decide +kernel
theorem dX6_set_9 : decode cX6_set 9 = .ok (.ifCond .eq 10, 3) := by decide +kernel
theorem dX6_set_12 : decode cX6_set 12 = .ok (.aload_n 0, 1) := by decide +kernel
theorem dX6_set_13 : decode cX6_set 13 = .ok (.iload 5, 2) := by decide +kernel
theorem dX6_set_15 : decode cX6_set 15 = .ok (.invokevirtual 59, 3) := by decide +kernel
theorem dX6_set_18 : decode cX6_set 18 = .ok (.ireturn, 1) := by decide +kernel
theorem dX6_set_19 : decode cX6_set 19 = .ok (.iload_n 2, 1) := by decide +kernel
theorem dX6_set_20 : decode cX6_set 20 = .ok (.ifCond .lt 15, 3) := by decide +kernel
theorem dX6_set_23 : decode cX6_set 23 = .ok (.iload_n 2, 1) := by decide +kernel
theorem dX6_set_24 : decode cX6_set 24 = .ok (.aload_n 0, 1) := by decide +kernel
theorem dX6_set_25 : decode cX6_set 25 = .ok (.getfield 25, 3) := by decide +kernel
theorem dX6_set_28 : decode cX6_set 28 = .ok (.iload_n 1, 1) := by decide +kernel
theorem dX6_set_29 : decode cX6_set 29 = .ok (.invokevirtual 70, 3) := by decide +kernel
theorem dX6_set_32 : decode cX6_set 32 = .ok (.if_icmp .lt 10, 3) := by decide +kernel
theorem dX6_set_35 : decode cX6_set 35 = .ok (.aload_n 0, 1) := by decide +kernel
theorem dX6_set_36 : decode cX6_set 36 = .ok (.bipush (-2), 2) := by decide +kernel
theorem dX6_set_38 : decode cX6_set 38 = .ok (.invokevirtual 59, 3) := by decide +kernel
theorem dX6_set_41 : decode cX6_set 41 = .ok (.ireturn, 1) := by decide +kernel
theorem dX6_set_42 : decode cX6_set 42 = .ok (.aload_n 0, 1) := by decide +kernel
theorem dX6_set_43 : decode cX6_set 43 = .ok (.getfield 25, 3) := by decide +kernel
theorem dX6_set_46 : decode cX6_set 46 = .ok (.iload_n 1, 1) := by decide +kernel
theorem dX6_set_47 : decode cX6_set 47 = .ok (.iload_n 2, 1) := by decide +kernel
theorem dX6_set_48 : decode cX6_set 48 = .ok (.lload_n 3, 1) := by decide +kernel
theorem dX6_set_49 : decode cX6_set 49 = .ok (.invokevirtual 73, 3) := by decide +kernel
theorem dX6_set_52 : decode cX6_set 52 = .ok (.iconst 1, 1) := by decide +kernel
theorem dX6_set_53 : decode cX6_set 53 = .ok (.ireturn, 1) := by decide +kernel
theorem dX6_copy_0 : decode cX6_copy 0 = .ok (.iload_n 1, 1) := by decide +kernel
theorem dX6_copy_1 : decode cX6_copy 1 = .ok (.invokestatic 51, 3) := by decide +kernel
theorem dX6_copy_4 : decode cX6_copy 4 = .ok (.ifCond .eq 10, 3) := by decide +kernel
theorem dX6_copy_7 : decode cX6_copy 7 = .ok (.iload_n 2, 1) := by decide +kernel
theorem dX6_copy_8 : decode cX6_copy 8 = .ok (.invokestatic 51, 3) := by decide +kernel
theorem dX6_copy_11 : decode cX6_copy 11 = .ok (.ifCond .ne 10, 3) := by decide +kernel
theorem dX6_copy_14 : decode cX6_copy 14 = .ok (.aload_n 0, 1) := by decide +kernel
theorem dX6_copy_15 : decode cX6_copy 15 = .ok (.bipush (-2), 2) := by decide +kernel
theorem dX6_copy_17 : decode cX6_copy 17 = .ok (.invokevirtual 59, 3) := by decide +kernel
theorem dX6_copy_20 : decode cX6_copy 20 = .ok (.ireturn, 1) := by decide +kernel
theorem dX6_copy_21 : decode cX6_copy 21 = .ok (.aload_n 0, 1) := by decide +kernel
theorem dX6_copy_22 : decode cX6_copy 22 = .ok (.getfield 25, 3) := by decide +kernel
theorem dX6_copy_25 : decode cX6_copy 25 = .ok (.iload_n 1, 1) := by decide +kernel
theorem dX6_copy_26 : decode cX6_copy 26 = .ok (.invokevirtual 77, 3) := by decide +kernel
theorem dX6_copy_29 : decode cX6_copy 29 = .ok (.ifCond .ne 14, 3) := by decide +kernel
theorem dX6_copy_32 : decode cX6_copy 32 = .ok (.aload_n 0, 1) := by decide +kernel
theorem dX6_copy_33 : decode cX6_copy 33 = .ok (.getfield 25, 3) := by decide +kernel
theorem dX6_copy_36 : decode cX6_copy 36 = .ok (.iload_n 2, 1) := by decide +kernel
theorem dX6_copy_37 : decode cX6_copy 37 = .ok (.invokevirtual 77, 3) := by decide +kernel
theorem dX6_copy_40 : decode cX6_copy 40 = .ok (.ifCond .eq 10, 3) := by decide +kernel
theorem dX6_copy_43 : decode cX6_copy 43 = .ok (.aload_n 0, 1) := by decide +kernel
theorem dX6_copy_44 : decode cX6_copy 44 = .ok (.bipush (-3), 2) := by decide +kernel
theorem dX6_copy_46 : decode cX6_copy 46 = .ok (.invokevirtual 59, 3) := by decide +kernel
theorem dX6_copy_49 : decode cX6_copy 49 = .ok (.ireturn, 1) := by decide +kernel
theorem dX6_copy_50 : decode cX6_copy 50 = .ok (.aload_n 0, 1) := by decide +kernel
theorem dX6_copy_51 : decode cX6_copy 51 = .ok (.getfield 25, 3) := by decide +kernel
theorem dX6_copy_54 : decode cX6_copy 54 = .ok (.iload_n 1, 1) := by decide +kernel
theorem dX6_copy_55 : decode cX6_copy 55 = .ok (.invokevirtual 80, 3) := by decide +kernel
theorem dX6_copy_58 : decode cX6_copy 58 = .ok (.ifCond .eq 18, 3) := by decide +kernel
theorem dX6_copy_61 : decode cX6_copy 61 = .ok (.aload_n 0, 1) := by decide +kernel
theorem dX6_copy_62 : decode cX6_copy 62 = .ok (.getfield 25, 3) := by decide +kernel
theorem dX6_copy_65 : decode cX6_copy 65 = .ok (.iload_n 2, 1) := by decide +kernel
theorem dX6_copy_66 : decode cX6_copy 66 = .ok (.invokevirtual 80, 3) := by decide +kernel
theorem dX6_copy_69 : decode cX6_copy 69 = .ok (.ifCond .eq 7, 3) := by decide +kernel
theorem dX6_copy_72 : decode cX6_copy 72 = .ok (.iconst 1, 1) := by decide +kernel
theorem dX6_copy_73 : decode cX6_copy 73 = .ok (.goto 4, 3) := by decide +kernel
theorem dX6_copy_76 : decode cX6_copy 76 = .ok (.iconst 0, 1) := by decide +kernel
theorem dX6_copy_77 : decode cX6_copy 77 = .ok (.istore 6, 2) := by decide +kernel
theorem dX6_copy_79 : decode cX6_copy 79 = .ok (.iload 6, 2) := by decide +kernel
theorem dX6_copy_81 : decode cX6_copy 81 = .ok (.ifCond .eq 29, 3) := by decide +kernel
theorem dX6_copy_84 : decode cX6_copy 84 = .ok (.aload_n 0, 1) := by decide +kernel
theorem dX6_copy_85 : decode cX6_copy 85 = .ok (.getfield 25, 3) := by decide +kernel
theorem dX6_copy_88 : decode cX6_copy 88 = .ok (.iload_n 1, 1) := by decide +kernel
theorem dX6_copy_89 : decode cX6_copy 89 = .ok (.invokevirtual 83, 3) := by decide +kernel
theorem dX6_copy_92 : decode cX6_copy 92 = .ok (.aload_n 0, 1) := by decide +kernel
theorem dX6_copy_93 : decode cX6_copy 93 = .ok (.getfield 25, 3) := by decide +kernel
theorem dX6_copy_96 : decode cX6_copy 96 = .ok (.iload_n 2, 1) := by decide +kernel
theorem dX6_copy_97 : decode cX6_copy 97 = .ok (.invokevirtual 83, 3) := by decide +kernel
theorem dX6_copy_100 : decode cX6_copy 100 = .ok (.if_icmp .eq 10, 3) := by decide +kernel
theorem dX6_copy_103 : decode cX6_copy 103 = .ok (.aload_n 0, 1) := by decide +kernel
theorem dX6_copy_104 : decode cX6_copy 104 = .ok (.bipush (-3), 2) := by decide +kernel
theorem dX6_copy_106 : decode cX6_copy 106 = .ok (.invokevirtual 59, 3) := by decide +kernel
theorem dX6_copy_109 : decode cX6_copy 109 = .ok (.ireturn, 1) := by decide +kernel
theorem dX6_copy_110 : decode cX6_copy 110 = .ok (.iload 6, 2) := by decide +kernel
theorem dX6_copy_112 : decode cX6_copy 112 = .ok (.ifCond .ne 10, 3) := by decide +kernel
theorem dX6_copy_115 : decode cX6_copy 115 = .ok (.aload_n 0, 1) := by decide +kernel
theorem dX6_copy_116 : decode cX6_copy 116 = .ok (.bipush (-4), 2) := by decide +kernel
theorem dX6_copy_118 : decode cX6_copy 118 = .ok (.invokevirtual 59, 3) := by decide +kernel
theorem dX6_copy_121 : decode cX6_copy 121 = .ok (.ireturn, 1) := by decide +kernel
theorem dX6_copy_122 : decode cX6_copy 122 = .ok (.aload_n 0, 1) := by decide +kernel
theorem dX6_copy_123 : decode cX6_copy 123 = .ok (.getfield 25, 3) := by decide +kernel
theorem dX6_copy_126 : decode cX6_copy 126 = .ok (.iload_n 1, 1) := by decide +kernel
theorem dX6_copy_127 : decode cX6_copy 127 = .ok (.iload_n 3, 1) := by decide +kernel
theorem dX6_copy_128 : decode cX6_copy 128 = .ok (.iload 5, 2) := by decide +kernel
theorem dX6_copy_130 : decode cX6_copy 130 = .ok (.invokevirtual 86, 3) := by decide +kernel
theorem dX6_copy_133 : decode cX6_copy 133 = .ok (.ifCond .eq 18, 3) := by decide +kernel
theorem dX6_copy_136 : decode cX6_copy 136 = .ok (.aload_n 0, 1) := by decide +kernel
theorem dX6_copy_137 : decode cX6_copy 137 = .ok (.getfield 25, 3) := by decide +kernel
theorem dX6_copy_140 : decode cX6_copy 140 = .ok (.iload_n 2, 1) := by decide +kernel
theorem dX6_copy_141 : decode cX6_copy 141 = .ok (.iload 4, 2) := by decide +kernel
theorem dX6_copy_143 : decode cX6_copy 143 = .ok (.iload 5, 2) := by decide +kernel
theorem dX6_copy_145 : decode cX6_copy 145 = .ok (.invokevirtual 86, 3) := by decide +kernel
theorem dX6_copy_148 : decode cX6_copy 148 = .ok (.ifCond .ne 10, 3) := by decide +kernel
theorem dX6_copy_151 : decode cX6_copy 151 = .ok (.aload_n 0, 1) := by decide +kernel
theorem dX6_copy_152 : decode cX6_copy 152 = .ok (.bipush (-2), 2) := by decide +kernel
theorem dX6_copy_154 : decode cX6_copy 154 = .ok (.invokevirtual 59, 3) := by decide +kernel
theorem dX6_copy_157 : decode cX6_copy 157 = .ok (.ireturn, 1) := by decide +kernel
theorem dX6_copy_158 : decode cX6_copy 158 = .ok (.aload_n 0, 1) := by decide +kernel
theorem dX6_copy_159 : decode cX6_copy 159 = .ok (.getfield 25, 3) := by decide +kernel
theorem dX6_copy_162 : decode cX6_copy 162 = .ok (.iload_n 1, 1) := by decide +kernel
theorem dX6_copy_163 : decode cX6_copy 163 = .ok (.iload_n 2, 1) := by decide +kernel
theorem dX6_copy_164 : decode cX6_copy 164 = .ok (.iload_n 3, 1) := by decide +kernel
theorem dX6_copy_165 : decode cX6_copy 165 = .ok (.iload 4, 2) := by decide +kernel
theorem dX6_copy_167 : decode cX6_copy 167 = .ok (.iload 5, 2) := by decide +kernel
theorem dX6_copy_169 : decode cX6_copy 169 = .ok (.invokevirtual 90, 3) := by decide +kernel
theorem dX6_copy_172 : decode cX6_copy 172 = .ok (.iload 5, 2) := by decide +kernel
theorem dX6_copy_174 : decode cX6_copy 174 = .ok (.ireturn, 1) := by decide +kernel
theorem dX6_element_0 : decode cX6_element 0 = .ok (.aload_n 0, 1) := by decide +kernel
theorem dX6_element_1 : decode cX6_element 1 = .ok (.getfield 25, 3) := by decide +kernel
theorem dX6_element_4 : decode cX6_element 4 = .ok (.iload_n 1, 1) := by decide +kernel
theorem dX6_element_5 : decode cX6_element 5 = .ok (.iload_n 2, 1) := by decide +kernel
theorem dX6_element_6 : decode cX6_element 6 = .ok (.invokevirtual 94, 3) := by decide +kernel
theorem dX6_element_9 : decode cX6_element 9 = .ok (.lreturn, 1) := by decide +kernel
theorem dX6_holds_0 : decode cX6_holds 0 = .ok (.aload_n 0, 1) := by decide +kernel
theorem dX6_holds_1 : decode cX6_holds 1 = .ok (.getfield 25, 3) := by decide +kernel
theorem dX6_holds_4 : decode cX6_holds 4 = .ok (.iload_n 1, 1) := by decide +kernel
theorem dX6_holds_5 : decode cX6_holds 5 = .ok (.invokevirtual 83, 3) := by decide +kernel
theorem dX6_holds_8 : decode cX6_holds 8 = .ok (.ireturn, 1) := by decide +kernel
theorem dX6_show_0 : decode cX6_show 0 = .ok (.iload_n 1, 1) := by decide +kernel
theorem dX6_show_1 : decode cX6_show 1 = .ok (.invokestatic 51, 3) := by decide +kernel
theorem dX6_show_4 : decode cX6_show 4 = .ok (.ifCond .eq 22, 3) := by decide +kernel
theorem dX6_show_7 : decode cX6_show 7 = .ok (.iload_n 2, 1) := by decide +kernel
theorem dX6_show_8 : decode cX6_show 8 = .ok (.iconst (-1), 1) := by decide +kernel
theorem dX6_show_9 : decode cX6_show 9 = .ok (.if_icmp .eq 24, 3) := by decide +kernel
theorem dX6_show_12 : decode cX6_show 12 = .ok (.aload_n 0, 1) := by decide +kernel
theorem dX6_show_13 : decode cX6_show 13 = .ok (.getfield 10, 3) := by decide +kernel
theorem dX6_show_16 : decode cX6_show 16 = .ok (.getfield 98, 3) := by decide +kernel
theorem dX6_show_19 : decode cX6_show 19 = .ok (.iload_n 2, 1) := by decide +kernel
theorem dX6_show_20 : decode cX6_show 20 = .ok (.invokevirtual 102, 3) := by decide +kernel
theorem dX6_show_23 : decode cX6_show 23 = .ok (.ifCond .ne 10, 3) := by decide +kernel
theorem dX6_show_26 : decode cX6_show 26 = .ok (.aload_n 0, 1) := by decide +kernel
theorem dX6_show_27 : decode cX6_show 27 = .ok (.bipush (-2), 2) := by decide +kernel
theorem dX6_show_29 : decode cX6_show 29 = .ok (.invokevirtual 59, 3) := by decide +kernel
theorem dX6_show_32 : decode cX6_show 32 = .ok (.ireturn, 1) := by decide +kernel
theorem dX6_show_33 : decode cX6_show 33 = .ok (.aload_n 0, 1) := by decide +kernel
theorem dX6_show_34 : decode cX6_show 34 = .ok (.getfield 25, 3) := by decide +kernel
theorem dX6_show_37 : decode cX6_show 37 = .ok (.iload_n 1, 1) := by decide +kernel
theorem dX6_show_38 : decode cX6_show 38 = .ok (.iload_n 2, 1) := by decide +kernel
theorem dX6_show_39 : decode cX6_show 39 = .ok (.invokevirtual 107, 3) := by decide +kernel
theorem dX6_show_42 : decode cX6_show 42 = .ok (.iconst 1, 1) := by decide +kernel
theorem dX6_show_43 : decode cX6_show 43 = .ok (.ireturn, 1) := by decide +kernel
theorem dX6_says_0 : decode cX6_says 0 = .ok (.iload_n 1, 1) := by decide +kernel
theorem dX6_says_1 : decode cX6_says 1 = .ok (.invokestatic 51, 3) := by decide +kernel
theorem dX6_says_4 : decode cX6_says 4 = .ok (.ifCond .eq 11, 3) := by decide +kernel
theorem dX6_says_7 : decode cX6_says 7 = .ok (.iload_n 2, 1) := by decide +kernel
theorem dX6_says_8 : decode cX6_says 8 = .ok (.iconst 5, 1) := by decide +kernel
theorem dX6_says_9 : decode cX6_says 9 = .ok (.invokestatic 55, 3) := by decide +kernel
theorem dX6_says_12 : decode cX6_says 12 = .ok (.ifCond .ne 10, 3) := by decide +kernel
theorem dX6_says_15 : decode cX6_says 15 = .ok (.aload_n 0, 1) := by decide +kernel
theorem dX6_says_16 : decode cX6_says 16 = .ok (.bipush (-2), 2) := by decide +kernel
theorem dX6_says_18 : decode cX6_says 18 = .ok (.invokevirtual 59, 3) := by decide +kernel
theorem dX6_says_21 : decode cX6_says 21 = .ok (.ireturn, 1) := by decide +kernel
theorem dX6_says_22 : decode cX6_says 22 = .ok (.aload_n 0, 1) := by decide +kernel
theorem dX6_says_23 : decode cX6_says 23 = .ok (.getfield 25, 3) := by decide +kernel
theorem dX6_says_26 : decode cX6_says 26 = .ok (.iload_n 1, 1) := by decide +kernel
theorem dX6_says_27 : decode cX6_says 27 = .ok (.invokevirtual 111, 3) := by decide +kernel
theorem dX6_says_30 : decode cX6_says 30 = .ok (.istore_n 3, 1) := by decide +kernel
theorem dX6_says_31 : decode cX6_says 31 = .ok (.iload_n 3, 1) := by decide +kernel
theorem dX6_says_32 : decode cX6_says 32 = .ok (.iconst (-1), 1) := by decide +kernel
theorem dX6_says_33 : decode cX6_says 33 = .ok (.if_icmp .eq 25, 3) := by decide +kernel
theorem dX6_says_36 : decode cX6_says 36 = .ok (.aload_n 0, 1) := by decide +kernel
theorem dX6_says_37 : decode cX6_says 37 = .ok (.getfield 10, 3) := by decide +kernel
theorem dX6_says_40 : decode cX6_says 40 = .ok (.getfield 98, 3) := by decide +kernel
theorem dX6_says_43 : decode cX6_says 43 = .ok (.iload_n 3, 1) := by decide +kernel
theorem dX6_says_44 : decode cX6_says 44 = .ok (.invokevirtual 114, 3) := by decide +kernel
theorem dX6_says_47 : decode cX6_says 47 = .ok (.iload_n 2, 1) := by decide +kernel
theorem dX6_says_48 : decode cX6_says 48 = .ok (.invokestatic 117, 3) := by decide +kernel
theorem dX6_says_51 : decode cX6_says 51 = .ok (.ifCond .eq 7, 3) := by decide +kernel
theorem dX6_says_54 : decode cX6_says 54 = .ok (.iconst 1, 1) := by decide +kernel
theorem dX6_says_55 : decode cX6_says 55 = .ok (.goto 4, 3) := by decide +kernel
theorem dX6_says_58 : decode cX6_says 58 = .ok (.iconst 0, 1) := by decide +kernel
theorem dX6_says_59 : decode cX6_says 59 = .ok (.istore 4, 2) := by decide +kernel
theorem dX6_says_61 : decode cX6_says 61 = .ok (.aload_n 0, 1) := by decide +kernel
theorem dX6_says_62 : decode cX6_says 62 = .ok (.getfield 25, 3) := by decide +kernel
theorem dX6_says_65 : decode cX6_says 65 = .ok (.iload_n 1, 1) := by decide +kernel
theorem dX6_says_66 : decode cX6_says 66 = .ok (.invokevirtual 80, 3) := by decide +kernel
theorem dX6_says_69 : decode cX6_says 69 = .ok (.ifCond .ne 13, 3) := by decide +kernel
theorem dX6_says_72 : decode cX6_says 72 = .ok (.iload_n 3, 1) := by decide +kernel
theorem dX6_says_73 : decode cX6_says 73 = .ok (.iconst (-1), 1) := by decide +kernel
theorem dX6_says_74 : decode cX6_says 74 = .ok (.if_icmp .eq 15, 3) := by decide +kernel
theorem dX6_says_77 : decode cX6_says 77 = .ok (.iload 4, 2) := by decide +kernel
theorem dX6_says_79 : decode cX6_says 79 = .ok (.ifCond .ne 10, 3) := by decide +kernel
theorem dX6_says_82 : decode cX6_says 82 = .ok (.aload_n 0, 1) := by decide +kernel
theorem dX6_says_83 : decode cX6_says 83 = .ok (.bipush (-3), 2) := by decide +kernel
theorem dX6_says_85 : decode cX6_says 85 = .ok (.invokevirtual 59, 3) := by decide +kernel
theorem dX6_says_88 : decode cX6_says 88 = .ok (.ireturn, 1) := by decide +kernel
theorem dX6_says_89 : decode cX6_says 89 = .ok (.iload_n 3, 1) := by decide +kernel
theorem dX6_says_90 : decode cX6_says 90 = .ok (.iconst (-1), 1) := by decide +kernel
theorem dX6_says_91 : decode cX6_says 91 = .ok (.if_icmp .ne 10, 3) := by decide +kernel
theorem dX6_says_94 : decode cX6_says 94 = .ok (.aload_n 0, 1) := by decide +kernel
theorem dX6_says_95 : decode cX6_says 95 = .ok (.bipush (-4), 2) := by decide +kernel
theorem dX6_says_97 : decode cX6_says 97 = .ok (.invokevirtual 59, 3) := by decide +kernel
theorem dX6_says_100 : decode cX6_says 100 = .ok (.ireturn, 1) := by decide +kernel
theorem dX6_says_101 : decode cX6_says 101 = .ok (.iload_n 2, 1) := by decide +kernel
theorem dX6_says_102 : decode cX6_says 102 = .ok (.ifCond .ne 17, 3) := by decide +kernel
theorem dX6_says_105 : decode cX6_says 105 = .ok (.aload_n 0, 1) := by decide +kernel
theorem dX6_says_106 : decode cX6_says 106 = .ok (.getfield 10, 3) := by decide +kernel
theorem dX6_says_109 : decode cX6_says 109 = .ok (.getfield 98, 3) := by decide +kernel
theorem dX6_says_112 : decode cX6_says 112 = .ok (.iload_n 3, 1) := by decide +kernel
theorem dX6_says_113 : decode cX6_says 113 = .ok (.invokevirtual 120, 3) := by decide +kernel
theorem dX6_says_116 : decode cX6_says 116 = .ok (.goto 21, 3) := by decide +kernel
theorem dX6_says_119 : decode cX6_says 119 = .ok (.aload_n 0, 1) := by decide +kernel
theorem dX6_says_120 : decode cX6_says 120 = .ok (.getfield 10, 3) := by decide +kernel
theorem dX6_says_123 : decode cX6_says 123 = .ok (.getfield 98, 3) := by decide +kernel
theorem dX6_says_126 : decode cX6_says 126 = .ok (.iload_n 3, 1) := by decide +kernel
theorem dX6_says_127 : decode cX6_says 127 = .ok (.aload_n 0, 1) := by decide +kernel
theorem dX6_says_128 : decode cX6_says 128 = .ok (.getfield 10, 3) := by decide +kernel
theorem dX6_says_131 : decode cX6_says 131 = .ok (.getfield 123, 3) := by decide +kernel
theorem dX6_says_134 : decode cX6_says 134 = .ok (.invokevirtual 127, 3) := by decide +kernel
theorem dX6_says_137 : decode cX6_says 137 = .ok (.ireturn, 1) := by decide +kernel
theorem dX6_thing_0 : decode cX6_thing 0 = .ok (.iload_n 1, 1) := by decide +kernel
theorem dX6_thing_1 : decode cX6_thing 1 = .ok (.iconst 0, 1) := by decide +kernel
theorem dX6_thing_2 : decode cX6_thing 2 = .ok (.invokestatic 131, 3) := by decide +kernel
theorem dX6_thing_5 : decode cX6_thing 5 = .ok (.invokestatic 55, 3) := by decide +kernel
theorem dX6_thing_8 : decode cX6_thing 8 = .ok (.ifCond .eq 11, 3) := by decide +kernel
theorem dX6_thing_11 : decode cX6_thing 11 = .ok (.iload_n 2, 1) := by decide +kernel
theorem dX6_thing_12 : decode cX6_thing 12 = .ok (.iconst 3, 1) := by decide +kernel
theorem dX6_thing_13 : decode cX6_thing 13 = .ok (.invokestatic 55, 3) := by decide +kernel
theorem dX6_thing_16 : decode cX6_thing 16 = .ok (.ifCond .ne 10, 3) := by decide +kernel
theorem dX6_thing_19 : decode cX6_thing 19 = .ok (.aload_n 0, 1) := by decide +kernel
theorem dX6_thing_20 : decode cX6_thing 20 = .ok (.bipush (-2), 2) := by decide +kernel
theorem dX6_thing_22 : decode cX6_thing 22 = .ok (.invokevirtual 59, 3) := by decide +kernel
theorem dX6_thing_25 : decode cX6_thing 25 = .ok (.ireturn, 1) := by decide +kernel
theorem dX6_thing_26 : decode cX6_thing 26 = .ok (.aload_n 0, 1) := by decide +kernel
theorem dX6_thing_27 : decode cX6_thing 27 = .ok (.getfield 10, 3) := by decide +kernel
theorem dX6_thing_30 : decode cX6_thing 30 = .ok (.invokevirtual 134, 3) := by decide +kernel
theorem dX6_thing_33 : decode cX6_thing 33 = .ok (.ifCond .ne 10, 3) := by decide +kernel
theorem dX6_thing_36 : decode cX6_thing 36 = .ok (.aload_n 0, 1) := by decide +kernel
theorem dX6_thing_37 : decode cX6_thing 37 = .ok (.bipush (-6), 2) := by decide +kernel
theorem dX6_thing_39 : decode cX6_thing 39 = .ok (.invokevirtual 59, 3) := by decide +kernel
theorem dX6_thing_42 : decode cX6_thing 42 = .ok (.ireturn, 1) := by decide +kernel
theorem dX6_thing_43 : decode cX6_thing 43 = .ok (.aload_n 0, 1) := by decide +kernel
theorem dX6_thing_44 : decode cX6_thing 44 = .ok (.getfield 10, 3) := by decide +kernel
theorem dX6_thing_47 : decode cX6_thing 47 = .ok (.iload_n 1, 1) := by decide +kernel
theorem dX6_thing_48 : decode cX6_thing 48 = .ok (.iload_n 2, 1) := by decide +kernel
theorem dX6_thing_49 : decode cX6_thing 49 = .ok (.invokevirtual 138, 3) := by decide +kernel
theorem dX6_thing_52 : decode cX6_thing 52 = .ok (.ireturn, 1) := by decide +kernel
theorem dX6_ringer_0 : decode cX6_ringer 0 = .ok (.iload_n 1, 1) := by decide +kernel
theorem dX6_ringer_1 : decode cX6_ringer 1 = .ok (.iconst 5, 1) := by decide +kernel
theorem dX6_ringer_2 : decode cX6_ringer 2 = .ok (.invokestatic 55, 3) := by decide +kernel
theorem dX6_ringer_5 : decode cX6_ringer 5 = .ok (.ifCond .eq 21, 3) := by decide +kernel
theorem dX6_ringer_8 : decode cX6_ringer 8 = .ok (.iload_n 2, 1) := by decide +kernel
theorem dX6_ringer_9 : decode cX6_ringer 9 = .ok (.bipush 9, 2) := by decide +kernel
theorem dX6_ringer_11 : decode cX6_ringer 11 = .ok (.invokestatic 55, 3) := by decide +kernel
theorem dX6_ringer_14 : decode cX6_ringer 14 = .ok (.ifCond .eq 12, 3) := by decide +kernel
theorem dX6_ringer_17 : decode cX6_ringer 17 = .ok (.iload_n 3, 1) := by decide +kernel
theorem dX6_ringer_18 : decode cX6_ringer 18 = .ok (.bipush 7, 2) := by decide +kernel
theorem dX6_ringer_20 : decode cX6_ringer 20 = .ok (.invokestatic 55, 3) := by decide +kernel
theorem dX6_ringer_23 : decode cX6_ringer 23 = .ok (.ifCond .ne 10, 3) := by decide +kernel
theorem dX6_ringer_26 : decode cX6_ringer 26 = .ok (.aload_n 0, 1) := by decide +kernel
theorem dX6_ringer_27 : decode cX6_ringer 27 = .ok (.bipush (-2), 2) := by decide +kernel
theorem dX6_ringer_29 : decode cX6_ringer 29 = .ok (.invokevirtual 59, 3) := by decide +kernel
theorem dX6_ringer_32 : decode cX6_ringer 32 = .ok (.ireturn, 1) := by decide +kernel
theorem dX6_ringer_33 : decode cX6_ringer 33 = .ok (.aload_n 0, 1) := by decide +kernel
theorem dX6_ringer_34 : decode cX6_ringer 34 = .ok (.getfield 10, 3) := by decide +kernel
theorem dX6_ringer_37 : decode cX6_ringer 37 = .ok (.getfield 98, 3) := by decide +kernel
theorem dX6_ringer_40 : decode cX6_ringer 40 = .ok (.invokevirtual 141, 3) := by decide +kernel
theorem dX6_ringer_43 : decode cX6_ringer 43 = .ok (.ifCond .ne 10, 3) := by decide +kernel
theorem dX6_ringer_46 : decode cX6_ringer 46 = .ok (.aload_n 0, 1) := by decide +kernel
theorem dX6_ringer_47 : decode cX6_ringer 47 = .ok (.bipush (-6), 2) := by decide +kernel
theorem dX6_ringer_49 : decode cX6_ringer 49 = .ok (.invokevirtual 59, 3) := by decide +kernel
theorem dX6_ringer_52 : decode cX6_ringer 52 = .ok (.ireturn, 1) := by decide +kernel
theorem dX6_ringer_53 : decode cX6_ringer 53 = .ok (.aload_n 0, 1) := by decide +kernel
theorem dX6_ringer_54 : decode cX6_ringer 54 = .ok (.getfield 10, 3) := by decide +kernel
theorem dX6_ringer_57 : decode cX6_ringer 57 = .ok (.getfield 98, 3) := by decide +kernel
theorem dX6_ringer_60 : decode cX6_ringer 60 = .ok (.iload_n 1, 1) := by decide +kernel
theorem dX6_ringer_61 : decode cX6_ringer 61 = .ok (.iload_n 2, 1) := by decide +kernel
theorem dX6_ringer_62 : decode cX6_ringer 62 = .ok (.iload_n 3, 1) := by decide +kernel
theorem dX6_ringer_63 : decode cX6_ringer 63 = .ok (.invokevirtual 142, 3) := by decide +kernel
theorem dX6_ringer_66 : decode cX6_ringer 66 = .ok (.ireturn, 1) := by decide +kernel
theorem dX6_hang_0 : decode cX6_hang 0 = .ok (.aload_n 0, 1) := by decide +kernel
theorem dX6_hang_1 : decode cX6_hang 1 = .ok (.getfield 10, 3) := by decide +kernel
theorem dX6_hang_4 : decode cX6_hang 4 = .ok (.iload_n 1, 1) := by decide +kernel
theorem dX6_hang_5 : decode cX6_hang 5 = .ok (.invokevirtual 146, 3) := by decide +kernel
theorem dX6_hang_8 : decode cX6_hang 8 = .ok (.ifCond .eq 20, 3) := by decide +kernel
theorem dX6_hang_11 : decode cX6_hang 11 = .ok (.iload_n 2, 1) := by decide +kernel
theorem dX6_hang_12 : decode cX6_hang 12 = .ok (.ifCond .lt 16, 3) := by decide +kernel
theorem dX6_hang_15 : decode cX6_hang 15 = .ok (.iload_n 2, 1) := by decide +kernel
theorem dX6_hang_16 : decode cX6_hang 16 = .ok (.iload_n 1, 1) := by decide +kernel
theorem dX6_hang_17 : decode cX6_hang 17 = .ok (.if_icmp .ge 11, 3) := by decide +kernel
theorem dX6_hang_20 : decode cX6_hang 20 = .ok (.iload_n 3, 1) := by decide +kernel
theorem dX6_hang_21 : decode cX6_hang 21 = .ok (.iconst 1, 1) := by decide +kernel
theorem dX6_hang_22 : decode cX6_hang 22 = .ok (.invokestatic 55, 3) := by decide +kernel
theorem dX6_hang_25 : decode cX6_hang 25 = .ok (.ifCond .ne 10, 3) := by decide +kernel
theorem dX6_hang_28 : decode cX6_hang 28 = .ok (.aload_n 0, 1) := by decide +kernel
theorem dX6_hang_29 : decode cX6_hang 29 = .ok (.bipush (-2), 2) := by decide +kernel
theorem dX6_hang_31 : decode cX6_hang 31 = .ok (.invokevirtual 59, 3) := by decide +kernel
theorem dX6_hang_34 : decode cX6_hang 34 = .ok (.ireturn, 1) := by decide +kernel
theorem dX6_hang_35 : decode cX6_hang 35 = .ok (.aload_n 0, 1) := by decide +kernel
theorem dX6_hang_36 : decode cX6_hang 36 = .ok (.getfield 10, 3) := by decide +kernel
theorem dX6_hang_39 : decode cX6_hang 39 = .ok (.iload_n 1, 1) := by decide +kernel
theorem dX6_hang_40 : decode cX6_hang 40 = .ok (.invokevirtual 149, 3) := by decide +kernel
theorem dX6_hang_43 : decode cX6_hang 43 = .ok (.iload_n 2, 1) := by decide +kernel
theorem dX6_hang_44 : decode cX6_hang 44 = .ok (.invokestatic 152, 3) := by decide +kernel
theorem dX6_hang_47 : decode cX6_hang 47 = .ok (.istore 4, 2) := by decide +kernel
theorem dX6_hang_49 : decode cX6_hang 49 = .ok (.aload_n 0, 1) := by decide +kernel
theorem dX6_hang_50 : decode cX6_hang 50 = .ok (.getfield 10, 3) := by decide +kernel
theorem dX6_hang_53 : decode cX6_hang 53 = .ok (.iload_n 1, 1) := by decide +kernel
theorem dX6_hang_54 : decode cX6_hang 54 = .ok (.iload_n 2, 1) := by decide +kernel
theorem dX6_hang_55 : decode cX6_hang 55 = .ok (.iload_n 3, 1) := by decide +kernel
theorem dX6_hang_56 : decode cX6_hang 56 = .ok (.iconst 1, 1) := by decide +kernel
theorem dX6_hang_57 : decode cX6_hang 57 = .ok (.if_icmp .ne 7, 3) := by decide +kernel
theorem dX6_hang_60 : decode cX6_hang 60 = .ok (.iconst 1, 1) := by decide +kernel
theorem dX6_hang_61 : decode cX6_hang 61 = .ok (.goto 4, 3) := by decide +kernel
theorem dX6_hang_64 : decode cX6_hang 64 = .ok (.iconst 0, 1) := by decide +kernel
theorem dX6_hang_65 : decode cX6_hang 65 = .ok (.invokevirtual 155, 3) := by decide +kernel
theorem dX6_hang_68 : decode cX6_hang 68 = .ok (.iload 4, 2) := by decide +kernel
theorem dX6_hang_70 : decode cX6_hang 70 = .ok (.ireturn, 1) := by decide +kernel
theorem dX6_give_0 : decode cX6_give 0 = .ok (.aload_n 0, 1) := by decide +kernel
theorem dX6_give_1 : decode cX6_give 1 = .ok (.getfield 10, 3) := by decide +kernel
theorem dX6_give_4 : decode cX6_give 4 = .ok (.iload_n 1, 1) := by decide +kernel
theorem dX6_give_5 : decode cX6_give 5 = .ok (.invokevirtual 146, 3) := by decide +kernel
theorem dX6_give_8 : decode cX6_give 8 = .ok (.ifCond .eq 22, 3) := by decide +kernel
theorem dX6_give_11 : decode cX6_give 11 = .ok (.iload_n 2, 1) := by decide +kernel
theorem dX6_give_12 : decode cX6_give 12 = .ok (.iconst 3, 1) := by decide +kernel
theorem dX6_give_13 : decode cX6_give 13 = .ok (.invokestatic 55, 3) := by decide +kernel
theorem dX6_give_16 : decode cX6_give 16 = .ok (.ifCond .eq 14, 3) := by decide +kernel
theorem dX6_give_19 : decode cX6_give 19 = .ok (.iload_n 3, 1) := by decide +kernel
theorem dX6_give_20 : decode cX6_give 20 = .ok (.iload_n 2, 1) := by decide +kernel
theorem dX6_give_21 : decode cX6_give 21 = .ok (.invokestatic 131, 3) := by decide +kernel
theorem dX6_give_24 : decode cX6_give 24 = .ok (.invokestatic 55, 3) := by decide +kernel
theorem dX6_give_27 : decode cX6_give 27 = .ok (.ifCond .ne 10, 3) := by decide +kernel
theorem dX6_give_30 : decode cX6_give 30 = .ok (.aload_n 0, 1) := by decide +kernel
theorem dX6_give_31 : decode cX6_give 31 = .ok (.bipush (-2), 2) := by decide +kernel
theorem dX6_give_33 : decode cX6_give 33 = .ok (.invokevirtual 59, 3) := by decide +kernel
theorem dX6_give_36 : decode cX6_give 36 = .ok (.ireturn, 1) := by decide +kernel
theorem dX6_give_37 : decode cX6_give 37 = .ok (.aload_n 0, 1) := by decide +kernel
theorem dX6_give_38 : decode cX6_give 38 = .ok (.getfield 10, 3) := by decide +kernel
theorem dX6_give_41 : decode cX6_give 41 = .ok (.iload_n 1, 1) := by decide +kernel
theorem dX6_give_42 : decode cX6_give 42 = .ok (.iload_n 2, 1) := by decide +kernel
theorem dX6_give_43 : decode cX6_give 43 = .ok (.invokevirtual 159, 3) := by decide +kernel
theorem dX6_give_46 : decode cX6_give 46 = .ok (.istore 4, 2) := by decide +kernel
theorem dX6_give_48 : decode cX6_give 48 = .ok (.aload_n 0, 1) := by decide +kernel
theorem dX6_give_49 : decode cX6_give 49 = .ok (.getfield 10, 3) := by decide +kernel
theorem dX6_give_52 : decode cX6_give 52 = .ok (.iload_n 1, 1) := by decide +kernel
theorem dX6_give_53 : decode cX6_give 53 = .ok (.iload_n 2, 1) := by decide +kernel
theorem dX6_give_54 : decode cX6_give 54 = .ok (.iload_n 3, 1) := by decide +kernel
theorem dX6_give_55 : decode cX6_give 55 = .ok (.invokevirtual 162, 3) := by decide +kernel
theorem dX6_give_58 : decode cX6_give 58 = .ok (.iload 4, 2) := by decide +kernel
theorem dX6_give_60 : decode cX6_give 60 = .ok (.ireturn, 1) := by decide +kernel
theorem dX6_tell_0 : decode cX6_tell 0 = .ok (.iload_n 1, 1) := by decide +kernel
theorem dX6_tell_1 : decode cX6_tell 1 = .ok (.iconst 2, 1) := by decide +kernel
theorem dX6_tell_2 : decode cX6_tell 2 = .ok (.invokestatic 55, 3) := by decide +kernel
theorem dX6_tell_5 : decode cX6_tell 5 = .ok (.ifCond .eq 14, 3) := by decide +kernel
theorem dX6_tell_8 : decode cX6_tell 8 = .ok (.iload_n 2, 1) := by decide +kernel
theorem dX6_tell_9 : decode cX6_tell 9 = .ok (.iload_n 1, 1) := by decide +kernel
theorem dX6_tell_10 : decode cX6_tell 10 = .ok (.invokestatic 165, 3) := by decide +kernel
theorem dX6_tell_13 : decode cX6_tell 13 = .ok (.invokestatic 55, 3) := by decide +kernel
theorem dX6_tell_16 : decode cX6_tell 16 = .ok (.ifCond .ne 10, 3) := by decide +kernel
theorem dX6_tell_19 : decode cX6_tell 19 = .ok (.aload_n 0, 1) := by decide +kernel
theorem dX6_tell_20 : decode cX6_tell 20 = .ok (.bipush (-2), 2) := by decide +kernel
theorem dX6_tell_22 : decode cX6_tell 22 = .ok (.invokevirtual 59, 3) := by decide +kernel
theorem dX6_tell_25 : decode cX6_tell 25 = .ok (.ireturn, 1) := by decide +kernel
theorem dX6_tell_26 : decode cX6_tell 26 = .ok (.aload_n 0, 1) := by decide +kernel
theorem dX6_tell_27 : decode cX6_tell 27 = .ok (.getfield 10, 3) := by decide +kernel
theorem dX6_tell_30 : decode cX6_tell 30 = .ok (.iload_n 1, 1) := by decide +kernel
theorem dX6_tell_31 : decode cX6_tell 31 = .ok (.invokevirtual 168, 3) := by decide +kernel
theorem dX6_tell_34 : decode cX6_tell 34 = .ok (.istore_n 3, 1) := by decide +kernel
theorem dX6_tell_35 : decode cX6_tell 35 = .ok (.aload_n 0, 1) := by decide +kernel
theorem dX6_tell_36 : decode cX6_tell 36 = .ok (.getfield 10, 3) := by decide +kernel
theorem dX6_tell_39 : decode cX6_tell 39 = .ok (.iload_n 1, 1) := by decide +kernel
theorem dX6_tell_40 : decode cX6_tell 40 = .ok (.iload_n 2, 1) := by decide +kernel
theorem dX6_tell_41 : decode cX6_tell 41 = .ok (.invokevirtual 171, 3) := by decide +kernel
theorem dX6_tell_44 : decode cX6_tell 44 = .ok (.iload_n 3, 1) := by decide +kernel
theorem dX6_tell_45 : decode cX6_tell 45 = .ok (.ireturn, 1) := by decide +kernel
theorem dX6_feed_0 : decode cX6_feed 0 = .ok (.iload_n 1, 1) := by decide +kernel
theorem dX6_feed_1 : decode cX6_feed 1 = .ok (.sipush 255, 3) := by decide +kernel
theorem dX6_feed_4 : decode cX6_feed 4 = .ok (.invokestatic 55, 3) := by decide +kernel
theorem dX6_feed_7 : decode cX6_feed 7 = .ok (.ifCond .ne 10, 3) := by decide +kernel
theorem dX6_feed_10 : decode cX6_feed 10 = .ok (.aload_n 0, 1) := by decide +kernel
theorem dX6_feed_11 : decode cX6_feed 11 = .ok (.bipush (-2), 2) := by decide +kernel
theorem dX6_feed_13 : decode cX6_feed 13 = .ok (.invokevirtual 59, 3) := by decide +kernel
theorem dX6_feed_16 : decode cX6_feed 16 = .ok (.ireturn, 1) := by decide +kernel
theorem dX6_feed_17 : decode cX6_feed 17 = .ok (.aload_n 0, 1) := by decide +kernel
theorem dX6_feed_18 : decode cX6_feed 18 = .ok (.getfield 32, 3) := by decide +kernel
theorem dX6_feed_21 : decode cX6_feed 21 = .ok (.invokevirtual 174, 3) := by decide +kernel
theorem dX6_feed_24 : decode cX6_feed 24 = .ok (.ifCond .ne 10, 3) := by decide +kernel
theorem dX6_feed_27 : decode cX6_feed 27 = .ok (.aload_n 0, 1) := by decide +kernel
theorem dX6_feed_28 : decode cX6_feed 28 = .ok (.bipush (-6), 2) := by decide +kernel
theorem dX6_feed_30 : decode cX6_feed 30 = .ok (.invokevirtual 59, 3) := by decide +kernel
theorem dX6_feed_33 : decode cX6_feed 33 = .ok (.ireturn, 1) := by decide +kernel
theorem dX6_feed_34 : decode cX6_feed 34 = .ok (.aload_n 0, 1) := by decide +kernel
theorem dX6_feed_35 : decode cX6_feed 35 = .ok (.getfield 32, 3) := by decide +kernel
theorem dX6_feed_38 : decode cX6_feed 38 = .ok (.iload_n 1, 1) := by decide +kernel
theorem dX6_feed_39 : decode cX6_feed 39 = .ok (.invokevirtual 175, 3) := by decide +kernel
theorem dX6_feed_42 : decode cX6_feed 42 = .ok (.ireturn, 1) := by decide +kernel
theorem dX6_wipe_0 : decode cX6_wipe 0 = .ok (.aload_n 0, 1) := by decide +kernel
theorem dX6_wipe_1 : decode cX6_wipe 1 = .ok (.getfield 32, 3) := by decide +kernel
theorem dX6_wipe_4 : decode cX6_wipe 4 = .ok (.invokevirtual 178, 3) := by decide +kernel
theorem dX6_wipe_7 : decode cX6_wipe 7 = .ok (.ireturn, 1) := by decide +kernel
theorem dX6_tower_0 : decode cX6_tower 0 = .ok (.aload_n 0, 1) := by decide +kernel
theorem dX6_tower_1 : decode cX6_tower 1 = .ok (.getfield 19, 3) := by decide +kernel
theorem dX6_tower_4 : decode cX6_tower 4 = .ok (.aload_n 0, 1) := by decide +kernel
theorem dX6_tower_5 : decode cX6_tower 5 = .ok (.getfield 10, 3) := by decide +kernel
theorem dX6_tower_8 : decode cX6_tower 8 = .ok (.invokevirtual 182, 3) := by decide +kernel
theorem dX6_tower_11 : decode cX6_tower 11 = .ok (.aload_n 0, 1) := by decide +kernel
theorem dX6_tower_12 : decode cX6_tower 12 = .ok (.getfield 39, 3) := by decide +kernel
theorem dX6_tower_15 : decode cX6_tower 15 = .ok (.aload_n 0, 1) := by decide +kernel
theorem dX6_tower_16 : decode cX6_tower 16 = .ok (.getfield 32, 3) := by decide +kernel
theorem dX6_tower_19 : decode cX6_tower 19 = .ok (.aload_n 0, 1) := by decide +kernel
theorem dX6_tower_20 : decode cX6_tower 20 = .ok (.getfield 19, 3) := by decide +kernel
theorem dX6_tower_23 : decode cX6_tower 23 = .ok (.invokevirtual 186, 3) := by decide +kernel
theorem dX6_tower_26 : decode cX6_tower 26 = .ok (.istore_n 1, 1) := by decide +kernel
theorem dX6_tower_27 : decode cX6_tower 27 = .ok (.aload_n 0, 1) := by decide +kernel
theorem dX6_tower_28 : decode cX6_tower 28 = .ok (.getfield 32, 3) := by decide +kernel
theorem dX6_tower_31 : decode cX6_tower 31 = .ok (.invokevirtual 178, 3) := by decide +kernel
theorem dX6_tower_34 : decode cX6_tower 34 = .ok (.pop, 1) := by decide +kernel
theorem dX6_tower_35 : decode cX6_tower 35 = .ok (.aload_n 0, 1) := by decide +kernel
theorem dX6_tower_36 : decode cX6_tower 36 = .ok (.getfield 39, 3) := by decide +kernel
theorem dX6_tower_39 : decode cX6_tower 39 = .ok (.getfield 190, 3) := by decide +kernel
theorem dX6_tower_42 : decode cX6_tower 42 = .ok (.iconst (-1), 1) := by decide +kernel
theorem dX6_tower_43 : decode cX6_tower 43 = .ok (.if_icmp .eq 21, 3) := by decide +kernel
theorem dX6_tower_46 : decode cX6_tower 46 = .ok (.aload_n 0, 1) := by decide +kernel
theorem dX6_tower_47 : decode cX6_tower 47 = .ok (.bipush (-2), 2) := by decide +kernel
theorem dX6_tower_49 : decode cX6_tower 49 = .ok (.invokevirtual 59, 3) := by decide +kernel
theorem dX6_tower_52 : decode cX6_tower 52 = .ok (.pop, 1) := by decide +kernel
theorem dX6_tower_53 : decode cX6_tower 53 = .ok (.bipush (-20), 2) := by decide +kernel
theorem dX6_tower_55 : decode cX6_tower 55 = .ok (.aload_n 0, 1) := by decide +kernel
theorem dX6_tower_56 : decode cX6_tower 56 = .ok (.getfield 39, 3) := by decide +kernel
theorem dX6_tower_59 : decode cX6_tower 59 = .ok (.getfield 190, 3) := by decide +kernel
theorem dX6_tower_62 : decode cX6_tower 62 = .ok (.isub, 1) := by decide +kernel
theorem dX6_tower_63 : decode cX6_tower 63 = .ok (.ireturn, 1) := by decide +kernel
theorem dX6_tower_64 : decode cX6_tower 64 = .ok (.aload_n 0, 1) := by decide +kernel
theorem dX6_tower_65 : decode cX6_tower 65 = .ok (.getfield 10, 3) := by decide +kernel
theorem dX6_tower_68 : decode cX6_tower 68 = .ok (.aload_n 0, 1) := by decide +kernel
theorem dX6_tower_69 : decode cX6_tower 69 = .ok (.getfield 19, 3) := by decide +kernel
theorem dX6_tower_72 : decode cX6_tower 72 = .ok (.invokevirtual 182, 3) := by decide +kernel
theorem dX6_tower_75 : decode cX6_tower 75 = .ok (.iload_n 1, 1) := by decide +kernel
theorem dX6_tower_76 : decode cX6_tower 76 = .ok (.ireturn, 1) := by decide +kernel
theorem dX6_thingOf_0 : decode cX6_thingOf 0 = .ok (.aload_n 0, 1) := by decide +kernel
theorem dX6_thingOf_1 : decode cX6_thingOf 1 = .ok (.getfield 10, 3) := by decide +kernel
theorem dX6_thingOf_4 : decode cX6_thingOf 4 = .ok (.iload_n 1, 1) := by decide +kernel
theorem dX6_thingOf_5 : decode cX6_thingOf 5 = .ok (.invokevirtual 146, 3) := by decide +kernel
theorem dX6_thingOf_8 : decode cX6_thingOf 8 = .ok (.ifCond .eq 12, 3) := by decide +kernel
theorem dX6_thingOf_11 : decode cX6_thingOf 11 = .ok (.iload_n 2, 1) := by decide +kernel
theorem dX6_thingOf_12 : decode cX6_thingOf 12 = .ok (.bipush 7, 2) := by decide +kernel
theorem dX6_thingOf_14 : decode cX6_thingOf 14 = .ok (.invokestatic 55, 3) := by decide +kernel
theorem dX6_thingOf_17 : decode cX6_thingOf 17 = .ok (.ifCond .ne 10, 3) := by decide +kernel
theorem dX6_thingOf_20 : decode cX6_thingOf 20 = .ok (.aload_n 0, 1) := by decide +kernel
theorem dX6_thingOf_21 : decode cX6_thingOf 21 = .ok (.bipush (-2), 2) := by decide +kernel
theorem dX6_thingOf_23 : decode cX6_thingOf 23 = .ok (.invokevirtual 59, 3) := by decide +kernel
theorem dX6_thingOf_26 : decode cX6_thingOf 26 = .ok (.ireturn, 1) := by decide +kernel
theorem dX6_thingOf_27 : decode cX6_thingOf 27 = .ok (.aload_n 0, 1) := by decide +kernel
theorem dX6_thingOf_28 : decode cX6_thingOf 28 = .ok (.getfield 10, 3) := by decide +kernel
theorem dX6_thingOf_31 : decode cX6_thingOf 31 = .ok (.iload_n 1, 1) := by decide +kernel
theorem dX6_thingOf_32 : decode cX6_thingOf 32 = .ok (.iload_n 2, 1) := by decide +kernel
theorem dX6_thingOf_33 : decode cX6_thingOf 33 = .ok (.invokevirtual 159, 3) := by decide +kernel
theorem dX6_thingOf_36 : decode cX6_thingOf 36 = .ok (.ireturn, 1) := by decide +kernel
theorem dX6_ringerOf_0 : decode cX6_ringerOf 0 = .ok (.aload_n 0, 1) := by decide +kernel
theorem dX6_ringerOf_1 : decode cX6_ringerOf 1 = .ok (.getfield 10, 3) := by decide +kernel
theorem dX6_ringerOf_4 : decode cX6_ringerOf 4 = .ok (.getfield 98, 3) := by decide +kernel
theorem dX6_ringerOf_7 : decode cX6_ringerOf 7 = .ok (.iload_n 1, 1) := by decide +kernel
theorem dX6_ringerOf_8 : decode cX6_ringerOf 8 = .ok (.invokevirtual 102, 3) := by decide +kernel
theorem dX6_ringerOf_11 : decode cX6_ringerOf 11 = .ok (.ifCond .eq 11, 3) := by decide +kernel
theorem dX6_ringerOf_14 : decode cX6_ringerOf 14 = .ok (.iload_n 2, 1) := by decide +kernel
theorem dX6_ringerOf_15 : decode cX6_ringerOf 15 = .ok (.iconst 3, 1) := by decide +kernel
theorem dX6_ringerOf_16 : decode cX6_ringerOf 16 = .ok (.invokestatic 55, 3) := by decide +kernel
theorem dX6_ringerOf_19 : decode cX6_ringerOf 19 = .ok (.ifCond .ne 10, 3) := by decide +kernel
theorem dX6_ringerOf_22 : decode cX6_ringerOf 22 = .ok (.aload_n 0, 1) := by decide +kernel
theorem dX6_ringerOf_23 : decode cX6_ringerOf 23 = .ok (.bipush (-2), 2) := by decide +kernel
theorem dX6_ringerOf_25 : decode cX6_ringerOf 25 = .ok (.invokevirtual 59, 3) := by decide +kernel
theorem dX6_ringerOf_28 : decode cX6_ringerOf 28 = .ok (.ireturn, 1) := by decide +kernel
theorem dX6_ringerOf_29 : decode cX6_ringerOf 29 = .ok (.iload_n 2, 1) := by decide +kernel
theorem dX6_ringerOf_30 : decode cX6_ringerOf 30 = .ok (.tableswitch 62 0 2 #[26, 38, 50], 26) := by decide +kernel
theorem dX6_ringerOf_56 : decode cX6_ringerOf 56 = .ok (.aload_n 0, 1) := by decide +kernel
theorem dX6_ringerOf_57 : decode cX6_ringerOf 57 = .ok (.getfield 10, 3) := by decide +kernel
theorem dX6_ringerOf_60 : decode cX6_ringerOf 60 = .ok (.getfield 98, 3) := by decide +kernel
theorem dX6_ringerOf_63 : decode cX6_ringerOf 63 = .ok (.iload_n 1, 1) := by decide +kernel
theorem dX6_ringerOf_64 : decode cX6_ringerOf 64 = .ok (.invokevirtual 114, 3) := by decide +kernel
theorem dX6_ringerOf_67 : decode cX6_ringerOf 67 = .ok (.ireturn, 1) := by decide +kernel
theorem dX6_ringerOf_68 : decode cX6_ringerOf 68 = .ok (.aload_n 0, 1) := by decide +kernel
theorem dX6_ringerOf_69 : decode cX6_ringerOf 69 = .ok (.getfield 10, 3) := by decide +kernel
theorem dX6_ringerOf_72 : decode cX6_ringerOf 72 = .ok (.getfield 98, 3) := by decide +kernel
theorem dX6_ringerOf_75 : decode cX6_ringerOf 75 = .ok (.iload_n 1, 1) := by decide +kernel
theorem dX6_ringerOf_76 : decode cX6_ringerOf 76 = .ok (.invokevirtual 193, 3) := by decide +kernel
theorem dX6_ringerOf_79 : decode cX6_ringerOf 79 = .ok (.ireturn, 1) := by decide +kernel
theorem dX6_ringerOf_80 : decode cX6_ringerOf 80 = .ok (.aload_n 0, 1) := by decide +kernel
theorem dX6_ringerOf_81 : decode cX6_ringerOf 81 = .ok (.getfield 10, 3) := by decide +kernel
theorem dX6_ringerOf_84 : decode cX6_ringerOf 84 = .ok (.getfield 98, 3) := by decide +kernel
theorem dX6_ringerOf_87 : decode cX6_ringerOf 87 = .ok (.iload_n 1, 1) := by decide +kernel
theorem dX6_ringerOf_88 : decode cX6_ringerOf 88 = .ok (.invokevirtual 120, 3) := by decide +kernel
theorem dX6_ringerOf_91 : decode cX6_ringerOf 91 = .ok (.ireturn, 1) := by decide +kernel
theorem dX6_ringerOf_92 : decode cX6_ringerOf 92 = .ok (.aload_n 0, 1) := by decide +kernel
theorem dX6_ringerOf_93 : decode cX6_ringerOf 93 = .ok (.getfield 10, 3) := by decide +kernel
theorem dX6_ringerOf_96 : decode cX6_ringerOf 96 = .ok (.getfield 98, 3) := by decide +kernel
theorem dX6_ringerOf_99 : decode cX6_ringerOf 99 = .ok (.iload_n 1, 1) := by decide +kernel
theorem dX6_ringerOf_100 : decode cX6_ringerOf 100 = .ok (.aload_n 0, 1) := by decide +kernel
theorem dX6_ringerOf_101 : decode cX6_ringerOf 101 = .ok (.getfield 10, 3) := by decide +kernel
theorem dX6_ringerOf_104 : decode cX6_ringerOf 104 = .ok (.getfield 123, 3) := by decide +kernel
theorem dX6_ringerOf_107 : decode cX6_ringerOf 107 = .ok (.invokevirtual 127, 3) := by decide +kernel
theorem dX6_ringerOf_110 : decode cX6_ringerOf 110 = .ok (.ireturn, 1) := by decide +kernel
theorem dX6_well_0 : decode cX6_well 0 = .ok (.aload_n 0, 1) := by decide +kernel
theorem dX6_well_1 : decode cX6_well 1 = .ok (.getfield 10, 3) := by decide +kernel
theorem dX6_well_4 : decode cX6_well 4 = .ok (.getfield 98, 3) := by decide +kernel
theorem dX6_well_7 : decode cX6_well 7 = .ok (.iload_n 1, 1) := by decide +kernel
theorem dX6_well_8 : decode cX6_well 8 = .ok (.invokevirtual 196, 3) := by decide +kernel
theorem dX6_well_11 : decode cX6_well 11 = .ok (.ifCond .ne 10, 3) := by decide +kernel
theorem dX6_well_14 : decode cX6_well 14 = .ok (.aload_n 0, 1) := by decide +kernel
theorem dX6_well_15 : decode cX6_well 15 = .ok (.bipush (-2), 2) := by decide +kernel
theorem dX6_well_17 : decode cX6_well 17 = .ok (.invokevirtual 59, 3) := by decide +kernel
theorem dX6_well_20 : decode cX6_well 20 = .ok (.ireturn, 1) := by decide +kernel
theorem dX6_well_21 : decode cX6_well 21 = .ok (.aload_n 0, 1) := by decide +kernel
theorem dX6_well_22 : decode cX6_well 22 = .ok (.getfield 10, 3) := by decide +kernel
theorem dX6_well_25 : decode cX6_well 25 = .ok (.getfield 98, 3) := by decide +kernel
theorem dX6_well_28 : decode cX6_well 28 = .ok (.iload_n 1, 1) := by decide +kernel
theorem dX6_well_29 : decode cX6_well 29 = .ok (.aload_n 0, 1) := by decide +kernel
theorem dX6_well_30 : decode cX6_well 30 = .ok (.getfield 10, 3) := by decide +kernel
theorem dX6_well_33 : decode cX6_well 33 = .ok (.getfield 123, 3) := by decide +kernel
theorem dX6_well_36 : decode cX6_well 36 = .ok (.invokevirtual 199, 3) := by decide +kernel
theorem dX6_well_39 : decode cX6_well 39 = .ok (.ireturn, 1) := by decide +kernel
theorem dX6_all_0 : decode cX6_all 0 = .ok (.iload_n 1, 1) := by decide +kernel
theorem dX6_all_1 : decode cX6_all 1 = .ok (.tableswitch 84 0 4 #[35, 50, 58, 66, 75], 35) := by decide +kernel
theorem dX6_all_36 : decode cX6_all 36 = .ok (.aload_n 0, 1) := by decide +kernel
theorem dX6_all_37 : decode cX6_all 37 = .ok (.getfield 10, 3) := by decide +kernel
theorem dX6_all_40 : decode cX6_all 40 = .ok (.aload_n 0, 1) := by decide +kernel
theorem dX6_all_41 : decode cX6_all 41 = .ok (.getfield 10, 3) := by decide +kernel
theorem dX6_all_44 : decode cX6_all 44 = .ok (.getfield 202, 3) := by decide +kernel
theorem dX6_all_47 : decode cX6_all 47 = .ok (.invokevirtual 205, 3) := by decide +kernel
theorem dX6_all_50 : decode cX6_all 50 = .ok (.ireturn, 1) := by decide +kernel
theorem dX6_all_51 : decode cX6_all 51 = .ok (.aload_n 0, 1) := by decide +kernel
theorem dX6_all_52 : decode cX6_all 52 = .ok (.getfield 10, 3) := by decide +kernel
theorem dX6_all_55 : decode cX6_all 55 = .ok (.invokevirtual 208, 3) := by decide +kernel
theorem dX6_all_58 : decode cX6_all 58 = .ok (.ireturn, 1) := by decide +kernel
theorem dX6_all_59 : decode cX6_all 59 = .ok (.aload_n 0, 1) := by decide +kernel
theorem dX6_all_60 : decode cX6_all 60 = .ok (.getfield 10, 3) := by decide +kernel
theorem dX6_all_63 : decode cX6_all 63 = .ok (.getfield 202, 3) := by decide +kernel
theorem dX6_all_66 : decode cX6_all 66 = .ok (.ireturn, 1) := by decide +kernel
theorem dX6_all_67 : decode cX6_all 67 = .ok (.aload_n 0, 1) := by decide +kernel
theorem dX6_all_68 : decode cX6_all 68 = .ok (.getfield 10, 3) := by decide +kernel
theorem dX6_all_71 : decode cX6_all 71 = .ok (.iconst 1, 1) := by decide +kernel
theorem dX6_all_72 : decode cX6_all 72 = .ok (.invokevirtual 211, 3) := by decide +kernel
theorem dX6_all_75 : decode cX6_all 75 = .ok (.ireturn, 1) := by decide +kernel
theorem dX6_all_76 : decode cX6_all 76 = .ok (.aload_n 0, 1) := by decide +kernel
theorem dX6_all_77 : decode cX6_all 77 = .ok (.getfield 10, 3) := by decide +kernel
theorem dX6_all_80 : decode cX6_all 80 = .ok (.iconst 2, 1) := by decide +kernel
theorem dX6_all_81 : decode cX6_all 81 = .ok (.invokevirtual 211, 3) := by decide +kernel
theorem dX6_all_84 : decode cX6_all 84 = .ok (.ireturn, 1) := by decide +kernel
theorem dX6_all_85 : decode cX6_all 85 = .ok (.aload_n 0, 1) := by decide +kernel
theorem dX6_all_86 : decode cX6_all 86 = .ok (.bipush (-2), 2) := by decide +kernel
theorem dX6_all_88 : decode cX6_all 88 = .ok (.invokevirtual 59, 3) := by decide +kernel
theorem dX6_all_91 : decode cX6_all 91 = .ok (.ireturn, 1) := by decide +kernel
theorem dX6_off_0 : decode cX6_off 0 = .ok (.aload_n 0, 1) := by decide +kernel
theorem dX6_off_1 : decode cX6_off 1 = .ok (.getfield 10, 3) := by decide +kernel
theorem dX6_off_4 : decode cX6_off 4 = .ok (.iload_n 1, 1) := by decide +kernel
theorem dX6_off_5 : decode cX6_off 5 = .ok (.invokevirtual 146, 3) := by decide +kernel
theorem dX6_off_8 : decode cX6_off 8 = .ok (.ifCond .eq 14, 3) := by decide +kernel
theorem dX6_off_11 : decode cX6_off 11 = .ok (.aload_n 0, 1) := by decide +kernel
theorem dX6_off_12 : decode cX6_off 12 = .ok (.getfield 10, 3) := by decide +kernel
theorem dX6_off_15 : decode cX6_off 15 = .ok (.iload_n 1, 1) := by decide +kernel
theorem dX6_off_16 : decode cX6_off 16 = .ok (.invokevirtual 214, 3) := by decide +kernel
theorem dX6_off_19 : decode cX6_off 19 = .ok (.goto 9, 3) := by decide +kernel
theorem dX6_off_22 : decode cX6_off 22 = .ok (.aload_n 0, 1) := by decide +kernel
theorem dX6_off_23 : decode cX6_off 23 = .ok (.bipush (-2), 2) := by decide +kernel
theorem dX6_off_25 : decode cX6_off 25 = .ok (.invokevirtual 59, 3) := by decide +kernel
theorem dX6_off_28 : decode cX6_off 28 = .ok (.ireturn, 1) := by decide +kernel
theorem dX6_down_0 : decode cX6_down 0 = .ok (.aload_n 0, 1) := by decide +kernel
theorem dX6_down_1 : decode cX6_down 1 = .ok (.getfield 10, 3) := by decide +kernel
theorem dX6_down_4 : decode cX6_down 4 = .ok (.iload_n 1, 1) := by decide +kernel
theorem dX6_down_5 : decode cX6_down 5 = .ok (.invokevirtual 146, 3) := by decide +kernel
theorem dX6_down_8 : decode cX6_down 8 = .ok (.ifCond .eq 14, 3) := by decide +kernel
theorem dX6_down_11 : decode cX6_down 11 = .ok (.aload_n 0, 1) := by decide +kernel
theorem dX6_down_12 : decode cX6_down 12 = .ok (.getfield 10, 3) := by decide +kernel
theorem dX6_down_15 : decode cX6_down 15 = .ok (.iload_n 1, 1) := by decide +kernel
theorem dX6_down_16 : decode cX6_down 16 = .ok (.invokevirtual 217, 3) := by decide +kernel
theorem dX6_down_19 : decode cX6_down 19 = .ok (.goto 9, 3) := by decide +kernel
theorem dX6_down_22 : decode cX6_down 22 = .ok (.aload_n 0, 1) := by decide +kernel
theorem dX6_down_23 : decode cX6_down 23 = .ok (.bipush (-2), 2) := by decide +kernel
theorem dX6_down_25 : decode cX6_down 25 = .ok (.invokevirtual 59, 3) := by decide +kernel
theorem dX6_down_28 : decode cX6_down 28 = .ok (.ireturn, 1) := by decide +kernel
theorem dX6_up_0 : decode cX6_up 0 = .ok (.aload_n 0, 1) := by decide +kernel
theorem dX6_up_1 : decode cX6_up 1 = .ok (.getfield 10, 3) := by decide +kernel
theorem dX6_up_4 : decode cX6_up 4 = .ok (.iload_n 1, 1) := by decide +kernel
theorem dX6_up_5 : decode cX6_up 5 = .ok (.invokevirtual 146, 3) := by decide +kernel
theorem dX6_up_8 : decode cX6_up 8 = .ok (.ifCond .eq 14, 3) := by decide +kernel
theorem dX6_up_11 : decode cX6_up 11 = .ok (.aload_n 0, 1) := by decide +kernel
theorem dX6_up_12 : decode cX6_up 12 = .ok (.getfield 10, 3) := by decide +kernel
theorem dX6_up_15 : decode cX6_up 15 = .ok (.iload_n 1, 1) := by decide +kernel
theorem dX6_up_16 : decode cX6_up 16 = .ok (.invokevirtual 220, 3) := by decide +kernel
theorem dX6_up_19 : decode cX6_up 19 = .ok (.goto 9, 3) := by decide +kernel
theorem dX6_up_22 : decode cX6_up 22 = .ok (.aload_n 0, 1) := by decide +kernel
theorem dX6_up_23 : decode cX6_up 23 = .ok (.bipush (-2), 2) := by decide +kernel
theorem dX6_up_25 : decode cX6_up 25 = .ok (.invokevirtual 59, 3) := by decide +kernel
theorem dX6_up_28 : decode cX6_up 28 = .ok (.ireturn, 1) := by decide +kernel
theorem dX6_to_0 : decode cX6_to 0 = .ok (.aload_n 0, 1) := by decide +kernel
theorem dX6_to_1 : decode cX6_to 1 = .ok (.getfield 10, 3) := by decide +kernel
theorem dX6_to_4 : decode cX6_to 4 = .ok (.iload_n 1, 1) := by decide +kernel
theorem dX6_to_5 : decode cX6_to 5 = .ok (.invokevirtual 223, 3) := by decide +kernel
theorem dX6_to_8 : decode cX6_to 8 = .ok (.ifCond .eq 14, 3) := by decide +kernel
theorem dX6_to_11 : decode cX6_to 11 = .ok (.aload_n 0, 1) := by decide +kernel
theorem dX6_to_12 : decode cX6_to 12 = .ok (.getfield 10, 3) := by decide +kernel
theorem dX6_to_15 : decode cX6_to 15 = .ok (.iload_n 1, 1) := by decide +kernel
theorem dX6_to_16 : decode cX6_to 16 = .ok (.invokestatic 226, 3) := by decide +kernel
theorem dX6_to_19 : decode cX6_to 19 = .ok (.goto 9, 3) := by decide +kernel
theorem dX6_to_22 : decode cX6_to 22 = .ok (.aload_n 0, 1) := by decide +kernel
theorem dX6_to_23 : decode cX6_to 23 = .ok (.bipush (-2), 2) := by decide +kernel
theorem dX6_to_25 : decode cX6_to 25 = .ok (.invokevirtual 59, 3) := by decide +kernel
theorem dX6_to_28 : decode cX6_to 28 = .ok (.ireturn, 1) := by decide +kernel
theorem dX6_unsay_0 : decode cX6_unsay 0 = .ok (.aload_n 0, 1) := by decide +kernel
theorem dX6_unsay_1 : decode cX6_unsay 1 = .ok (.getfield 10, 3) := by decide +kernel
theorem dX6_unsay_4 : decode cX6_unsay 4 = .ok (.iload_n 1, 1) := by decide +kernel
theorem dX6_unsay_5 : decode cX6_unsay 5 = .ok (.invokevirtual 223, 3) := by decide +kernel
theorem dX6_unsay_8 : decode cX6_unsay 8 = .ok (.ifCond .eq 14, 3) := by decide +kernel
theorem dX6_unsay_11 : decode cX6_unsay 11 = .ok (.aload_n 0, 1) := by decide +kernel
theorem dX6_unsay_12 : decode cX6_unsay 12 = .ok (.getfield 10, 3) := by decide +kernel
theorem dX6_unsay_15 : decode cX6_unsay 15 = .ok (.iload_n 1, 1) := by decide +kernel
theorem dX6_unsay_16 : decode cX6_unsay 16 = .ok (.invokestatic 232, 3) := by decide +kernel
theorem dX6_unsay_19 : decode cX6_unsay 19 = .ok (.goto 9, 3) := by decide +kernel
theorem dX6_unsay_22 : decode cX6_unsay 22 = .ok (.aload_n 0, 1) := by decide +kernel
theorem dX6_unsay_23 : decode cX6_unsay 23 = .ok (.bipush (-2), 2) := by decide +kernel
theorem dX6_unsay_25 : decode cX6_unsay 25 = .ok (.invokevirtual 59, 3) := by decide +kernel
theorem dX6_unsay_28 : decode cX6_unsay 28 = .ok (.ireturn, 1) := by decide +kernel
theorem dX6_until_0 : decode cX6_until 0 = .ok (.aload_n 0, 1) := by decide +kernel
theorem dX6_until_1 : decode cX6_until 1 = .ok (.getfield 10, 3) := by decide +kernel
theorem dX6_until_4 : decode cX6_until 4 = .ok (.iload_n 1, 1) := by decide +kernel
theorem dX6_until_5 : decode cX6_until 5 = .ok (.invokevirtual 223, 3) := by decide +kernel
theorem dX6_until_8 : decode cX6_until 8 = .ok (.ifCond .eq 14, 3) := by decide +kernel
theorem dX6_until_11 : decode cX6_until 11 = .ok (.aload_n 0, 1) := by decide +kernel
theorem dX6_until_12 : decode cX6_until 12 = .ok (.getfield 10, 3) := by decide +kernel
theorem dX6_until_15 : decode cX6_until 15 = .ok (.iload_n 1, 1) := by decide +kernel
theorem dX6_until_16 : decode cX6_until 16 = .ok (.invokevirtual 235, 3) := by decide +kernel
theorem dX6_until_19 : decode cX6_until 19 = .ok (.goto 9, 3) := by decide +kernel
theorem dX6_until_22 : decode cX6_until 22 = .ok (.aload_n 0, 1) := by decide +kernel
theorem dX6_until_23 : decode cX6_until 23 = .ok (.bipush (-2), 2) := by decide +kernel
theorem dX6_until_25 : decode cX6_until 25 = .ok (.invokevirtual 59, 3) := by decide +kernel
theorem dX6_until_28 : decode cX6_until 28 = .ok (.ireturn, 1) := by decide +kernel
theorem dX6_slipped_0 : decode cX6_slipped 0 = .ok (.aload_n 0, 1) := by decide +kernel
theorem dX6_slipped_1 : decode cX6_slipped 1 = .ok (.getfield 10, 3) := by decide +kernel
theorem dX6_slipped_4 : decode cX6_slipped 4 = .ok (.iload_n 1, 1) := by decide +kernel
theorem dX6_slipped_5 : decode cX6_slipped 5 = .ok (.invokevirtual 146, 3) := by decide +kernel
theorem dX6_slipped_8 : decode cX6_slipped 8 = .ok (.ifCond .eq 14, 3) := by decide +kernel
theorem dX6_slipped_11 : decode cX6_slipped 11 = .ok (.iload_n 2, 1) := by decide +kernel
theorem dX6_slipped_12 : decode cX6_slipped 12 = .ok (.iconst 1, 1) := by decide +kernel
theorem dX6_slipped_13 : decode cX6_slipped 13 = .ok (.if_icmp .lt 9, 3) := by decide +kernel
theorem dX6_slipped_16 : decode cX6_slipped 16 = .ok (.iload_n 2, 1) := by decide +kernel
theorem dX6_slipped_17 : decode cX6_slipped 17 = .ok (.bipush 9, 2) := by decide +kernel
theorem dX6_slipped_19 : decode cX6_slipped 19 = .ok (.if_icmp .le 10, 3) := by decide +kernel
theorem dX6_slipped_22 : decode cX6_slipped 22 = .ok (.aload_n 0, 1) := by decide +kernel
theorem dX6_slipped_23 : decode cX6_slipped 23 = .ok (.bipush (-2), 2) := by decide +kernel
theorem dX6_slipped_25 : decode cX6_slipped 25 = .ok (.invokevirtual 59, 3) := by decide +kernel
theorem dX6_slipped_28 : decode cX6_slipped 28 = .ok (.ireturn, 1) := by decide +kernel
theorem dX6_slipped_29 : decode cX6_slipped 29 = .ok (.aload_n 0, 1) := by decide +kernel
theorem dX6_slipped_30 : decode cX6_slipped 30 = .ok (.getfield 10, 3) := by decide +kernel
theorem dX6_slipped_33 : decode cX6_slipped 33 = .ok (.aload_n 0, 1) := by decide +kernel
theorem dX6_slipped_34 : decode cX6_slipped 34 = .ok (.getfield 10, 3) := by decide +kernel
theorem dX6_slipped_37 : decode cX6_slipped 37 = .ok (.iload_n 1, 1) := by decide +kernel
theorem dX6_slipped_38 : decode cX6_slipped 38 = .ok (.iload_n 2, 1) := by decide +kernel
theorem dX6_slipped_39 : decode cX6_slipped 39 = .ok (.invokevirtual 238, 3) := by decide +kernel
theorem dX6_slipped_42 : decode cX6_slipped 42 = .ok (.invokevirtual 214, 3) := by decide +kernel
theorem dX6_slipped_45 : decode cX6_slipped 45 = .ok (.ireturn, 1) := by decide +kernel
theorem dX6_whose_0 : decode cX6_whose 0 = .ok (.iload_n 1, 1) := by decide +kernel
theorem dX6_whose_1 : decode cX6_whose 1 = .ok (.bipush 99, 2) := by decide +kernel
theorem dX6_whose_3 : decode cX6_whose 3 = .ok (.invokestatic 55, 3) := by decide +kernel
theorem dX6_whose_6 : decode cX6_whose 6 = .ok (.ifCond .eq 24, 3) := by decide +kernel
theorem dX6_whose_9 : decode cX6_whose 9 = .ok (.aload_n 0, 1) := by decide +kernel
theorem dX6_whose_10 : decode cX6_whose 10 = .ok (.getfield 10, 3) := by decide +kernel
theorem dX6_whose_13 : decode cX6_whose 13 = .ok (.getfield 98, 3) := by decide +kernel
theorem dX6_whose_16 : decode cX6_whose 16 = .ok (.iload_n 1, 1) := by decide +kernel
theorem dX6_whose_17 : decode cX6_whose 17 = .ok (.aload_n 0, 1) := by decide +kernel
theorem dX6_whose_18 : decode cX6_whose 18 = .ok (.getfield 10, 3) := by decide +kernel
theorem dX6_whose_21 : decode cX6_whose 21 = .ok (.getfield 123, 3) := by decide +kernel
theorem dX6_whose_24 : decode cX6_whose 24 = .ok (.invokevirtual 241, 3) := by decide +kernel
theorem dX6_whose_27 : decode cX6_whose 27 = .ok (.goto 9, 3) := by decide +kernel
theorem dX6_whose_30 : decode cX6_whose 30 = .ok (.aload_n 0, 1) := by decide +kernel
theorem dX6_whose_31 : decode cX6_whose 31 = .ok (.bipush (-2), 2) := by decide +kernel
theorem dX6_whose_33 : decode cX6_whose 33 = .ok (.invokevirtual 59, 3) := by decide +kernel
theorem dX6_whose_36 : decode cX6_whose 36 = .ok (.ireturn, 1) := by decide +kernel
theorem dX6_crew_0 : decode cX6_crew 0 = .ok (.iload_n 1, 1) := by decide +kernel
theorem dX6_crew_1 : decode cX6_crew 1 = .ok (.bipush 6, 2) := by decide +kernel
theorem dX6_crew_3 : decode cX6_crew 3 = .ok (.invokestatic 55, 3) := by decide +kernel
theorem dX6_crew_6 : decode cX6_crew 6 = .ok (.ifCond .eq 24, 3) := by decide +kernel
theorem dX6_crew_9 : decode cX6_crew 9 = .ok (.aload_n 0, 1) := by decide +kernel
theorem dX6_crew_10 : decode cX6_crew 10 = .ok (.getfield 10, 3) := by decide +kernel
theorem dX6_crew_13 : decode cX6_crew 13 = .ok (.getfield 98, 3) := by decide +kernel
theorem dX6_crew_16 : decode cX6_crew 16 = .ok (.iload_n 1, 1) := by decide +kernel
theorem dX6_crew_17 : decode cX6_crew 17 = .ok (.aload_n 0, 1) := by decide +kernel
theorem dX6_crew_18 : decode cX6_crew 18 = .ok (.getfield 10, 3) := by decide +kernel
theorem dX6_crew_21 : decode cX6_crew 21 = .ok (.getfield 123, 3) := by decide +kernel
theorem dX6_crew_24 : decode cX6_crew 24 = .ok (.invokevirtual 244, 3) := by decide +kernel
theorem dX6_crew_27 : decode cX6_crew 27 = .ok (.goto 9, 3) := by decide +kernel
theorem dX6_crew_30 : decode cX6_crew 30 = .ok (.aload_n 0, 1) := by decide +kernel
theorem dX6_crew_31 : decode cX6_crew 31 = .ok (.bipush (-2), 2) := by decide +kernel
theorem dX6_crew_33 : decode cX6_crew 33 = .ok (.invokevirtual 59, 3) := by decide +kernel
theorem dX6_crew_36 : decode cX6_crew 36 = .ok (.ireturn, 1) := by decide +kernel
theorem dX6_putBack_0 : decode cX6_putBack 0 = .ok (.aload_n 0, 1) := by decide +kernel
theorem dX6_putBack_1 : decode cX6_putBack 1 = .ok (.getfield 10, 3) := by decide +kernel
theorem dX6_putBack_4 : decode cX6_putBack 4 = .ok (.iload_n 1, 1) := by decide +kernel
end
section
theorem dX6_putBack_5 : decode cX6_putBack 5 = .ok (.invokevirtual 146, 3) := by decide +kernel
theorem dX6_putBack_8 : decode cX6_putBack 8 = .ok (.ifCond .eq 14, 3) := by decide +kernel
theorem dX6_putBack_11 : decode cX6_putBack 11 = .ok (.aload_n 0, 1) := by decide +kernel
theorem dX6_putBack_12 : decode cX6_putBack 12 = .ok (.getfield 10, 3) := by decide +kernel
theorem dX6_putBack_15 : decode cX6_putBack 15 = .ok (.iload_n 1, 1) := by decide +kernel
theorem dX6_putBack_16 : decode cX6_putBack 16 = .ok (.invokevirtual 247, 3) := by decide +kernel
theorem dX6_putBack_19 : decode cX6_putBack 19 = .ok (.goto 9, 3) := by decide +kernel
theorem dX6_putBack_22 : decode cX6_putBack 22 = .ok (.aload_n 0, 1) := by decide +kernel
theorem dX6_putBack_23 : decode cX6_putBack 23 = .ok (.bipush (-2), 2) := by decide +kernel
theorem dX6_putBack_25 : decode cX6_putBack 25 = .ok (.invokevirtual 59, 3) := by decide +kernel
theorem dX6_putBack_28 : decode cX6_putBack 28 = .ok (.ireturn, 1) := by decide +kernel
theorem dX6_parishes_0 : decode cX6_parishes 0 = .ok (.iload_n 1, 1) := by decide +kernel
theorem dX6_parishes_1 : decode cX6_parishes 1 = .ok (.iconst 5, 1) := by decide +kernel
theorem dX6_parishes_2 : decode cX6_parishes 2 = .ok (.invokestatic 55, 3) := by decide +kernel
theorem dX6_parishes_5 : decode cX6_parishes 5 = .ok (.ifCond .eq 11, 3) := by decide +kernel
theorem dX6_parishes_8 : decode cX6_parishes 8 = .ok (.iload_n 2, 1) := by decide +kernel
theorem dX6_parishes_9 : decode cX6_parishes 9 = .ok (.iconst 1, 1) := by decide +kernel
theorem dX6_parishes_10 : decode cX6_parishes 10 = .ok (.invokestatic 55, 3) := by decide +kernel
theorem dX6_parishes_13 : decode cX6_parishes 13 = .ok (.ifCond .ne 10, 3) := by decide +kernel
theorem dX6_parishes_16 : decode cX6_parishes 16 = .ok (.aload_n 0, 1) := by decide +kernel
theorem dX6_parishes_17 : decode cX6_parishes 17 = .ok (.bipush (-2), 2) := by decide +kernel
theorem dX6_parishes_19 : decode cX6_parishes 19 = .ok (.invokevirtual 59, 3) := by decide +kernel
theorem dX6_parishes_22 : decode cX6_parishes 22 = .ok (.ireturn, 1) := by decide +kernel
theorem dX6_parishes_23 : decode cX6_parishes 23 = .ok (.iload_n 2, 1) := by decide +kernel
theorem dX6_parishes_24 : decode cX6_parishes 24 = .ok (.ifCond .ne 14, 3) := by decide +kernel
theorem dX6_parishes_27 : decode cX6_parishes 27 = .ok (.aload_n 0, 1) := by decide +kernel
theorem dX6_parishes_28 : decode cX6_parishes 28 = .ok (.getfield 10, 3) := by decide +kernel
theorem dX6_parishes_31 : decode cX6_parishes 31 = .ok (.iload_n 1, 1) := by decide +kernel
theorem dX6_parishes_32 : decode cX6_parishes 32 = .ok (.invokestatic 250, 3) := by decide +kernel
theorem dX6_parishes_35 : decode cX6_parishes 35 = .ok (.goto 11, 3) := by decide +kernel
theorem dX6_parishes_38 : decode cX6_parishes 38 = .ok (.aload_n 0, 1) := by decide +kernel
theorem dX6_parishes_39 : decode cX6_parishes 39 = .ok (.getfield 10, 3) := by decide +kernel
theorem dX6_parishes_42 : decode cX6_parishes 42 = .ok (.iload_n 1, 1) := by decide +kernel
theorem dX6_parishes_43 : decode cX6_parishes 43 = .ok (.invokestatic 253, 3) := by decide +kernel
theorem dX6_parishes_46 : decode cX6_parishes 46 = .ok (.ireturn, 1) := by decide +kernel
theorem dX6_deaf_0 : decode cX6_deaf 0 = .ok (.aload_n 0, 1) := by decide +kernel
theorem dX6_deaf_1 : decode cX6_deaf 1 = .ok (.getfield 10, 3) := by decide +kernel
theorem dX6_deaf_4 : decode cX6_deaf 4 = .ok (.iload_n 1, 1) := by decide +kernel
theorem dX6_deaf_5 : decode cX6_deaf 5 = .ok (.invokevirtual 223, 3) := by decide +kernel
theorem dX6_deaf_8 : decode cX6_deaf 8 = .ok (.ifCond .eq 11, 3) := by decide +kernel
theorem dX6_deaf_11 : decode cX6_deaf 11 = .ok (.iload_n 2, 1) := by decide +kernel
theorem dX6_deaf_12 : decode cX6_deaf 12 = .ok (.iconst 1, 1) := by decide +kernel
theorem dX6_deaf_13 : decode cX6_deaf 13 = .ok (.invokestatic 55, 3) := by decide +kernel
theorem dX6_deaf_16 : decode cX6_deaf 16 = .ok (.ifCond .ne 10, 3) := by decide +kernel
theorem dX6_deaf_19 : decode cX6_deaf 19 = .ok (.aload_n 0, 1) := by decide +kernel
theorem dX6_deaf_20 : decode cX6_deaf 20 = .ok (.bipush (-2), 2) := by decide +kernel
theorem dX6_deaf_22 : decode cX6_deaf 22 = .ok (.invokevirtual 59, 3) := by decide +kernel
theorem dX6_deaf_25 : decode cX6_deaf 25 = .ok (.ireturn, 1) := by decide +kernel
theorem dX6_deaf_26 : decode cX6_deaf 26 = .ok (.iload_n 2, 1) := by decide +kernel
theorem dX6_deaf_27 : decode cX6_deaf 27 = .ok (.ifCond .ne 14, 3) := by decide +kernel
theorem dX6_deaf_30 : decode cX6_deaf 30 = .ok (.aload_n 0, 1) := by decide +kernel
theorem dX6_deaf_31 : decode cX6_deaf 31 = .ok (.getfield 10, 3) := by decide +kernel
theorem dX6_deaf_34 : decode cX6_deaf 34 = .ok (.iload_n 1, 1) := by decide +kernel
theorem dX6_deaf_35 : decode cX6_deaf 35 = .ok (.invokestatic 256, 3) := by decide +kernel
theorem dX6_deaf_38 : decode cX6_deaf 38 = .ok (.goto 11, 3) := by decide +kernel
theorem dX6_deaf_41 : decode cX6_deaf 41 = .ok (.aload_n 0, 1) := by decide +kernel
theorem dX6_deaf_42 : decode cX6_deaf 42 = .ok (.getfield 10, 3) := by decide +kernel
theorem dX6_deaf_45 : decode cX6_deaf 45 = .ok (.iload_n 1, 1) := by decide +kernel
theorem dX6_deaf_46 : decode cX6_deaf 46 = .ok (.invokestatic 259, 3) := by decide +kernel
theorem dX6_deaf_49 : decode cX6_deaf 49 = .ok (.ireturn, 1) := by decide +kernel
theorem dX6_kinds_0 : decode cX6_kinds 0 = .ok (.aload_n 0, 1) := by decide +kernel
theorem dX6_kinds_1 : decode cX6_kinds 1 = .ok (.getfield 10, 3) := by decide +kernel
theorem dX6_kinds_4 : decode cX6_kinds 4 = .ok (.getfield 98, 3) := by decide +kernel
theorem dX6_kinds_7 : decode cX6_kinds 7 = .ok (.iload_n 1, 1) := by decide +kernel
theorem dX6_kinds_8 : decode cX6_kinds 8 = .ok (.invokevirtual 102, 3) := by decide +kernel
theorem dX6_kinds_11 : decode cX6_kinds 11 = .ok (.ifCond .eq 12, 3) := by decide +kernel
theorem dX6_kinds_14 : decode cX6_kinds 14 = .ok (.iload_n 2, 1) := by decide +kernel
theorem dX6_kinds_15 : decode cX6_kinds 15 = .ok (.bipush 99, 2) := by decide +kernel
theorem dX6_kinds_17 : decode cX6_kinds 17 = .ok (.invokestatic 55, 3) := by decide +kernel
theorem dX6_kinds_20 : decode cX6_kinds 20 = .ok (.ifCond .ne 10, 3) := by decide +kernel
theorem dX6_kinds_23 : decode cX6_kinds 23 = .ok (.aload_n 0, 1) := by decide +kernel
theorem dX6_kinds_24 : decode cX6_kinds 24 = .ok (.bipush (-2), 2) := by decide +kernel
theorem dX6_kinds_26 : decode cX6_kinds 26 = .ok (.invokevirtual 59, 3) := by decide +kernel
theorem dX6_kinds_29 : decode cX6_kinds 29 = .ok (.ireturn, 1) := by decide +kernel
theorem dX6_kinds_30 : decode cX6_kinds 30 = .ok (.aload_n 0, 1) := by decide +kernel
theorem dX6_kinds_31 : decode cX6_kinds 31 = .ok (.getfield 10, 3) := by decide +kernel
theorem dX6_kinds_34 : decode cX6_kinds 34 = .ok (.getfield 98, 3) := by decide +kernel
theorem dX6_kinds_37 : decode cX6_kinds 37 = .ok (.iload_n 1, 1) := by decide +kernel
theorem dX6_kinds_38 : decode cX6_kinds 38 = .ok (.iload_n 2, 1) := by decide +kernel
theorem dX6_kinds_39 : decode cX6_kinds 39 = .ok (.aload_n 0, 1) := by decide +kernel
theorem dX6_kinds_40 : decode cX6_kinds 40 = .ok (.getfield 10, 3) := by decide +kernel
theorem dX6_kinds_43 : decode cX6_kinds 43 = .ok (.getfield 123, 3) := by decide +kernel
theorem dX6_kinds_46 : decode cX6_kinds 46 = .ok (.invokevirtual 262, 3) := by decide +kernel
theorem dX6_kinds_49 : decode cX6_kinds 49 = .ok (.ireturn, 1) := by decide +kernel
theorem dX6_worst_0 : decode cX6_worst 0 = .ok (.iload_n 1, 1) := by decide +kernel
theorem dX6_worst_1 : decode cX6_worst 1 = .ok (.iconst 1, 1) := by decide +kernel
theorem dX6_worst_2 : decode cX6_worst 2 = .ok (.invokestatic 55, 3) := by decide +kernel
theorem dX6_worst_5 : decode cX6_worst 5 = .ok (.ifCond .ne 10, 3) := by decide +kernel
theorem dX6_worst_8 : decode cX6_worst 8 = .ok (.aload_n 0, 1) := by decide +kernel
theorem dX6_worst_9 : decode cX6_worst 9 = .ok (.bipush (-2), 2) := by decide +kernel
theorem dX6_worst_11 : decode cX6_worst 11 = .ok (.invokevirtual 59, 3) := by decide +kernel
theorem dX6_worst_14 : decode cX6_worst 14 = .ok (.ireturn, 1) := by decide +kernel
theorem dX6_worst_15 : decode cX6_worst 15 = .ok (.aload_n 0, 1) := by decide +kernel
theorem dX6_worst_16 : decode cX6_worst 16 = .ok (.getfield 10, 3) := by decide +kernel
theorem dX6_worst_19 : decode cX6_worst 19 = .ok (.aload_n 0, 1) := by decide +kernel
theorem dX6_worst_20 : decode cX6_worst 20 = .ok (.getfield 10, 3) := by decide +kernel
theorem dX6_worst_23 : decode cX6_worst 23 = .ok (.getfield 202, 3) := by decide +kernel
theorem dX6_worst_26 : decode cX6_worst 26 = .ok (.invokestatic 265, 3) := by decide +kernel
theorem dX6_worst_29 : decode cX6_worst 29 = .ok (.istore_n 2, 1) := by decide +kernel
theorem dX6_worst_30 : decode cX6_worst 30 = .ok (.iload_n 1, 1) := by decide +kernel
theorem dX6_worst_31 : decode cX6_worst 31 = .ok (.ifCond .eq 8, 3) := by decide +kernel
theorem dX6_worst_34 : decode cX6_worst 34 = .ok (.iload_n 2, 1) := by decide +kernel
theorem dX6_worst_35 : decode cX6_worst 35 = .ok (.iconst (-1), 1) := by decide +kernel
theorem dX6_worst_36 : decode cX6_worst 36 = .ok (.if_icmp .ne 7, 3) := by decide +kernel
theorem dX6_worst_39 : decode cX6_worst 39 = .ok (.iload_n 2, 1) := by decide +kernel
theorem dX6_worst_40 : decode cX6_worst 40 = .ok (.goto 23, 3) := by decide +kernel
theorem dX6_worst_43 : decode cX6_worst 43 = .ok (.aload_n 0, 1) := by decide +kernel
theorem dX6_worst_44 : decode cX6_worst 44 = .ok (.getfield 10, 3) := by decide +kernel
theorem dX6_worst_47 : decode cX6_worst 47 = .ok (.aload_n 0, 1) := by decide +kernel
theorem dX6_worst_48 : decode cX6_worst 48 = .ok (.getfield 10, 3) := by decide +kernel
theorem dX6_worst_51 : decode cX6_worst 51 = .ok (.getfield 202, 3) := by decide +kernel
theorem dX6_worst_54 : decode cX6_worst 54 = .ok (.iconst 1, 1) := by decide +kernel
theorem dX6_worst_55 : decode cX6_worst 55 = .ok (.iload_n 2, 1) := by decide +kernel
theorem dX6_worst_56 : decode cX6_worst 56 = .ok (.ishl, 1) := by decide +kernel
theorem dX6_worst_57 : decode cX6_worst 57 = .ok (.iconst (-1), 1) := by decide +kernel
theorem dX6_worst_58 : decode cX6_worst 58 = .ok (.ixor, 1) := by decide +kernel
theorem dX6_worst_59 : decode cX6_worst 59 = .ok (.iand, 1) := by decide +kernel
theorem dX6_worst_60 : decode cX6_worst 60 = .ok (.invokevirtual 268, 3) := by decide +kernel
theorem dX6_worst_63 : decode cX6_worst 63 = .ok (.ireturn, 1) := by decide +kernel
theorem dX6_best_0 : decode cX6_best 0 = .ok (.iload_n 1, 1) := by decide +kernel
theorem dX6_best_1 : decode cX6_best 1 = .ok (.iconst 1, 1) := by decide +kernel
theorem dX6_best_2 : decode cX6_best 2 = .ok (.invokestatic 55, 3) := by decide +kernel
theorem dX6_best_5 : decode cX6_best 5 = .ok (.ifCond .ne 10, 3) := by decide +kernel
theorem dX6_best_8 : decode cX6_best 8 = .ok (.aload_n 0, 1) := by decide +kernel
theorem dX6_best_9 : decode cX6_best 9 = .ok (.bipush (-2), 2) := by decide +kernel
theorem dX6_best_11 : decode cX6_best 11 = .ok (.invokevirtual 59, 3) := by decide +kernel
theorem dX6_best_14 : decode cX6_best 14 = .ok (.ireturn, 1) := by decide +kernel
theorem dX6_best_15 : decode cX6_best 15 = .ok (.aload_n 0, 1) := by decide +kernel
theorem dX6_best_16 : decode cX6_best 16 = .ok (.getfield 10, 3) := by decide +kernel
theorem dX6_best_19 : decode cX6_best 19 = .ok (.invokestatic 271, 3) := by decide +kernel
theorem dX6_best_22 : decode cX6_best 22 = .ok (.istore_n 2, 1) := by decide +kernel
theorem dX6_best_23 : decode cX6_best 23 = .ok (.iload_n 1, 1) := by decide +kernel
theorem dX6_best_24 : decode cX6_best 24 = .ok (.ifCond .eq 8, 3) := by decide +kernel
theorem dX6_best_27 : decode cX6_best 27 = .ok (.iload_n 2, 1) := by decide +kernel
theorem dX6_best_28 : decode cX6_best 28 = .ok (.iconst (-1), 1) := by decide +kernel
theorem dX6_best_29 : decode cX6_best 29 = .ok (.if_icmp .ne 7, 3) := by decide +kernel
theorem dX6_best_32 : decode cX6_best 32 = .ok (.iload_n 2, 1) := by decide +kernel
theorem dX6_best_33 : decode cX6_best 33 = .ok (.goto 21, 3) := by decide +kernel
theorem dX6_best_36 : decode cX6_best 36 = .ok (.aload_n 0, 1) := by decide +kernel
theorem dX6_best_37 : decode cX6_best 37 = .ok (.getfield 10, 3) := by decide +kernel
theorem dX6_best_40 : decode cX6_best 40 = .ok (.aload_n 0, 1) := by decide +kernel
theorem dX6_best_41 : decode cX6_best 41 = .ok (.getfield 10, 3) := by decide +kernel
theorem dX6_best_44 : decode cX6_best 44 = .ok (.getfield 202, 3) := by decide +kernel
theorem dX6_best_47 : decode cX6_best 47 = .ok (.iconst 1, 1) := by decide +kernel
theorem dX6_best_48 : decode cX6_best 48 = .ok (.iload_n 2, 1) := by decide +kernel
theorem dX6_best_49 : decode cX6_best 49 = .ok (.ishl, 1) := by decide +kernel
theorem dX6_best_50 : decode cX6_best 50 = .ok (.ior, 1) := by decide +kernel
theorem dX6_best_51 : decode cX6_best 51 = .ok (.invokevirtual 268, 3) := by decide +kernel
theorem dX6_best_54 : decode cX6_best 54 = .ok (.ireturn, 1) := by decide +kernel
theorem dX6_depth_0 : decode cX6_depth 0 = .ok (.aload_n 0, 1) := by decide +kernel
theorem dX6_depth_1 : decode cX6_depth 1 = .ok (.getfield 10, 3) := by decide +kernel
theorem dX6_depth_4 : decode cX6_depth 4 = .ok (.iload_n 1, 1) := by decide +kernel
theorem dX6_depth_5 : decode cX6_depth 5 = .ok (.invokevirtual 146, 3) := by decide +kernel
theorem dX6_depth_8 : decode cX6_depth 8 = .ok (.ifCond .eq 14, 3) := by decide +kernel
theorem dX6_depth_11 : decode cX6_depth 11 = .ok (.aload_n 0, 1) := by decide +kernel
theorem dX6_depth_12 : decode cX6_depth 12 = .ok (.getfield 10, 3) := by decide +kernel
theorem dX6_depth_15 : decode cX6_depth 15 = .ok (.iload_n 1, 1) := by decide +kernel
theorem dX6_depth_16 : decode cX6_depth 16 = .ok (.invokevirtual 275, 3) := by decide +kernel
theorem dX6_depth_19 : decode cX6_depth 19 = .ok (.goto 9, 3) := by decide +kernel
theorem dX6_depth_22 : decode cX6_depth 22 = .ok (.aload_n 0, 1) := by decide +kernel
theorem dX6_depth_23 : decode cX6_depth 23 = .ok (.bipush (-2), 2) := by decide +kernel
theorem dX6_depth_25 : decode cX6_depth 25 = .ok (.invokevirtual 59, 3) := by decide +kernel
theorem dX6_depth_28 : decode cX6_depth 28 = .ok (.ireturn, 1) := by decide +kernel
theorem dX6_ends_0 : decode cX6_ends 0 = .ok (.iload_n 1, 1) := by decide +kernel
theorem dX6_ends_1 : decode cX6_ends 1 = .ok (.iconst 1, 1) := by decide +kernel
theorem dX6_ends_2 : decode cX6_ends 2 = .ok (.invokestatic 55, 3) := by decide +kernel
theorem dX6_ends_5 : decode cX6_ends 5 = .ok (.ifCond .ne 10, 3) := by decide +kernel
theorem dX6_ends_8 : decode cX6_ends 8 = .ok (.aload_n 0, 1) := by decide +kernel
theorem dX6_ends_9 : decode cX6_ends 9 = .ok (.bipush (-2), 2) := by decide +kernel
theorem dX6_ends_11 : decode cX6_ends 11 = .ok (.invokevirtual 59, 3) := by decide +kernel
theorem dX6_ends_14 : decode cX6_ends 14 = .ok (.ireturn, 1) := by decide +kernel
theorem dX6_ends_15 : decode cX6_ends 15 = .ok (.iload_n 1, 1) := by decide +kernel
theorem dX6_ends_16 : decode cX6_ends 16 = .ok (.ifCond .ne 13, 3) := by decide +kernel
theorem dX6_ends_19 : decode cX6_ends 19 = .ok (.aload_n 0, 1) := by decide +kernel
theorem dX6_ends_20 : decode cX6_ends 20 = .ok (.getfield 10, 3) := by decide +kernel
theorem dX6_ends_23 : decode cX6_ends 23 = .ok (.invokevirtual 278, 3) := by decide +kernel
theorem dX6_ends_26 : decode cX6_ends 26 = .ok (.goto 10, 3) := by decide +kernel
theorem dX6_ends_29 : decode cX6_ends 29 = .ok (.aload_n 0, 1) := by decide +kernel
theorem dX6_ends_30 : decode cX6_ends 30 = .ok (.getfield 10, 3) := by decide +kernel
theorem dX6_ends_33 : decode cX6_ends 33 = .ok (.invokevirtual 281, 3) := by decide +kernel
theorem dX6_ends_36 : decode cX6_ends 36 = .ok (.ireturn, 1) := by decide +kernel
theorem dX6_common_0 : decode cX6_common 0 = .ok (.aload_n 0, 1) := by decide +kernel
theorem dX6_common_1 : decode cX6_common 1 = .ok (.getfield 10, 3) := by decide +kernel
theorem dX6_common_4 : decode cX6_common 4 = .ok (.iload_n 1, 1) := by decide +kernel
theorem dX6_common_5 : decode cX6_common 5 = .ok (.invokevirtual 146, 3) := by decide +kernel
theorem dX6_common_8 : decode cX6_common 8 = .ok (.ifCond .eq 14, 3) := by decide +kernel
theorem dX6_common_11 : decode cX6_common 11 = .ok (.aload_n 0, 1) := by decide +kernel
theorem dX6_common_12 : decode cX6_common 12 = .ok (.getfield 10, 3) := by decide +kernel
theorem dX6_common_15 : decode cX6_common 15 = .ok (.iload_n 2, 1) := by decide +kernel
theorem dX6_common_16 : decode cX6_common 16 = .ok (.invokevirtual 146, 3) := by decide +kernel
theorem dX6_common_19 : decode cX6_common 19 = .ok (.ifCond .ne 10, 3) := by decide +kernel
theorem dX6_common_22 : decode cX6_common 22 = .ok (.aload_n 0, 1) := by decide +kernel
theorem dX6_common_23 : decode cX6_common 23 = .ok (.bipush (-2), 2) := by decide +kernel
theorem dX6_common_25 : decode cX6_common 25 = .ok (.invokevirtual 59, 3) := by decide +kernel
theorem dX6_common_28 : decode cX6_common 28 = .ok (.ireturn, 1) := by decide +kernel
theorem dX6_common_29 : decode cX6_common 29 = .ok (.aload_n 0, 1) := by decide +kernel
theorem dX6_common_30 : decode cX6_common 30 = .ok (.getfield 10, 3) := by decide +kernel
theorem dX6_common_33 : decode cX6_common 33 = .ok (.iload_n 1, 1) := by decide +kernel
theorem dX6_common_34 : decode cX6_common 34 = .ok (.invokevirtual 217, 3) := by decide +kernel
theorem dX6_common_37 : decode cX6_common 37 = .ok (.aload_n 0, 1) := by decide +kernel
theorem dX6_common_38 : decode cX6_common 38 = .ok (.getfield 10, 3) := by decide +kernel
theorem dX6_common_41 : decode cX6_common 41 = .ok (.iload_n 2, 1) := by decide +kernel
theorem dX6_common_42 : decode cX6_common 42 = .ok (.invokevirtual 217, 3) := by decide +kernel
theorem dX6_common_45 : decode cX6_common 45 = .ok (.iand, 1) := by decide +kernel
theorem dX6_common_46 : decode cX6_common 46 = .ok (.ireturn, 1) := by decide +kernel
theorem dX6_weatherFor_0 : decode cX6_weatherFor 0 = .ok (.iload_n 1, 1) := by decide +kernel
theorem dX6_weatherFor_1 : decode cX6_weatherFor 1 = .ok (.iconst 1, 1) := by decide +kernel
theorem dX6_weatherFor_2 : decode cX6_weatherFor 2 = .ok (.invokestatic 55, 3) := by decide +kernel
theorem dX6_weatherFor_5 : decode cX6_weatherFor 5 = .ok (.ifCond .ne 10, 3) := by decide +kernel
theorem dX6_weatherFor_8 : decode cX6_weatherFor 8 = .ok (.aload_n 0, 1) := by decide +kernel
theorem dX6_weatherFor_9 : decode cX6_weatherFor 9 = .ok (.bipush (-2), 2) := by decide +kernel
theorem dX6_weatherFor_11 : decode cX6_weatherFor 11 = .ok (.invokevirtual 59, 3) := by decide +kernel
theorem dX6_weatherFor_14 : decode cX6_weatherFor 14 = .ok (.ireturn, 1) := by decide +kernel
theorem dX6_weatherFor_15 : decode cX6_weatherFor 15 = .ok (.aload_n 0, 1) := by decide +kernel
theorem dX6_weatherFor_16 : decode cX6_weatherFor 16 = .ok (.getfield 10, 3) := by decide +kernel
theorem dX6_weatherFor_19 : decode cX6_weatherFor 19 = .ok (.invokevirtual 284, 3) := by decide +kernel
theorem dX6_weatherFor_22 : decode cX6_weatherFor 22 = .ok (.istore_n 2, 1) := by decide +kernel
theorem dX6_weatherFor_23 : decode cX6_weatherFor 23 = .ok (.iload_n 1, 1) := by decide +kernel
theorem dX6_weatherFor_24 : decode cX6_weatherFor 24 = .ok (.ifCond .ne 7, 3) := by decide +kernel
theorem dX6_weatherFor_27 : decode cX6_weatherFor 27 = .ok (.iload_n 2, 1) := by decide +kernel
theorem dX6_weatherFor_28 : decode cX6_weatherFor 28 = .ok (.goto 11, 3) := by decide +kernel
theorem dX6_weatherFor_31 : decode cX6_weatherFor 31 = .ok (.aload_n 0, 1) := by decide +kernel
theorem dX6_weatherFor_32 : decode cX6_weatherFor 32 = .ok (.getfield 10, 3) := by decide +kernel
theorem dX6_weatherFor_35 : decode cX6_weatherFor 35 = .ok (.iload_n 2, 1) := by decide +kernel
theorem dX6_weatherFor_36 : decode cX6_weatherFor 36 = .ok (.invokevirtual 287, 3) := by decide +kernel
theorem dX6_weatherFor_39 : decode cX6_weatherFor 39 = .ok (.ireturn, 1) := by decide +kernel
theorem dX6_bell_0 : decode cX6_bell 0 = .ok (.iload_n 1, 1) := by decide +kernel
theorem dX6_bell_1 : decode cX6_bell 1 = .ok (.iconst 1, 1) := by decide +kernel
theorem dX6_bell_2 : decode cX6_bell 2 = .ok (.invokestatic 55, 3) := by decide +kernel
theorem dX6_bell_5 : decode cX6_bell 5 = .ok (.ifCond .ne 10, 3) := by decide +kernel
theorem dX6_bell_8 : decode cX6_bell 8 = .ok (.aload_n 0, 1) := by decide +kernel
theorem dX6_bell_9 : decode cX6_bell 9 = .ok (.bipush (-2), 2) := by decide +kernel
theorem dX6_bell_11 : decode cX6_bell 11 = .ok (.invokevirtual 59, 3) := by decide +kernel
theorem dX6_bell_14 : decode cX6_bell 14 = .ok (.ireturn, 1) := by decide +kernel
theorem dX6_bell_15 : decode cX6_bell 15 = .ok (.aload_n 0, 1) := by decide +kernel
theorem dX6_bell_16 : decode cX6_bell 16 = .ok (.getfield 10, 3) := by decide +kernel
theorem dX6_bell_19 : decode cX6_bell 19 = .ok (.invokevirtual 290, 3) := by decide +kernel
theorem dX6_bell_22 : decode cX6_bell 22 = .ok (.istore_n 2, 1) := by decide +kernel
theorem dX6_bell_23 : decode cX6_bell 23 = .ok (.iload_n 1, 1) := by decide +kernel
theorem dX6_bell_24 : decode cX6_bell 24 = .ok (.ifCond .ne 7, 3) := by decide +kernel
theorem dX6_bell_27 : decode cX6_bell 27 = .ok (.iload_n 2, 1) := by decide +kernel
theorem dX6_bell_28 : decode cX6_bell 28 = .ok (.goto 11, 3) := by decide +kernel
theorem dX6_bell_31 : decode cX6_bell 31 = .ok (.aload_n 0, 1) := by decide +kernel
theorem dX6_bell_32 : decode cX6_bell 32 = .ok (.getfield 10, 3) := by decide +kernel
theorem dX6_bell_35 : decode cX6_bell 35 = .ok (.iload_n 2, 1) := by decide +kernel
theorem dX6_bell_36 : decode cX6_bell 36 = .ok (.invokevirtual 293, 3) := by decide +kernel
theorem dX6_bell_39 : decode cX6_bell 39 = .ok (.ireturn, 1) := by decide +kernel
theorem dX6_pair_0 : decode cX6_pair 0 = .ok (.iload_n 1, 1) := by decide +kernel
theorem dX6_pair_1 : decode cX6_pair 1 = .ok (.iconst 1, 1) := by decide +kernel
theorem dX6_pair_2 : decode cX6_pair 2 = .ok (.invokestatic 55, 3) := by decide +kernel
theorem dX6_pair_5 : decode cX6_pair 5 = .ok (.ifCond .ne 10, 3) := by decide +kernel
theorem dX6_pair_8 : decode cX6_pair 8 = .ok (.aload_n 0, 1) := by decide +kernel
theorem dX6_pair_9 : decode cX6_pair 9 = .ok (.bipush (-2), 2) := by decide +kernel
theorem dX6_pair_11 : decode cX6_pair 11 = .ok (.invokevirtual 59, 3) := by decide +kernel
theorem dX6_pair_14 : decode cX6_pair 14 = .ok (.ireturn, 1) := by decide +kernel
theorem dX6_pair_15 : decode cX6_pair 15 = .ok (.aload_n 0, 1) := by decide +kernel
theorem dX6_pair_16 : decode cX6_pair 16 = .ok (.getfield 10, 3) := by decide +kernel
theorem dX6_pair_19 : decode cX6_pair 19 = .ok (.invokestatic 296, 3) := by decide +kernel
theorem dX6_pair_22 : decode cX6_pair 22 = .ok (.istore_n 2, 1) := by decide +kernel
theorem dX6_pair_23 : decode cX6_pair 23 = .ok (.iload_n 1, 1) := by decide +kernel
theorem dX6_pair_24 : decode cX6_pair 24 = .ok (.ifCond .eq 8, 3) := by decide +kernel
theorem dX6_pair_27 : decode cX6_pair 27 = .ok (.iload_n 2, 1) := by decide +kernel
theorem dX6_pair_28 : decode cX6_pair 28 = .ok (.iconst (-1), 1) := by decide +kernel
theorem dX6_pair_29 : decode cX6_pair 29 = .ok (.if_icmp .ne 7, 3) := by decide +kernel
theorem dX6_pair_32 : decode cX6_pair 32 = .ok (.iload_n 2, 1) := by decide +kernel
theorem dX6_pair_33 : decode cX6_pair 33 = .ok (.goto 33, 3) := by decide +kernel
theorem dX6_pair_36 : decode cX6_pair 36 = .ok (.aload_n 0, 1) := by decide +kernel
theorem dX6_pair_37 : decode cX6_pair 37 = .ok (.getfield 10, 3) := by decide +kernel
theorem dX6_pair_40 : decode cX6_pair 40 = .ok (.aload_n 0, 1) := by decide +kernel
theorem dX6_pair_41 : decode cX6_pair 41 = .ok (.getfield 10, 3) := by decide +kernel
theorem dX6_pair_44 : decode cX6_pair 44 = .ok (.getfield 202, 3) := by decide +kernel
theorem dX6_pair_47 : decode cX6_pair 47 = .ok (.iconst 1, 1) := by decide +kernel
theorem dX6_pair_48 : decode cX6_pair 48 = .ok (.iload_n 2, 1) := by decide +kernel
theorem dX6_pair_49 : decode cX6_pair 49 = .ok (.bipush 10, 2) := by decide +kernel
theorem dX6_pair_51 : decode cX6_pair 51 = .ok (.idiv, 1) := by decide +kernel
theorem dX6_pair_52 : decode cX6_pair 52 = .ok (.ishl, 1) := by decide +kernel
theorem dX6_pair_53 : decode cX6_pair 53 = .ok (.iconst 1, 1) := by decide +kernel
theorem dX6_pair_54 : decode cX6_pair 54 = .ok (.iload_n 2, 1) := by decide +kernel
theorem dX6_pair_55 : decode cX6_pair 55 = .ok (.bipush 10, 2) := by decide +kernel
theorem dX6_pair_57 : decode cX6_pair 57 = .ok (.irem, 1) := by decide +kernel
theorem dX6_pair_58 : decode cX6_pair 58 = .ok (.ishl, 1) := by decide +kernel
theorem dX6_pair_59 : decode cX6_pair 59 = .ok (.ior, 1) := by decide +kernel
theorem dX6_pair_60 : decode cX6_pair 60 = .ok (.iconst (-1), 1) := by decide +kernel
theorem dX6_pair_61 : decode cX6_pair 61 = .ok (.ixor, 1) := by decide +kernel
theorem dX6_pair_62 : decode cX6_pair 62 = .ok (.iand, 1) := by decide +kernel
theorem dX6_pair_63 : decode cX6_pair 63 = .ok (.invokevirtual 268, 3) := by decide +kernel
theorem dX6_pair_66 : decode cX6_pair 66 = .ok (.ireturn, 1) := by decide +kernel
theorem dX6_under_0 : decode cX6_under 0 = .ok (.iload_n 1, 1) := by decide +kernel
theorem dX6_under_1 : decode cX6_under 1 = .ok (.sipush 999, 3) := by decide +kernel
theorem dX6_under_4 : decode cX6_under 4 = .ok (.invokestatic 55, 3) := by decide +kernel
theorem dX6_under_7 : decode cX6_under 7 = .ok (.ifCond .eq 14, 3) := by decide +kernel
theorem dX6_under_10 : decode cX6_under 10 = .ok (.aload_n 0, 1) := by decide +kernel
theorem dX6_under_11 : decode cX6_under 11 = .ok (.getfield 10, 3) := by decide +kernel
theorem dX6_under_14 : decode cX6_under 14 = .ok (.iload_n 1, 1) := by decide +kernel
theorem dX6_under_15 : decode cX6_under 15 = .ok (.invokestatic 299, 3) := by decide +kernel
theorem dX6_under_18 : decode cX6_under 18 = .ok (.goto 9, 3) := by decide +kernel
theorem dX6_under_21 : decode cX6_under 21 = .ok (.aload_n 0, 1) := by decide +kernel
theorem dX6_under_22 : decode cX6_under 22 = .ok (.bipush (-2), 2) := by decide +kernel
theorem dX6_under_24 : decode cX6_under 24 = .ok (.invokevirtual 59, 3) := by decide +kernel
theorem dX6_under_27 : decode cX6_under 27 = .ok (.ireturn, 1) := by decide +kernel
theorem dX6_pillar_0 : decode cX6_pillar 0 = .ok (.aload_n 0, 1) := by decide +kernel
theorem dX6_pillar_1 : decode cX6_pillar 1 = .ok (.getfield 10, 3) := by decide +kernel
theorem dX6_pillar_4 : decode cX6_pillar 4 = .ok (.aload_n 0, 1) := by decide +kernel
theorem dX6_pillar_5 : decode cX6_pillar 5 = .ok (.getfield 10, 3) := by decide +kernel
theorem dX6_pillar_8 : decode cX6_pillar 8 = .ok (.aload_n 0, 1) := by decide +kernel
theorem dX6_pillar_9 : decode cX6_pillar 9 = .ok (.getfield 10, 3) := by decide +kernel
theorem dX6_pillar_12 : decode cX6_pillar 12 = .ok (.getfield 202, 3) := by decide +kernel
theorem dX6_pillar_15 : decode cX6_pillar 15 = .ok (.invokevirtual 205, 3) := by decide +kernel
theorem dX6_pillar_18 : decode cX6_pillar 18 = .ok (.invokestatic 265, 3) := by decide +kernel
theorem dX6_pillar_21 : decode cX6_pillar 21 = .ok (.ireturn, 1) := by decide +kernel
theorem dX6_ways_0 : decode cX6_ways 0 = .ok (.aload_n 0, 1) := by decide +kernel
theorem dX6_ways_1 : decode cX6_ways 1 = .ok (.getfield 10, 3) := by decide +kernel
theorem dX6_ways_4 : decode cX6_ways 4 = .ok (.iload_n 1, 1) := by decide +kernel
theorem dX6_ways_5 : decode cX6_ways 5 = .ok (.invokevirtual 223, 3) := by decide +kernel
theorem dX6_ways_8 : decode cX6_ways 8 = .ok (.ifCond .eq 14, 3) := by decide +kernel
theorem dX6_ways_11 : decode cX6_ways 11 = .ok (.aload_n 0, 1) := by decide +kernel
theorem dX6_ways_12 : decode cX6_ways 12 = .ok (.getfield 10, 3) := by decide +kernel
theorem dX6_ways_15 : decode cX6_ways 15 = .ok (.iload_n 1, 1) := by decide +kernel
theorem dX6_ways_16 : decode cX6_ways 16 = .ok (.invokestatic 302, 3) := by decide +kernel
theorem dX6_ways_19 : decode cX6_ways 19 = .ok (.goto 9, 3) := by decide +kernel
theorem dX6_ways_22 : decode cX6_ways 22 = .ok (.aload_n 0, 1) := by decide +kernel
theorem dX6_ways_23 : decode cX6_ways 23 = .ok (.bipush (-2), 2) := by decide +kernel
theorem dX6_ways_25 : decode cX6_ways 25 = .ok (.invokevirtual 59, 3) := by decide +kernel
theorem dX6_ways_28 : decode cX6_ways 28 = .ok (.ireturn, 1) := by decide +kernel
theorem dX6_oldest_0 : decode cX6_oldest 0 = .ok (.iload_n 1, 1) := by decide +kernel
theorem dX6_oldest_1 : decode cX6_oldest 1 = .ok (.iconst 1, 1) := by decide +kernel
theorem dX6_oldest_2 : decode cX6_oldest 2 = .ok (.invokestatic 55, 3) := by decide +kernel
theorem dX6_oldest_5 : decode cX6_oldest 5 = .ok (.ifCond .eq 22, 3) := by decide +kernel
theorem dX6_oldest_8 : decode cX6_oldest 8 = .ok (.aload_n 0, 1) := by decide +kernel
theorem dX6_oldest_9 : decode cX6_oldest 9 = .ok (.getfield 10, 3) := by decide +kernel
theorem dX6_oldest_12 : decode cX6_oldest 12 = .ok (.iload_n 1, 1) := by decide +kernel
theorem dX6_oldest_13 : decode cX6_oldest 13 = .ok (.ifCond .ne 7, 3) := by decide +kernel
theorem dX6_oldest_16 : decode cX6_oldest 16 = .ok (.iconst 1, 1) := by decide +kernel
theorem dX6_oldest_17 : decode cX6_oldest 17 = .ok (.goto 4, 3) := by decide +kernel
theorem dX6_oldest_20 : decode cX6_oldest 20 = .ok (.iconst 0, 1) := by decide +kernel
theorem dX6_oldest_21 : decode cX6_oldest 21 = .ok (.invokevirtual 305, 3) := by decide +kernel
theorem dX6_oldest_24 : decode cX6_oldest 24 = .ok (.goto 9, 3) := by decide +kernel
theorem dX6_oldest_27 : decode cX6_oldest 27 = .ok (.aload_n 0, 1) := by decide +kernel
theorem dX6_oldest_28 : decode cX6_oldest 28 = .ok (.bipush (-2), 2) := by decide +kernel
theorem dX6_oldest_30 : decode cX6_oldest 30 = .ok (.invokevirtual 59, 3) := by decide +kernel
theorem dX6_oldest_33 : decode cX6_oldest 33 = .ok (.ireturn, 1) := by decide +kernel
theorem dX6_free_0 : decode cX6_free 0 = .ok (.aload_n 0, 1) := by decide +kernel
theorem dX6_free_1 : decode cX6_free 1 = .ok (.getfield 10, 3) := by decide +kernel
theorem dX6_free_4 : decode cX6_free 4 = .ok (.iload_n 1, 1) := by decide +kernel
theorem dX6_free_5 : decode cX6_free 5 = .ok (.invokevirtual 146, 3) := by decide +kernel
theorem dX6_free_8 : decode cX6_free 8 = .ok (.ifCond .ne 10, 3) := by decide +kernel
theorem dX6_free_11 : decode cX6_free 11 = .ok (.aload_n 0, 1) := by decide +kernel
theorem dX6_free_12 : decode cX6_free 12 = .ok (.bipush (-2), 2) := by decide +kernel
theorem dX6_free_14 : decode cX6_free 14 = .ok (.invokevirtual 59, 3) := by decide +kernel
theorem dX6_free_17 : decode cX6_free 17 = .ok (.ireturn, 1) := by decide +kernel
theorem dX6_free_18 : decode cX6_free 18 = .ok (.aload_n 0, 1) := by decide +kernel
theorem dX6_free_19 : decode cX6_free 19 = .ok (.getfield 10, 3) := by decide +kernel
theorem dX6_free_22 : decode cX6_free 22 = .ok (.iload_n 1, 1) := by decide +kernel
theorem dX6_free_23 : decode cX6_free 23 = .ok (.invokevirtual 149, 3) := by decide +kernel
theorem dX6_free_26 : decode cX6_free 26 = .ok (.istore_n 2, 1) := by decide +kernel
theorem dX6_free_27 : decode cX6_free 27 = .ok (.aload_n 0, 1) := by decide +kernel
theorem dX6_free_28 : decode cX6_free 28 = .ok (.getfield 10, 3) := by decide +kernel
theorem dX6_free_31 : decode cX6_free 31 = .ok (.iload_n 1, 1) := by decide +kernel
theorem dX6_free_32 : decode cX6_free 32 = .ok (.invokevirtual 309, 3) := by decide +kernel
theorem dX6_free_35 : decode cX6_free 35 = .ok (.iload_n 2, 1) := by decide +kernel
theorem dX6_free_36 : decode cX6_free 36 = .ok (.ireturn, 1) := by decide +kernel
theorem dX6_once_0 : decode cX6_once 0 = .ok (.aload_n 0, 1) := by decide +kernel
theorem dX6_once_1 : decode cX6_once 1 = .ok (.getfield 10, 3) := by decide +kernel
theorem dX6_once_4 : decode cX6_once 4 = .ok (.getfield 98, 3) := by decide +kernel
theorem dX6_once_7 : decode cX6_once 7 = .ok (.iload_n 1, 1) := by decide +kernel
theorem dX6_once_8 : decode cX6_once 8 = .ok (.invokevirtual 196, 3) := by decide +kernel
theorem dX6_once_11 : decode cX6_once 11 = .ok (.ifCond .ne 10, 3) := by decide +kernel
theorem dX6_once_14 : decode cX6_once 14 = .ok (.aload_n 0, 1) := by decide +kernel
theorem dX6_once_15 : decode cX6_once 15 = .ok (.bipush (-2), 2) := by decide +kernel
theorem dX6_once_17 : decode cX6_once 17 = .ok (.invokevirtual 59, 3) := by decide +kernel
theorem dX6_once_20 : decode cX6_once 20 = .ok (.ireturn, 1) := by decide +kernel
theorem dX6_once_21 : decode cX6_once 21 = .ok (.aload_n 0, 1) := by decide +kernel
theorem dX6_once_22 : decode cX6_once 22 = .ok (.getfield 10, 3) := by decide +kernel
theorem dX6_once_25 : decode cX6_once 25 = .ok (.getfield 98, 3) := by decide +kernel
theorem dX6_once_28 : decode cX6_once 28 = .ok (.iload_n 1, 1) := by decide +kernel
theorem dX6_once_29 : decode cX6_once 29 = .ok (.aload_n 0, 1) := by decide +kernel
theorem dX6_once_30 : decode cX6_once 30 = .ok (.getfield 10, 3) := by decide +kernel
theorem dX6_once_33 : decode cX6_once 33 = .ok (.getfield 123, 3) := by decide +kernel
theorem dX6_once_36 : decode cX6_once 36 = .ok (.invokevirtual 313, 3) := by decide +kernel
theorem dX6_once_39 : decode cX6_once 39 = .ok (.ireturn, 1) := by decide +kernel
theorem dX6_soon_0 : decode cX6_soon 0 = .ok (.aload_n 0, 1) := by decide +kernel
theorem dX6_soon_1 : decode cX6_soon 1 = .ok (.getfield 10, 3) := by decide +kernel
theorem dX6_soon_4 : decode cX6_soon 4 = .ok (.iload_n 1, 1) := by decide +kernel
theorem dX6_soon_5 : decode cX6_soon 5 = .ok (.invokevirtual 146, 3) := by decide +kernel
theorem dX6_soon_8 : decode cX6_soon 8 = .ok (.ifCond .eq 16, 3) := by decide +kernel
theorem dX6_soon_11 : decode cX6_soon 11 = .ok (.aload_n 0, 1) := by decide +kernel
theorem dX6_soon_12 : decode cX6_soon 12 = .ok (.getfield 10, 3) := by decide +kernel
theorem dX6_soon_15 : decode cX6_soon 15 = .ok (.iconst 1, 1) := by decide +kernel
theorem dX6_soon_16 : decode cX6_soon 16 = .ok (.iload_n 1, 1) := by decide +kernel
theorem dX6_soon_17 : decode cX6_soon 17 = .ok (.ishl, 1) := by decide +kernel
theorem dX6_soon_18 : decode cX6_soon 18 = .ok (.invokevirtual 235, 3) := by decide +kernel
theorem dX6_soon_21 : decode cX6_soon 21 = .ok (.goto 9, 3) := by decide +kernel
theorem dX6_soon_24 : decode cX6_soon 24 = .ok (.aload_n 0, 1) := by decide +kernel
theorem dX6_soon_25 : decode cX6_soon 25 = .ok (.bipush (-2), 2) := by decide +kernel
theorem dX6_soon_27 : decode cX6_soon 27 = .ok (.invokevirtual 59, 3) := by decide +kernel
theorem dX6_soon_30 : decode cX6_soon 30 = .ok (.ireturn, 1) := by decide +kernel
theorem dX6_inWeather_0 : decode cX6_inWeather 0 = .ok (.iload_n 1, 1) := by decide +kernel
theorem dX6_inWeather_1 : decode cX6_inWeather 1 = .ok (.iconst 3, 1) := by decide +kernel
theorem dX6_inWeather_2 : decode cX6_inWeather 2 = .ok (.invokestatic 55, 3) := by decide +kernel
theorem dX6_inWeather_5 : decode cX6_inWeather 5 = .ok (.ifCond .eq 14, 3) := by decide +kernel
theorem dX6_inWeather_8 : decode cX6_inWeather 8 = .ok (.aload_n 0, 1) := by decide +kernel
theorem dX6_inWeather_9 : decode cX6_inWeather 9 = .ok (.getfield 10, 3) := by decide +kernel
theorem dX6_inWeather_12 : decode cX6_inWeather 12 = .ok (.iload_n 1, 1) := by decide +kernel
theorem dX6_inWeather_13 : decode cX6_inWeather 13 = .ok (.invokevirtual 316, 3) := by decide +kernel
theorem dX6_inWeather_16 : decode cX6_inWeather 16 = .ok (.goto 9, 3) := by decide +kernel
theorem dX6_inWeather_19 : decode cX6_inWeather 19 = .ok (.aload_n 0, 1) := by decide +kernel
theorem dX6_inWeather_20 : decode cX6_inWeather 20 = .ok (.bipush (-2), 2) := by decide +kernel
theorem dX6_inWeather_22 : decode cX6_inWeather 22 = .ok (.invokevirtual 59, 3) := by decide +kernel
theorem dX6_inWeather_25 : decode cX6_inWeather 25 = .ok (.ireturn, 1) := by decide +kernel
theorem dX6_chain_0 : decode cX6_chain 0 = .ok (.aload_n 0, 1) := by decide +kernel
theorem dX6_chain_1 : decode cX6_chain 1 = .ok (.getfield 10, 3) := by decide +kernel
theorem dX6_chain_4 : decode cX6_chain 4 = .ok (.iload_n 1, 1) := by decide +kernel
theorem dX6_chain_5 : decode cX6_chain 5 = .ok (.invokevirtual 146, 3) := by decide +kernel
theorem dX6_chain_8 : decode cX6_chain 8 = .ok (.ifCond .eq 14, 3) := by decide +kernel
theorem dX6_chain_11 : decode cX6_chain 11 = .ok (.aload_n 0, 1) := by decide +kernel
theorem dX6_chain_12 : decode cX6_chain 12 = .ok (.getfield 10, 3) := by decide +kernel
theorem dX6_chain_15 : decode cX6_chain 15 = .ok (.iload_n 1, 1) := by decide +kernel
theorem dX6_chain_16 : decode cX6_chain 16 = .ok (.invokevirtual 319, 3) := by decide +kernel
theorem dX6_chain_19 : decode cX6_chain 19 = .ok (.goto 9, 3) := by decide +kernel
theorem dX6_chain_22 : decode cX6_chain 22 = .ok (.aload_n 0, 1) := by decide +kernel
theorem dX6_chain_23 : decode cX6_chain 23 = .ok (.bipush (-2), 2) := by decide +kernel
theorem dX6_chain_25 : decode cX6_chain 25 = .ok (.invokevirtual 59, 3) := by decide +kernel
theorem dX6_chain_28 : decode cX6_chain 28 = .ok (.ireturn, 1) := by decide +kernel
theorem dX6_alone_0 : decode cX6_alone 0 = .ok (.aload_n 0, 1) := by decide +kernel
theorem dX6_alone_1 : decode cX6_alone 1 = .ok (.getfield 10, 3) := by decide +kernel
theorem dX6_alone_4 : decode cX6_alone 4 = .ok (.iload_n 1, 1) := by decide +kernel
theorem dX6_alone_5 : decode cX6_alone 5 = .ok (.invokevirtual 146, 3) := by decide +kernel
theorem dX6_alone_8 : decode cX6_alone 8 = .ok (.ifCond .ne 10, 3) := by decide +kernel
theorem dX6_alone_11 : decode cX6_alone 11 = .ok (.aload_n 0, 1) := by decide +kernel
theorem dX6_alone_12 : decode cX6_alone 12 = .ok (.bipush (-2), 2) := by decide +kernel
theorem dX6_alone_14 : decode cX6_alone 14 = .ok (.invokevirtual 59, 3) := by decide +kernel
theorem dX6_alone_17 : decode cX6_alone 17 = .ok (.ireturn, 1) := by decide +kernel
theorem dX6_alone_18 : decode cX6_alone 18 = .ok (.aload_n 0, 1) := by decide +kernel
theorem dX6_alone_19 : decode cX6_alone 19 = .ok (.getfield 10, 3) := by decide +kernel
theorem dX6_alone_22 : decode cX6_alone 22 = .ok (.iload_n 1, 1) := by decide +kernel
theorem dX6_alone_23 : decode cX6_alone 23 = .ok (.invokevirtual 214, 3) := by decide +kernel
theorem dX6_alone_26 : decode cX6_alone 26 = .ok (.iconst 1, 1) := by decide +kernel
theorem dX6_alone_27 : decode cX6_alone 27 = .ok (.iload_n 1, 1) := by decide +kernel
theorem dX6_alone_28 : decode cX6_alone 28 = .ok (.ishl, 1) := by decide +kernel
theorem dX6_alone_29 : decode cX6_alone 29 = .ok (.iconst (-1), 1) := by decide +kernel
theorem dX6_alone_30 : decode cX6_alone 30 = .ok (.ixor, 1) := by decide +kernel
theorem dX6_alone_31 : decode cX6_alone 31 = .ok (.iand, 1) := by decide +kernel
theorem dX6_alone_32 : decode cX6_alone 32 = .ok (.ifCond .ne 7, 3) := by decide +kernel
theorem dX6_alone_35 : decode cX6_alone 35 = .ok (.iconst 1, 1) := by decide +kernel
theorem dX6_alone_36 : decode cX6_alone 36 = .ok (.goto 4, 3) := by decide +kernel
theorem dX6_alone_39 : decode cX6_alone 39 = .ok (.iconst 0, 1) := by decide +kernel
theorem dX6_alone_40 : decode cX6_alone 40 = .ok (.ireturn, 1) := by decide +kernel
theorem dX6_ofKind_0 : decode cX6_ofKind 0 = .ok (.iload_n 1, 1) := by decide +kernel
theorem dX6_ofKind_1 : decode cX6_ofKind 1 = .ok (.iconst 5, 1) := by decide +kernel
theorem dX6_ofKind_2 : decode cX6_ofKind 2 = .ok (.invokestatic 55, 3) := by decide +kernel
theorem dX6_ofKind_5 : decode cX6_ofKind 5 = .ok (.ifCond .eq 17, 3) := by decide +kernel
theorem dX6_ofKind_8 : decode cX6_ofKind 8 = .ok (.aload_n 0, 1) := by decide +kernel
theorem dX6_ofKind_9 : decode cX6_ofKind 9 = .ok (.getfield 10, 3) := by decide +kernel
theorem dX6_ofKind_12 : decode cX6_ofKind 12 = .ok (.getfield 98, 3) := by decide +kernel
theorem dX6_ofKind_15 : decode cX6_ofKind 15 = .ok (.iload_n 1, 1) := by decide +kernel
theorem dX6_ofKind_16 : decode cX6_ofKind 16 = .ok (.invokevirtual 322, 3) := by decide +kernel
theorem dX6_ofKind_19 : decode cX6_ofKind 19 = .ok (.goto 9, 3) := by decide +kernel
theorem dX6_ofKind_22 : decode cX6_ofKind 22 = .ok (.aload_n 0, 1) := by decide +kernel
theorem dX6_ofKind_23 : decode cX6_ofKind 23 = .ok (.bipush (-2), 2) := by decide +kernel
theorem dX6_ofKind_25 : decode cX6_ofKind 25 = .ok (.invokevirtual 59, 3) := by decide +kernel
theorem dX6_ofKind_28 : decode cX6_ofKind 28 = .ok (.ireturn, 1) := by decide +kernel
theorem dX6_judge_0 : decode cX6_judge 0 = .ok (.aload_n 0, 1) := by decide +kernel
theorem dX6_judge_1 : decode cX6_judge 1 = .ok (.iload_n 1, 1) := by decide +kernel
theorem dX6_judge_2 : decode cX6_judge 2 = .ok (.iload_n 2, 1) := by decide +kernel
theorem dX6_judge_3 : decode cX6_judge 3 = .ok (.invokevirtual 325, 3) := by decide +kernel
theorem dX6_judge_6 : decode cX6_judge 6 = .ok (.istore_n 3, 1) := by decide +kernel
theorem dX6_judge_7 : decode cX6_judge 7 = .ok (.iload_n 3, 1) := by decide +kernel
theorem dX6_judge_8 : decode cX6_judge 8 = .ok (.ifCond .eq 11, 3) := by decide +kernel
theorem dX6_judge_11 : decode cX6_judge 11 = .ok (.aload_n 0, 1) := by decide +kernel
theorem dX6_judge_12 : decode cX6_judge 12 = .ok (.iload_n 3, 1) := by decide +kernel
theorem dX6_judge_13 : decode cX6_judge 13 = .ok (.invokevirtual 59, 3) := by decide +kernel
theorem dX6_judge_16 : decode cX6_judge 16 = .ok (.goto 9, 3) := by decide +kernel
theorem dX6_judge_19 : decode cX6_judge 19 = .ok (.aload_n 0, 1) := by decide +kernel
theorem dX6_judge_20 : decode cX6_judge 20 = .ok (.iload_n 1, 1) := by decide +kernel
theorem dX6_judge_21 : decode cX6_judge 21 = .ok (.iload_n 2, 1) := by decide +kernel
theorem dX6_judge_22 : decode cX6_judge 22 = .ok (.invokevirtual 328, 3) := by decide +kernel
theorem dX6_judge_25 : decode cX6_judge 25 = .ok (.ireturn, 1) := by decide +kernel
theorem dX6_behind_0 : decode cX6_behind 0 = .ok (.iload_n 3, 1) := by decide +kernel
theorem dX6_behind_1 : decode cX6_behind 1 = .ok (.iconst 1, 1) := by decide +kernel
theorem dX6_behind_2 : decode cX6_behind 2 = .ok (.invokestatic 55, 3) := by decide +kernel
theorem dX6_behind_5 : decode cX6_behind 5 = .ok (.ifCond .eq 12, 3) := by decide +kernel
theorem dX6_behind_8 : decode cX6_behind 8 = .ok (.aload_n 0, 1) := by decide +kernel
theorem dX6_behind_9 : decode cX6_behind 9 = .ok (.iload_n 1, 1) := by decide +kernel
theorem dX6_behind_10 : decode cX6_behind 10 = .ok (.iload_n 2, 1) := by decide +kernel
theorem dX6_behind_11 : decode cX6_behind 11 = .ok (.invokevirtual 325, 3) := by decide +kernel
theorem dX6_behind_14 : decode cX6_behind 14 = .ok (.goto 5, 3) := by decide +kernel
theorem dX6_behind_17 : decode cX6_behind 17 = .ok (.bipush (-2), 2) := by decide +kernel
theorem dX6_behind_19 : decode cX6_behind 19 = .ok (.istore 4, 2) := by decide +kernel
theorem dX6_behind_21 : decode cX6_behind 21 = .ok (.iload 4, 2) := by decide +kernel
theorem dX6_behind_23 : decode cX6_behind 23 = .ok (.ifCond .eq 10, 3) := by decide +kernel
theorem dX6_behind_26 : decode cX6_behind 26 = .ok (.aload_n 0, 1) := by decide +kernel
theorem dX6_behind_27 : decode cX6_behind 27 = .ok (.iload 4, 2) := by decide +kernel
theorem dX6_behind_29 : decode cX6_behind 29 = .ok (.invokevirtual 59, 3) := by decide +kernel
theorem dX6_behind_32 : decode cX6_behind 32 = .ok (.ireturn, 1) := by decide +kernel
theorem dX6_behind_33 : decode cX6_behind 33 = .ok (.aload_n 0, 1) := by decide +kernel
theorem dX6_behind_34 : decode cX6_behind 34 = .ok (.iload_n 1, 1) := by decide +kernel
theorem dX6_behind_35 : decode cX6_behind 35 = .ok (.iload_n 2, 1) := by decide +kernel
theorem dX6_behind_36 : decode cX6_behind 36 = .ok (.invokevirtual 328, 3) := by decide +kernel
theorem dX6_behind_39 : decode cX6_behind 39 = .ok (.iconst (-1), 1) := by decide +kernel
theorem dX6_behind_40 : decode cX6_behind 40 = .ok (.if_icmp .eq 10, 3) := by decide +kernel
theorem dX6_behind_43 : decode cX6_behind 43 = .ok (.aload_n 0, 1) := by decide +kernel
theorem dX6_behind_44 : decode cX6_behind 44 = .ok (.bipush (-5), 2) := by decide +kernel
theorem dX6_behind_46 : decode cX6_behind 46 = .ok (.invokevirtual 59, 3) := by decide +kernel
theorem dX6_behind_49 : decode cX6_behind 49 = .ok (.ireturn, 1) := by decide +kernel
theorem dX6_behind_50 : decode cX6_behind 50 = .ok (.iload_n 3, 1) := by decide +kernel
theorem dX6_behind_51 : decode cX6_behind 51 = .ok (.ifCond .ne 20, 3) := by decide +kernel
theorem dX6_behind_54 : decode cX6_behind 54 = .ok (.aload_n 0, 1) := by decide +kernel
theorem dX6_behind_55 : decode cX6_behind 55 = .ok (.getfield 19, 3) := by decide +kernel
theorem dX6_behind_58 : decode cX6_behind 58 = .ok (.aload_n 0, 1) := by decide +kernel
theorem dX6_behind_59 : decode cX6_behind 59 = .ok (.getfield 19, 3) := by decide +kernel
theorem dX6_behind_62 : decode cX6_behind 62 = .ok (.getfield 202, 3) := by decide +kernel
theorem dX6_behind_65 : decode cX6_behind 65 = .ok (.invokevirtual 205, 3) := by decide +kernel
theorem dX6_behind_68 : decode cX6_behind 68 = .ok (.goto 10, 3) := by decide +kernel
theorem dX6_behind_71 : decode cX6_behind 71 = .ok (.aload_n 0, 1) := by decide +kernel
theorem dX6_behind_72 : decode cX6_behind 72 = .ok (.getfield 19, 3) := by decide +kernel
theorem dX6_behind_75 : decode cX6_behind 75 = .ok (.invokevirtual 208, 3) := by decide +kernel
theorem dX6_behind_78 : decode cX6_behind 78 = .ok (.ireturn, 1) := by decide +kernel
theorem dX6_ring_0 : decode cX6_ring 0 = .ok (.aload_n 0, 1) := by decide +kernel
theorem dX6_ring_1 : decode cX6_ring 1 = .ok (.getfield 10, 3) := by decide +kernel
theorem dX6_ring_4 : decode cX6_ring 4 = .ok (.iload_n 1, 1) := by decide +kernel
theorem dX6_ring_5 : decode cX6_ring 5 = .ok (.invokevirtual 146, 3) := by decide +kernel
theorem dX6_ring_8 : decode cX6_ring 8 = .ok (.ifCond .ne 10, 3) := by decide +kernel
theorem dX6_ring_11 : decode cX6_ring 11 = .ok (.aload_n 0, 1) := by decide +kernel
theorem dX6_ring_12 : decode cX6_ring 12 = .ok (.bipush (-2), 2) := by decide +kernel
theorem dX6_ring_14 : decode cX6_ring 14 = .ok (.invokevirtual 59, 3) := by decide +kernel
theorem dX6_ring_17 : decode cX6_ring 17 = .ok (.ireturn, 1) := by decide +kernel
theorem dX6_ring_18 : decode cX6_ring 18 = .ok (.aload_n 0, 1) := by decide +kernel
theorem dX6_ring_19 : decode cX6_ring 19 = .ok (.getfield 10, 3) := by decide +kernel
theorem dX6_ring_22 : decode cX6_ring 22 = .ok (.iload_n 1, 1) := by decide +kernel
theorem dX6_ring_23 : decode cX6_ring 23 = .ok (.invokevirtual 331, 3) := by decide +kernel
theorem dX6_ring_26 : decode cX6_ring 26 = .ok (.ifCond .ne 10, 3) := by decide +kernel
theorem dX6_ring_29 : decode cX6_ring 29 = .ok (.aload_n 0, 1) := by decide +kernel
theorem dX6_ring_30 : decode cX6_ring 30 = .ok (.bipush (-5), 2) := by decide +kernel
theorem dX6_ring_32 : decode cX6_ring 32 = .ok (.invokevirtual 59, 3) := by decide +kernel
theorem dX6_ring_35 : decode cX6_ring 35 = .ok (.ireturn, 1) := by decide +kernel
theorem dX6_ring_36 : decode cX6_ring 36 = .ok (.aload_n 0, 1) := by decide +kernel
theorem dX6_ring_37 : decode cX6_ring 37 = .ok (.getfield 10, 3) := by decide +kernel
theorem dX6_ring_40 : decode cX6_ring 40 = .ok (.iload_n 1, 1) := by decide +kernel
theorem dX6_ring_41 : decode cX6_ring 41 = .ok (.invokevirtual 334, 3) := by decide +kernel
theorem dX6_ring_44 : decode cX6_ring 44 = .ok (.aload_n 0, 1) := by decide +kernel
theorem dX6_ring_45 : decode cX6_ring 45 = .ok (.getfield 10, 3) := by decide +kernel
theorem dX6_ring_48 : decode cX6_ring 48 = .ok (.invokevirtual 208, 3) := by decide +kernel
theorem dX6_ring_51 : decode cX6_ring 51 = .ok (.ireturn, 1) := by decide +kernel
theorem dX6_day_0 : decode cX6_day 0 = .ok (.aload_n 0, 1) := by decide +kernel
theorem dX6_day_1 : decode cX6_day 1 = .ok (.getfield 10, 3) := by decide +kernel
theorem dX6_day_4 : decode cX6_day 4 = .ok (.invokevirtual 337, 3) := by decide +kernel
theorem dX6_day_7 : decode cX6_day 7 = .ok (.aload_n 0, 1) := by decide +kernel
theorem dX6_day_8 : decode cX6_day 8 = .ok (.getfield 10, 3) := by decide +kernel
theorem dX6_day_11 : decode cX6_day 11 = .ok (.getfield 340, 3) := by decide +kernel
theorem dX6_day_14 : decode cX6_day 14 = .ok (.ireturn, 1) := by decide +kernel
theorem dX6_years_0 : decode cX6_years 0 = .ok (.iload_n 1, 1) := by decide +kernel
theorem dX6_years_1 : decode cX6_years 1 = .ok (.iconst 1, 1) := by decide +kernel
theorem dX6_years_2 : decode cX6_years 2 = .ok (.if_icmp .lt 9, 3) := by decide +kernel
theorem dX6_years_5 : decode cX6_years 5 = .ok (.iload_n 1, 1) := by decide +kernel
theorem dX6_years_6 : decode cX6_years 6 = .ok (.bipush 60, 2) := by decide +kernel
theorem dX6_years_8 : decode cX6_years 8 = .ok (.if_icmp .le 10, 3) := by decide +kernel
theorem dX6_years_11 : decode cX6_years 11 = .ok (.aload_n 0, 1) := by decide +kernel
theorem dX6_years_12 : decode cX6_years 12 = .ok (.bipush (-2), 2) := by decide +kernel
theorem dX6_years_14 : decode cX6_years 14 = .ok (.invokevirtual 59, 3) := by decide +kernel
theorem dX6_years_17 : decode cX6_years 17 = .ok (.ireturn, 1) := by decide +kernel
theorem dX6_years_18 : decode cX6_years 18 = .ok (.aload_n 0, 1) := by decide +kernel
theorem dX6_years_19 : decode cX6_years 19 = .ok (.getfield 10, 3) := by decide +kernel
theorem dX6_years_22 : decode cX6_years 22 = .ok (.getfield 343, 3) := by decide +kernel
theorem dX6_years_25 : decode cX6_years 25 = .ok (.ifCond .ne 10, 3) := by decide +kernel
theorem dX6_years_28 : decode cX6_years 28 = .ok (.aload_n 0, 1) := by decide +kernel
theorem dX6_years_29 : decode cX6_years 29 = .ok (.bipush (-5), 2) := by decide +kernel
theorem dX6_years_31 : decode cX6_years 31 = .ok (.invokevirtual 59, 3) := by decide +kernel
theorem dX6_years_34 : decode cX6_years 34 = .ok (.ireturn, 1) := by decide +kernel
theorem dX6_years_35 : decode cX6_years 35 = .ok (.iconst 0, 1) := by decide +kernel
theorem dX6_years_36 : decode cX6_years 36 = .ok (.istore_n 2, 1) := by decide +kernel
theorem dX6_years_37 : decode cX6_years 37 = .ok (.iconst 0, 1) := by decide +kernel
theorem dX6_years_38 : decode cX6_years 38 = .ok (.istore_n 3, 1) := by decide +kernel
theorem dX6_years_39 : decode cX6_years 39 = .ok (.iload_n 3, 1) := by decide +kernel
theorem dX6_years_40 : decode cX6_years 40 = .ok (.iload_n 1, 1) := by decide +kernel
theorem dX6_years_41 : decode cX6_years 41 = .ok (.if_icmp .ge 19, 3) := by decide +kernel
theorem dX6_years_44 : decode cX6_years 44 = .ok (.iload_n 2, 1) := by decide +kernel
theorem dX6_years_45 : decode cX6_years 45 = .ok (.aload_n 0, 1) := by decide +kernel
theorem dX6_years_46 : decode cX6_years 46 = .ok (.getfield 10, 3) := by decide +kernel
theorem dX6_years_49 : decode cX6_years 49 = .ok (.invokevirtual 346, 3) := by decide +kernel
theorem dX6_years_52 : decode cX6_years 52 = .ok (.iadd, 1) := by decide +kernel
theorem dX6_years_53 : decode cX6_years 53 = .ok (.istore_n 2, 1) := by decide +kernel
theorem dX6_years_54 : decode cX6_years 54 = .ok (.iinc 3 1, 3) := by decide +kernel
theorem dX6_years_57 : decode cX6_years 57 = .ok (.goto (-18), 3) := by decide +kernel
theorem dX6_years_60 : decode cX6_years 60 = .ok (.iload_n 2, 1) := by decide +kernel
theorem dX6_years_61 : decode cX6_years 61 = .ok (.ireturn, 1) := by decide +kernel
theorem dX6_seed_0 : decode cX6_seed 0 = .ok (.aload_n 0, 1) := by decide +kernel
theorem dX6_seed_1 : decode cX6_seed 1 = .ok (.getfield 10, 3) := by decide +kernel
theorem dX6_seed_4 : decode cX6_seed 4 = .ok (.getfield 349, 3) := by decide +kernel
theorem dX6_seed_7 : decode cX6_seed 7 = .ok (.istore_n 2, 1) := by decide +kernel
theorem dX6_seed_8 : decode cX6_seed 8 = .ok (.aload_n 0, 1) := by decide +kernel
theorem dX6_seed_9 : decode cX6_seed 9 = .ok (.getfield 10, 3) := by decide +kernel
theorem dX6_seed_12 : decode cX6_seed 12 = .ok (.iload_n 1, 1) := by decide +kernel
theorem dX6_seed_13 : decode cX6_seed 13 = .ok (.putfield 349, 3) := by decide +kernel
theorem dX6_seed_16 : decode cX6_seed 16 = .ok (.iload_n 2, 1) := by decide +kernel
theorem dX6_seed_17 : decode cX6_seed 17 = .ok (.ireturn, 1) := by decide +kernel
theorem dX6_image_0 : decode cX6_image 0 = .ok (.aload_n 0, 1) := by decide +kernel
theorem dX6_image_1 : decode cX6_image 1 = .ok (.getfield 16, 3) := by decide +kernel
theorem dX6_image_4 : decode cX6_image 4 = .ok (.aload_n 0, 1) := by decide +kernel
theorem dX6_image_5 : decode cX6_image 5 = .ok (.getfield 10, 3) := by decide +kernel
theorem dX6_image_8 : decode cX6_image 8 = .ok (.invokevirtual 182, 3) := by decide +kernel
theorem dX6_image_11 : decode cX6_image 11 = .ok (.aload_n 0, 1) := by decide +kernel
theorem dX6_image_12 : decode cX6_image 12 = .ok (.iconst 1, 1) := by decide +kernel
theorem dX6_image_13 : decode cX6_image 13 = .ok (.putfield 47, 3) := by decide +kernel
theorem dX6_image_16 : decode cX6_image 16 = .ok (.iconst 1, 1) := by decide +kernel
theorem dX6_image_17 : decode cX6_image 17 = .ok (.ireturn, 1) := by decide +kernel
theorem dX6_back_0 : decode cX6_back 0 = .ok (.aload_n 0, 1) := by decide +kernel
theorem dX6_back_1 : decode cX6_back 1 = .ok (.getfield 47, 3) := by decide +kernel
theorem dX6_back_4 : decode cX6_back 4 = .ok (.ifCond .ne 10, 3) := by decide +kernel
theorem dX6_back_7 : decode cX6_back 7 = .ok (.aload_n 0, 1) := by decide +kernel
theorem dX6_back_8 : decode cX6_back 8 = .ok (.bipush (-5), 2) := by decide +kernel
theorem dX6_back_10 : decode cX6_back 10 = .ok (.invokevirtual 59, 3) := by decide +kernel
theorem dX6_back_13 : decode cX6_back 13 = .ok (.ireturn, 1) := by decide +kernel
theorem dX6_back_14 : decode cX6_back 14 = .ok (.aload_n 0, 1) := by decide +kernel
theorem dX6_back_15 : decode cX6_back 15 = .ok (.getfield 10, 3) := by decide +kernel
theorem dX6_back_18 : decode cX6_back 18 = .ok (.aload_n 0, 1) := by decide +kernel
theorem dX6_back_19 : decode cX6_back 19 = .ok (.getfield 16, 3) := by decide +kernel
theorem dX6_back_22 : decode cX6_back 22 = .ok (.invokevirtual 182, 3) := by decide +kernel
theorem dX6_back_25 : decode cX6_back 25 = .ok (.aload_n 0, 1) := by decide +kernel
theorem dX6_back_26 : decode cX6_back 26 = .ok (.getfield 25, 3) := by decide +kernel
theorem dX6_back_29 : decode cX6_back 29 = .ok (.aload_n 0, 1) := by decide +kernel
theorem dX6_back_30 : decode cX6_back 30 = .ok (.getfield 10, 3) := by decide +kernel
theorem dX6_back_33 : decode cX6_back 33 = .ok (.getfield 98, 3) := by decide +kernel
theorem dX6_back_36 : decode cX6_back 36 = .ok (.getfield 352, 3) := by decide +kernel
theorem dX6_back_39 : decode cX6_back 39 = .ok (.invokevirtual 355, 3) := by decide +kernel
theorem dX6_back_42 : decode cX6_back 42 = .ok (.iconst 1, 1) := by decide +kernel
theorem dX6_back_43 : decode cX6_back 43 = .ok (.ireturn, 1) := by decide +kernel
theorem dX6_status_0 : decode cX6_status 0 = .ok (.iload_n 1, 1) := by decide +kernel
theorem dX6_status_1 : decode cX6_status 1 = .ok (.tableswitch 126 0 8 #[51, 59, 70, 78, 86, 94, 102, 110, 118], 51) := by decide +kernel
theorem dX6_status_52 : decode cX6_status 52 = .ok (.aload_n 0, 1) := by decide +kernel
theorem dX6_status_53 : decode cX6_status 53 = .ok (.getfield 10, 3) := by decide +kernel
theorem dX6_status_56 : decode cX6_status 56 = .ok (.getfield 343, 3) := by decide +kernel
theorem dX6_status_59 : decode cX6_status 59 = .ok (.ireturn, 1) := by decide +kernel
theorem dX6_status_60 : decode cX6_status 60 = .ok (.aload_n 0, 1) := by decide +kernel
theorem dX6_status_61 : decode cX6_status 61 = .ok (.getfield 10, 3) := by decide +kernel
theorem dX6_status_64 : decode cX6_status 64 = .ok (.getfield 98, 3) := by decide +kernel
theorem dX6_status_67 : decode cX6_status 67 = .ok (.getfield 352, 3) := by decide +kernel
theorem dX6_status_70 : decode cX6_status 70 = .ok (.ireturn, 1) := by decide +kernel
theorem dX6_status_71 : decode cX6_status 71 = .ok (.aload_n 0, 1) := by decide +kernel
theorem dX6_status_72 : decode cX6_status 72 = .ok (.getfield 10, 3) := by decide +kernel
theorem dX6_status_75 : decode cX6_status 75 = .ok (.getfield 340, 3) := by decide +kernel
theorem dX6_status_78 : decode cX6_status 78 = .ok (.ireturn, 1) := by decide +kernel
theorem dX6_status_79 : decode cX6_status 79 = .ok (.aload_n 0, 1) := by decide +kernel
theorem dX6_status_80 : decode cX6_status 80 = .ok (.getfield 10, 3) := by decide +kernel
theorem dX6_status_83 : decode cX6_status 83 = .ok (.getfield 358, 3) := by decide +kernel
theorem dX6_status_86 : decode cX6_status 86 = .ok (.ireturn, 1) := by decide +kernel
theorem dX6_status_87 : decode cX6_status 87 = .ok (.aload_n 0, 1) := by decide +kernel
theorem dX6_status_88 : decode cX6_status 88 = .ok (.getfield 10, 3) := by decide +kernel
theorem dX6_status_91 : decode cX6_status 91 = .ok (.getfield 123, 3) := by decide +kernel
theorem dX6_status_94 : decode cX6_status 94 = .ok (.ireturn, 1) := by decide +kernel
theorem dX6_status_95 : decode cX6_status 95 = .ok (.aload_n 0, 1) := by decide +kernel
theorem dX6_status_96 : decode cX6_status 96 = .ok (.getfield 10, 3) := by decide +kernel
theorem dX6_status_99 : decode cX6_status 99 = .ok (.invokevirtual 208, 3) := by decide +kernel
theorem dX6_status_102 : decode cX6_status 102 = .ok (.ireturn, 1) := by decide +kernel
theorem dX6_status_103 : decode cX6_status 103 = .ok (.aload_n 0, 1) := by decide +kernel
theorem dX6_status_104 : decode cX6_status 104 = .ok (.getfield 32, 3) := by decide +kernel
theorem dX6_status_107 : decode cX6_status 107 = .ok (.getfield 361, 3) := by decide +kernel
theorem dX6_status_110 : decode cX6_status 110 = .ok (.ireturn, 1) := by decide +kernel
theorem dX6_status_111 : decode cX6_status 111 = .ok (.aload_n 0, 1) := by decide +kernel
theorem dX6_status_112 : decode cX6_status 112 = .ok (.getfield 10, 3) := by decide +kernel
theorem dX6_status_115 : decode cX6_status 115 = .ok (.getfield 349, 3) := by decide +kernel
theorem dX6_status_118 : decode cX6_status 118 = .ok (.ireturn, 1) := by decide +kernel
theorem dX6_status_119 : decode cX6_status 119 = .ok (.aload_n 0, 1) := by decide +kernel
theorem dX6_status_120 : decode cX6_status 120 = .ok (.getfield 25, 3) := by decide +kernel
theorem dX6_status_123 : decode cX6_status 123 = .ok (.invokevirtual 364, 3) := by decide +kernel
theorem dX6_status_126 : decode cX6_status 126 = .ok (.ireturn, 1) := by decide +kernel
theorem dX6_status_127 : decode cX6_status 127 = .ok (.iload_n 1, 1) := by decide +kernel
theorem dX6_status_128 : decode cX6_status 128 = .ok (.bipush 12, 2) := by decide +kernel
theorem dX6_status_130 : decode cX6_status 130 = .ok (.if_icmp .lt 23, 3) := by decide +kernel
theorem dX6_status_133 : decode cX6_status 133 = .ok (.iload_n 1, 1) := by decide +kernel
theorem dX6_status_134 : decode cX6_status 134 = .ok (.bipush 16, 2) := by decide +kernel
theorem dX6_status_136 : decode cX6_status 136 = .ok (.if_icmp .gt 17, 3) := by decide +kernel
theorem dX6_status_139 : decode cX6_status 139 = .ok (.aload_n 0, 1) := by decide +kernel
theorem dX6_status_140 : decode cX6_status 140 = .ok (.getfield 43, 3) := by decide +kernel
theorem dX6_status_143 : decode cX6_status 143 = .ok (.iload_n 1, 1) := by decide +kernel
theorem dX6_status_144 : decode cX6_status 144 = .ok (.bipush 12, 2) := by decide +kernel
theorem dX6_status_146 : decode cX6_status 146 = .ok (.isub, 1) := by decide +kernel
theorem dX6_status_147 : decode cX6_status 147 = .ok (.invokestatic 367, 3) := by decide +kernel
theorem dX6_status_150 : decode cX6_status 150 = .ok (.goto 4, 3) := by decide +kernel
theorem dX6_status_153 : decode cX6_status 153 = .ok (.iconst (-1), 1) := by decide +kernel
theorem dX6_status_154 : decode cX6_status 154 = .ok (.ireturn, 1) := by decide +kernel
theorem dX6_refuse_0 : decode cX6_refuse 0 = .ok (.bipush (-2), 2) := by decide +kernel
theorem dX6_refuse_2 : decode cX6_refuse 2 = .ok (.iload_n 1, 1) := by decide +kernel
theorem dX6_refuse_3 : decode cX6_refuse 3 = .ok (.isub, 1) := by decide +kernel
theorem dX6_refuse_4 : decode cX6_refuse 4 = .ok (.istore_n 2, 1) := by decide +kernel
theorem dX6_refuse_5 : decode cX6_refuse 5 = .ok (.aload_n 0, 1) := by decide +kernel
theorem dX6_refuse_6 : decode cX6_refuse 6 = .ok (.getfield 43, 3) := by decide +kernel
theorem dX6_refuse_9 : decode cX6_refuse 9 = .ok (.iload_n 2, 1) := by decide +kernel
theorem dX6_refuse_10 : decode cX6_refuse 10 = .ok (.aload_n 0, 1) := by decide +kernel
theorem dX6_refuse_11 : decode cX6_refuse 11 = .ok (.getfield 43, 3) := by decide +kernel
theorem dX6_refuse_14 : decode cX6_refuse 14 = .ok (.iload_n 2, 1) := by decide +kernel
theorem dX6_refuse_15 : decode cX6_refuse 15 = .ok (.invokestatic 367, 3) := by decide +kernel
theorem dX6_refuse_18 : decode cX6_refuse 18 = .ok (.iconst 1, 1) := by decide +kernel
theorem dX6_refuse_19 : decode cX6_refuse 19 = .ok (.iadd, 1) := by decide +kernel
theorem dX6_refuse_20 : decode cX6_refuse 20 = .ok (.invokestatic 371, 3) := by decide +kernel
theorem dX6_refuse_23 : decode cX6_refuse 23 = .ok (.iload_n 1, 1) := by decide +kernel
theorem dX6_refuse_24 : decode cX6_refuse 24 = .ok (.ireturn, 1) := by decide +kernel
theorem dX6_refusalOfRow_0 : decode cX6_refusalOfRow 0 = .ok (.iload_n 1, 1) := by decide +kernel
theorem dX6_refusalOfRow_1 : decode cX6_refusalOfRow 1 = .ok (.invokestatic 51, 3) := by decide +kernel
theorem dX6_refusalOfRow_4 : decode cX6_refusalOfRow 4 = .ok (.ifCond .ne 6, 3) := by decide +kernel
theorem dX6_refusalOfRow_7 : decode cX6_refusalOfRow 7 = .ok (.bipush (-2), 2) := by decide +kernel
theorem dX6_refusalOfRow_9 : decode cX6_refusalOfRow 9 = .ok (.ireturn, 1) := by decide +kernel
theorem dX6_refusalOfRow_10 : decode cX6_refusalOfRow 10 = .ok (.aload_n 0, 1) := by decide +kernel
theorem dX6_refusalOfRow_11 : decode cX6_refusalOfRow 11 = .ok (.getfield 25, 3) := by decide +kernel
theorem dX6_refusalOfRow_14 : decode cX6_refusalOfRow 14 = .ok (.iload_n 1, 1) := by decide +kernel
theorem dX6_refusalOfRow_15 : decode cX6_refusalOfRow 15 = .ok (.invokevirtual 77, 3) := by decide +kernel
theorem dX6_refusalOfRow_18 : decode cX6_refusalOfRow 18 = .ok (.ifCond .eq 6, 3) := by decide +kernel
theorem dX6_refusalOfRow_21 : decode cX6_refusalOfRow 21 = .ok (.bipush (-3), 2) := by decide +kernel
theorem dX6_refusalOfRow_23 : decode cX6_refusalOfRow 23 = .ok (.ireturn, 1) := by decide +kernel
theorem dX6_refusalOfRow_24 : decode cX6_refusalOfRow 24 = .ok (.aload_n 0, 1) := by decide +kernel
theorem dX6_refusalOfRow_25 : decode cX6_refusalOfRow 25 = .ok (.getfield 25, 3) := by decide +kernel
theorem dX6_refusalOfRow_28 : decode cX6_refusalOfRow 28 = .ok (.iload_n 1, 1) := by decide +kernel
theorem dX6_refusalOfRow_29 : decode cX6_refusalOfRow 29 = .ok (.invokevirtual 80, 3) := by decide +kernel
theorem dX6_refusalOfRow_32 : decode cX6_refusalOfRow 32 = .ok (.ifCond .eq 7, 3) := by decide +kernel
theorem dX6_refusalOfRow_35 : decode cX6_refusalOfRow 35 = .ok (.iconst 0, 1) := by decide +kernel
theorem dX6_refusalOfRow_36 : decode cX6_refusalOfRow 36 = .ok (.goto 5, 3) := by decide +kernel
theorem dX6_refusalOfRow_39 : decode cX6_refusalOfRow 39 = .ok (.bipush (-4), 2) := by decide +kernel
theorem dX6_refusalOfRow_41 : decode cX6_refusalOfRow 41 = .ok (.ireturn, 1) := by decide +kernel
theorem dX6_refusalOfPeal_0 : decode cX6_refusalOfPeal 0 = .ok (.iload_n 1, 1) := by decide +kernel
theorem dX6_refusalOfPeal_1 : decode cX6_refusalOfPeal 1 = .ok (.invokestatic 51, 3) := by decide +kernel
theorem dX6_refusalOfPeal_4 : decode cX6_refusalOfPeal 4 = .ok (.ifCond .eq 12, 3) := by decide +kernel
theorem dX6_refusalOfPeal_7 : decode cX6_refusalOfPeal 7 = .ok (.iload_n 2, 1) := by decide +kernel
theorem dX6_refusalOfPeal_8 : decode cX6_refusalOfPeal 8 = .ok (.bipush 40, 2) := by decide +kernel
theorem dX6_refusalOfPeal_10 : decode cX6_refusalOfPeal 10 = .ok (.invokestatic 55, 3) := by decide +kernel
theorem dX6_refusalOfPeal_13 : decode cX6_refusalOfPeal 13 = .ok (.ifCond .ne 6, 3) := by decide +kernel
theorem dX6_refusalOfPeal_16 : decode cX6_refusalOfPeal 16 = .ok (.bipush (-2), 2) := by decide +kernel
theorem dX6_refusalOfPeal_18 : decode cX6_refusalOfPeal 18 = .ok (.ireturn, 1) := by decide +kernel
theorem dX6_refusalOfPeal_19 : decode cX6_refusalOfPeal 19 = .ok (.aload_n 0, 1) := by decide +kernel
theorem dX6_refusalOfPeal_20 : decode cX6_refusalOfPeal 20 = .ok (.iload_n 1, 1) := by decide +kernel
theorem dX6_refusalOfPeal_21 : decode cX6_refusalOfPeal 21 = .ok (.invokevirtual 67, 3) := by decide +kernel
theorem dX6_refusalOfPeal_24 : decode cX6_refusalOfPeal 24 = .ok (.istore_n 3, 1) := by decide +kernel
theorem dX6_refusalOfPeal_25 : decode cX6_refusalOfPeal 25 = .ok (.iload_n 3, 1) := by decide +kernel
theorem dX6_refusalOfPeal_26 : decode cX6_refusalOfPeal 26 = .ok (.ifCond .eq 5, 3) := by decide +kernel
theorem dX6_refusalOfPeal_29 : decode cX6_refusalOfPeal 29 = .ok (.iload_n 3, 1) := by decide +kernel
theorem dX6_refusalOfPeal_30 : decode cX6_refusalOfPeal 30 = .ok (.ireturn, 1) := by decide +kernel
theorem dX6_refusalOfPeal_31 : decode cX6_refusalOfPeal 31 = .ok (.iload_n 2, 1) := by decide +kernel
theorem dX6_refusalOfPeal_32 : decode cX6_refusalOfPeal 32 = .ok (.aload_n 0, 1) := by decide +kernel
theorem dX6_refusalOfPeal_33 : decode cX6_refusalOfPeal 33 = .ok (.getfield 25, 3) := by decide +kernel
theorem dX6_refusalOfPeal_36 : decode cX6_refusalOfPeal 36 = .ok (.iload_n 1, 1) := by decide +kernel
theorem dX6_refusalOfPeal_37 : decode cX6_refusalOfPeal 37 = .ok (.invokevirtual 70, 3) := by decide +kernel
theorem dX6_refusalOfPeal_40 : decode cX6_refusalOfPeal 40 = .ok (.if_icmp .le 8, 3) := by decide +kernel
theorem dX6_refusalOfPeal_43 : decode cX6_refusalOfPeal 43 = .ok (.bipush (-2), 2) := by decide +kernel
theorem dX6_refusalOfPeal_45 : decode cX6_refusalOfPeal 45 = .ok (.goto 4, 3) := by decide +kernel
theorem dX6_refusalOfPeal_48 : decode cX6_refusalOfPeal 48 = .ok (.iconst 0, 1) := by decide +kernel
theorem dX6_refusalOfPeal_49 : decode cX6_refusalOfPeal 49 = .ok (.ireturn, 1) := by decide +kernel
theorem dX6_wrongPlace_0 : decode cX6_wrongPlace 0 = .ok (.aload_n 0, 1) := by decide +kernel
theorem dX6_wrongPlace_1 : decode cX6_wrongPlace 1 = .ok (.getfield 19, 3) := by decide +kernel
theorem dX6_wrongPlace_4 : decode cX6_wrongPlace 4 = .ok (.aload_n 0, 1) := by decide +kernel
theorem dX6_wrongPlace_5 : decode cX6_wrongPlace 5 = .ok (.getfield 10, 3) := by decide +kernel
theorem dX6_wrongPlace_8 : decode cX6_wrongPlace 8 = .ok (.invokevirtual 182, 3) := by decide +kernel
theorem dX6_wrongPlace_11 : decode cX6_wrongPlace 11 = .ok (.iconst 0, 1) := by decide +kernel
theorem dX6_wrongPlace_12 : decode cX6_wrongPlace 12 = .ok (.istore_n 3, 1) := by decide +kernel
theorem dX6_wrongPlace_13 : decode cX6_wrongPlace 13 = .ok (.iload_n 3, 1) := by decide +kernel
theorem dX6_wrongPlace_14 : decode cX6_wrongPlace 14 = .ok (.iload_n 2, 1) := by decide +kernel
theorem dX6_wrongPlace_15 : decode cX6_wrongPlace 15 = .ok (.if_icmp .ge 66, 3) := by decide +kernel
theorem dX6_wrongPlace_18 : decode cX6_wrongPlace 18 = .ok (.aload_n 0, 1) := by decide +kernel
theorem dX6_wrongPlace_19 : decode cX6_wrongPlace 19 = .ok (.getfield 25, 3) := by decide +kernel
theorem dX6_wrongPlace_22 : decode cX6_wrongPlace 22 = .ok (.iload_n 1, 1) := by decide +kernel
theorem dX6_wrongPlace_23 : decode cX6_wrongPlace 23 = .ok (.iload_n 3, 1) := by decide +kernel
theorem dX6_wrongPlace_24 : decode cX6_wrongPlace 24 = .ok (.invokevirtual 94, 3) := by decide +kernel
theorem dX6_wrongPlace_27 : decode cX6_wrongPlace 27 = .ok (.lstore 4, 2) := by decide +kernel
theorem dX6_wrongPlace_29 : decode cX6_wrongPlace 29 = .ok (.lload 4, 2) := by decide +kernel
theorem dX6_wrongPlace_31 : decode cX6_wrongPlace 31 = .ok (.lconst 0, 1) := by decide +kernel
theorem dX6_wrongPlace_32 : decode cX6_wrongPlace 32 = .ok (.lcmp, 1) := by decide +kernel
theorem dX6_wrongPlace_33 : decode cX6_wrongPlace 33 = .ok (.ifCond .lt 30, 3) := by decide +kernel
theorem dX6_wrongPlace_36 : decode cX6_wrongPlace 36 = .ok (.lload 4, 2) := by decide +kernel
theorem dX6_wrongPlace_38 : decode cX6_wrongPlace 38 = .ok (.aload_n 0, 1) := by decide +kernel
theorem dX6_wrongPlace_39 : decode cX6_wrongPlace 39 = .ok (.getfield 19, 3) := by decide +kernel
theorem dX6_wrongPlace_42 : decode cX6_wrongPlace 42 = .ok (.getfield 343, 3) := by decide +kernel
theorem dX6_wrongPlace_45 : decode cX6_wrongPlace 45 = .ok (.i2l, 1) := by decide +kernel
theorem dX6_wrongPlace_46 : decode cX6_wrongPlace 46 = .ok (.lcmp, 1) := by decide +kernel
theorem dX6_wrongPlace_47 : decode cX6_wrongPlace 47 = .ok (.ifCond .ge 16, 3) := by decide +kernel
theorem dX6_wrongPlace_50 : decode cX6_wrongPlace 50 = .ok (.aload_n 0, 1) := by decide +kernel
theorem dX6_wrongPlace_51 : decode cX6_wrongPlace 51 = .ok (.getfield 19, 3) := by decide +kernel
theorem dX6_wrongPlace_54 : decode cX6_wrongPlace 54 = .ok (.lload 4, 2) := by decide +kernel
theorem dX6_wrongPlace_56 : decode cX6_wrongPlace 56 = .ok (.l2i, 1) := by decide +kernel
theorem dX6_wrongPlace_57 : decode cX6_wrongPlace 57 = .ok (.invokevirtual 331, 3) := by decide +kernel
theorem dX6_wrongPlace_60 : decode cX6_wrongPlace 60 = .ok (.ifCond .ne 5, 3) := by decide +kernel
theorem dX6_wrongPlace_63 : decode cX6_wrongPlace 63 = .ok (.iload_n 3, 1) := by decide +kernel
theorem dX6_wrongPlace_64 : decode cX6_wrongPlace 64 = .ok (.ireturn, 1) := by decide +kernel
theorem dX6_wrongPlace_65 : decode cX6_wrongPlace 65 = .ok (.aload_n 0, 1) := by decide +kernel
theorem dX6_wrongPlace_66 : decode cX6_wrongPlace 66 = .ok (.getfield 19, 3) := by decide +kernel
theorem dX6_wrongPlace_69 : decode cX6_wrongPlace 69 = .ok (.lload 4, 2) := by decide +kernel
theorem dX6_wrongPlace_71 : decode cX6_wrongPlace 71 = .ok (.l2i, 1) := by decide +kernel
theorem dX6_wrongPlace_72 : decode cX6_wrongPlace 72 = .ok (.invokevirtual 334, 3) := by decide +kernel
theorem dX6_wrongPlace_75 : decode cX6_wrongPlace 75 = .ok (.iinc 3 1, 3) := by decide +kernel
theorem dX6_wrongPlace_78 : decode cX6_wrongPlace 78 = .ok (.goto (-65), 3) := by decide +kernel
theorem dX6_wrongPlace_81 : decode cX6_wrongPlace 81 = .ok (.iconst (-1), 1) := by decide +kernel
theorem dX6_wrongPlace_82 : decode cX6_wrongPlace 82 = .ok (.ireturn, 1) := by decide +kernel
theorem dX6_upTo_0 : decode cX6_upTo 0 = .ok (.iload_n 0, 1) := by decide +kernel
theorem dX6_upTo_1 : decode cX6_upTo 1 = .ok (.ifCond .lt 12, 3) := by decide +kernel
theorem dX6_upTo_4 : decode cX6_upTo 4 = .ok (.iload_n 0, 1) := by decide +kernel
theorem dX6_upTo_5 : decode cX6_upTo 5 = .ok (.iload_n 1, 1) := by decide +kernel
theorem dX6_upTo_6 : decode cX6_upTo 6 = .ok (.if_icmp .gt 7, 3) := by decide +kernel
theorem dX6_upTo_9 : decode cX6_upTo 9 = .ok (.iconst 1, 1) := by decide +kernel
theorem dX6_upTo_10 : decode cX6_upTo 10 = .ok (.goto 4, 3) := by decide +kernel
theorem dX6_upTo_13 : decode cX6_upTo 13 = .ok (.iconst 0, 1) := by decide +kernel
theorem dX6_upTo_14 : decode cX6_upTo 14 = .ok (.ireturn, 1) := by decide +kernel
theorem dX6_bitOf_0 : decode cX6_bitOf 0 = .ok (.iload_n 0, 1) := by decide +kernel
theorem dX6_bitOf_1 : decode cX6_bitOf 1 = .ok (.iload_n 1, 1) := by decide +kernel
theorem dX6_bitOf_2 : decode cX6_bitOf 2 = .ok (.ishr, 1) := by decide +kernel
theorem dX6_bitOf_3 : decode cX6_bitOf 3 = .ok (.iconst 1, 1) := by decide +kernel
theorem dX6_bitOf_4 : decode cX6_bitOf 4 = .ok (.iand, 1) := by decide +kernel
theorem dX6_bitOf_5 : decode cX6_bitOf 5 = .ok (.ireturn, 1) := by decide +kernel
theorem dX6_isIn_0 : decode cX6_isIn 0 = .ok (.iload_n 0, 1) := by decide +kernel
theorem dX6_isIn_1 : decode cX6_isIn 1 = .ok (.iload_n 1, 1) := by decide +kernel
theorem dX6_isIn_2 : decode cX6_isIn 2 = .ok (.ishr, 1) := by decide +kernel
theorem dX6_isIn_3 : decode cX6_isIn 3 = .ok (.iconst 1, 1) := by decide +kernel
theorem dX6_isIn_4 : decode cX6_isIn 4 = .ok (.iand, 1) := by decide +kernel
theorem dX6_isIn_5 : decode cX6_isIn 5 = .ok (.iconst 1, 1) := by decide +kernel
theorem dX6_isIn_6 : decode cX6_isIn 6 = .ok (.if_icmp .ne 7, 3) := by decide +kernel
theorem dX6_isIn_9 : decode cX6_isIn 9 = .ok (.iconst 1, 1) := by decide +kernel
theorem dX6_isIn_10 : decode cX6_isIn 10 = .ok (.goto 4, 3) := by decide +kernel
theorem dX6_isIn_13 : decode cX6_isIn 13 = .ok (.iconst 0, 1) := by decide +kernel
theorem dX6_isIn_14 : decode cX6_isIn 14 = .ok (.ireturn, 1) := by decide +kernel
theorem dX6_at_0 : decode cX6_at 0 = .ok (.iload_n 1, 1) := by decide +kernel
theorem dX6_at_1 : decode cX6_at 1 = .ok (.ifCond .lt 15, 3) := by decide +kernel
theorem dX6_at_4 : decode cX6_at 4 = .ok (.iload_n 1, 1) := by decide +kernel
theorem dX6_at_5 : decode cX6_at 5 = .ok (.aload_n 0, 1) := by decide +kernel
theorem dX6_at_6 : decode cX6_at 6 = .ok (.arraylength, 1) := by decide +kernel
theorem dX6_at_7 : decode cX6_at 7 = .ok (.if_icmp .ge 9, 3) := by decide +kernel
theorem dX6_at_10 : decode cX6_at 10 = .ok (.aload_n 0, 1) := by decide +kernel
theorem dX6_at_11 : decode cX6_at 11 = .ok (.iload_n 1, 1) := by decide +kernel
theorem dX6_at_12 : decode cX6_at 12 = .ok (.iaload, 1) := by decide +kernel
theorem dX6_at_13 : decode cX6_at 13 = .ok (.goto 4, 3) := by decide +kernel
theorem dX6_at_16 : decode cX6_at 16 = .ok (.iconst 0, 1) := by decide +kernel
theorem dX6_at_17 : decode cX6_at 17 = .ok (.ireturn, 1) := by decide +kernel
theorem dX6_put_0 : decode cX6_put 0 = .ok (.iload_n 1, 1) := by decide +kernel
theorem dX6_put_1 : decode cX6_put 1 = .ok (.ifCond .lt 13, 3) := by decide +kernel
theorem dX6_put_4 : decode cX6_put 4 = .ok (.iload_n 1, 1) := by decide +kernel
theorem dX6_put_5 : decode cX6_put 5 = .ok (.aload_n 0, 1) := by decide +kernel
theorem dX6_put_6 : decode cX6_put 6 = .ok (.arraylength, 1) := by decide +kernel
theorem dX6_put_7 : decode cX6_put 7 = .ok (.if_icmp .ge 7, 3) := by decide +kernel
theorem dX6_put_10 : decode cX6_put 10 = .ok (.aload_n 0, 1) := by decide +kernel
theorem dX6_put_11 : decode cX6_put 11 = .ok (.iload_n 1, 1) := by decide +kernel
theorem dX6_put_12 : decode cX6_put 12 = .ok (.iload_n 2, 1) := by decide +kernel
theorem dX6_put_13 : decode cX6_put 13 = .ok (.iastore, 1) := by decide +kernel
theorem dX6_put_14 : decode cX6_put 14 = .ok (.return_, 1) := by decide +kernel
theorem dX7_init_0 : decode cX7_init 0 = .ok (.aload_n 0, 1) := by decide +kernel
theorem dX7_init_1 : decode cX7_init 1 = .ok (.invokespecial 1, 3) := by decide +kernel
theorem dX7_init_4 : decode cX7_init 4 = .ok (.aload_n 0, 1) := by decide +kernel
theorem dX7_init_5 : decode cX7_init 5 = .ok (.invokestatic 7, 3) := by decide +kernel
theorem dX7_init_8 : decode cX7_init 8 = .ok (.putfield 13, 3) := by decide +kernel
theorem dX7_init_11 : decode cX7_init 11 = .ok (.aload_n 0, 1) := by decide +kernel
theorem dX7_init_12 : decode cX7_init 12 = .ok (.bipush 74, 2) := by decide +kernel
theorem dX7_init_14 : decode cX7_init 14 = .ok (.newarray .int, 2) := by decide +kernel
theorem dX7_init_16 : decode cX7_init 16 = .ok (.putfield 17, 3) := by decide +kernel
theorem dX7_init_19 : decode cX7_init 19 = .ok (.aload_n 0, 1) := by decide +kernel
theorem dX7_init_20 : decode cX7_init 20 = .ok (.bipush 74, 2) := by decide +kernel
theorem dX7_init_22 : decode cX7_init 22 = .ok (.newarray .int, 2) := by decide +kernel
theorem dX7_init_24 : decode cX7_init 24 = .ok (.putfield 20, 3) := by decide +kernel
theorem dX7_init_27 : decode cX7_init 27 = .ok (.aload_n 0, 1) := by decide +kernel
theorem dX7_init_28 : decode cX7_init 28 = .ok (.bipush 7, 2) := by decide +kernel
theorem dX7_init_30 : decode cX7_init 30 = .ok (.newarray .int, 2) := by decide +kernel
theorem dX7_init_32 : decode cX7_init 32 = .ok (.putfield 23, 3) := by decide +kernel
theorem dX7_init_35 : decode cX7_init 35 = .ok (.aload_n 0, 1) := by decide +kernel
theorem dX7_init_36 : decode cX7_init 36 = .ok (.sipush 250, 3) := by decide +kernel
theorem dX7_init_39 : decode cX7_init 39 = .ok (.newarray .int, 2) := by decide +kernel
theorem dX7_init_41 : decode cX7_init 41 = .ok (.putfield 26, 3) := by decide +kernel
theorem dX7_init_44 : decode cX7_init 44 = .ok (.aload_n 0, 1) := by decide +kernel
theorem dX7_init_45 : decode cX7_init 45 = .ok (.bipush 70, 2) := by decide +kernel
theorem dX7_init_47 : decode cX7_init 47 = .ok (.newarray .char, 2) := by decide +kernel
theorem dX7_init_49 : decode cX7_init 49 = .ok (.dup, 1) := by decide +kernel
theorem dX7_init_50 : decode cX7_init 50 = .ok (.iconst 0, 1) := by decide +kernel
theorem dX7_init_51 : decode cX7_init 51 = .ok (.bipush 116, 2) := by decide +kernel
theorem dX7_init_53 : decode cX7_init 53 = .ok (.castore, 1) := by decide +kernel
theorem dX7_init_54 : decode cX7_init 54 = .ok (.dup, 1) := by decide +kernel
theorem dX7_init_55 : decode cX7_init 55 = .ok (.iconst 1, 1) := by decide +kernel
theorem dX7_init_56 : decode cX7_init 56 = .ok (.bipush 104, 2) := by decide +kernel
theorem dX7_init_58 : decode cX7_init 58 = .ok (.castore, 1) := by decide +kernel
theorem dX7_init_59 : decode cX7_init 59 = .ok (.dup, 1) := by decide +kernel
theorem dX7_init_60 : decode cX7_init 60 = .ok (.iconst 2, 1) := by decide +kernel
theorem dX7_init_61 : decode cX7_init 61 = .ok (.bipush 105, 2) := by decide +kernel
theorem dX7_init_63 : decode cX7_init 63 = .ok (.castore, 1) := by decide +kernel
theorem dX7_init_64 : decode cX7_init 64 = .ok (.dup, 1) := by decide +kernel
theorem dX7_init_65 : decode cX7_init 65 = .ok (.iconst 3, 1) := by decide +kernel
theorem dX7_init_66 : decode cX7_init 66 = .ok (.bipush 110, 2) := by decide +kernel
theorem dX7_init_68 : decode cX7_init 68 = .ok (.castore, 1) := by decide +kernel
theorem dX7_init_69 : decode cX7_init 69 = .ok (.dup, 1) := by decide +kernel
theorem dX7_init_70 : decode cX7_init 70 = .ok (.iconst 4, 1) := by decide +kernel
theorem dX7_init_71 : decode cX7_init 71 = .ok (.bipush 103, 2) := by decide +kernel
theorem dX7_init_73 : decode cX7_init 73 = .ok (.castore, 1) := by decide +kernel
theorem dX7_init_74 : decode cX7_init 74 = .ok (.dup, 1) := by decide +kernel
theorem dX7_init_75 : decode cX7_init 75 = .ok (.iconst 5, 1) := by decide +kernel
theorem dX7_init_76 : decode cX7_init 76 = .ok (.iconst 0, 1) := by decide +kernel
theorem dX7_init_77 : decode cX7_init 77 = .ok (.castore, 1) := by decide +kernel
theorem dX7_init_78 : decode cX7_init 78 = .ok (.dup, 1) := by decide +kernel
theorem dX7_init_79 : decode cX7_init 79 = .ok (.bipush 6, 2) := by decide +kernel
theorem dX7_init_81 : decode cX7_init 81 = .ok (.iconst 0, 1) := by decide +kernel
theorem dX7_init_82 : decode cX7_init 82 = .ok (.castore, 1) := by decide +kernel
theorem dX7_init_83 : decode cX7_init 83 = .ok (.dup, 1) := by decide +kernel
theorem dX7_init_84 : decode cX7_init 84 = .ok (.bipush 7, 2) := by decide +kernel
theorem dX7_init_86 : decode cX7_init 86 = .ok (.bipush 104, 2) := by decide +kernel
theorem dX7_init_88 : decode cX7_init 88 = .ok (.castore, 1) := by decide +kernel
theorem dX7_init_89 : decode cX7_init 89 = .ok (.dup, 1) := by decide +kernel
theorem dX7_init_90 : decode cX7_init 90 = .ok (.bipush 8, 2) := by decide +kernel
theorem dX7_init_92 : decode cX7_init 92 = .ok (.bipush 97, 2) := by decide +kernel
theorem dX7_init_94 : decode cX7_init 94 = .ok (.castore, 1) := by decide +kernel
theorem dX7_init_95 : decode cX7_init 95 = .ok (.dup, 1) := by decide +kernel
theorem dX7_init_96 : decode cX7_init 96 = .ok (.bipush 9, 2) := by decide +kernel
theorem dX7_init_98 : decode cX7_init 98 = .ok (.bipush 110, 2) := by decide +kernel
theorem dX7_init_100 : decode cX7_init 100 = .ok (.castore, 1) := by decide +kernel
theorem dX7_init_101 : decode cX7_init 101 = .ok (.dup, 1) := by decide +kernel
theorem dX7_init_102 : decode cX7_init 102 = .ok (.bipush 10, 2) := by decide +kernel
theorem dX7_init_104 : decode cX7_init 104 = .ok (.bipush 103, 2) := by decide +kernel
theorem dX7_init_106 : decode cX7_init 106 = .ok (.castore, 1) := by decide +kernel
theorem dX7_init_107 : decode cX7_init 107 = .ok (.dup, 1) := by decide +kernel
theorem dX7_init_108 : decode cX7_init 108 = .ok (.bipush 11, 2) := by decide +kernel
theorem dX7_init_110 : decode cX7_init 110 = .ok (.bipush 115, 2) := by decide +kernel
theorem dX7_init_112 : decode cX7_init 112 = .ok (.castore, 1) := by decide +kernel
theorem dX7_init_113 : decode cX7_init 113 = .ok (.dup, 1) := by decide +kernel
theorem dX7_init_114 : decode cX7_init 114 = .ok (.bipush 12, 2) := by decide +kernel
theorem dX7_init_116 : decode cX7_init 116 = .ok (.iconst 0, 1) := by decide +kernel
theorem dX7_init_117 : decode cX7_init 117 = .ok (.castore, 1) := by decide +kernel
theorem dX7_init_118 : decode cX7_init 118 = .ok (.dup, 1) := by decide +kernel
theorem dX7_init_119 : decode cX7_init 119 = .ok (.bipush 13, 2) := by decide +kernel
theorem dX7_init_121 : decode cX7_init 121 = .ok (.iconst 0, 1) := by decide +kernel
theorem dX7_init_122 : decode cX7_init 122 = .ok (.castore, 1) := by decide +kernel
theorem dX7_init_123 : decode cX7_init 123 = .ok (.dup, 1) := by decide +kernel
theorem dX7_init_124 : decode cX7_init 124 = .ok (.bipush 14, 2) := by decide +kernel
theorem dX7_init_126 : decode cX7_init 126 = .ok (.bipush 102, 2) := by decide +kernel
theorem dX7_init_128 : decode cX7_init 128 = .ok (.castore, 1) := by decide +kernel
theorem dX7_init_129 : decode cX7_init 129 = .ok (.dup, 1) := by decide +kernel
theorem dX7_init_130 : decode cX7_init 130 = .ok (.bipush 15, 2) := by decide +kernel
theorem dX7_init_132 : decode cX7_init 132 = .ok (.bipush 114, 2) := by decide +kernel
theorem dX7_init_134 : decode cX7_init 134 = .ok (.castore, 1) := by decide +kernel
theorem dX7_init_135 : decode cX7_init 135 = .ok (.dup, 1) := by decide +kernel
theorem dX7_init_136 : decode cX7_init 136 = .ok (.bipush 16, 2) := by decide +kernel
theorem dX7_init_138 : decode cX7_init 138 = .ok (.bipush 101, 2) := by decide +kernel
theorem dX7_init_140 : decode cX7_init 140 = .ok (.castore, 1) := by decide +kernel
theorem dX7_init_141 : decode cX7_init 141 = .ok (.dup, 1) := by decide +kernel
theorem dX7_init_142 : decode cX7_init 142 = .ok (.bipush 17, 2) := by decide +kernel
theorem dX7_init_144 : decode cX7_init 144 = .ok (.bipush 101, 2) := by decide +kernel
theorem dX7_init_146 : decode cX7_init 146 = .ok (.castore, 1) := by decide +kernel
theorem dX7_init_147 : decode cX7_init 147 = .ok (.dup, 1) := by decide +kernel
theorem dX7_init_148 : decode cX7_init 148 = .ok (.bipush 18, 2) := by decide +kernel
theorem dX7_init_150 : decode cX7_init 150 = .ok (.iconst 0, 1) := by decide +kernel
theorem dX7_init_151 : decode cX7_init 151 = .ok (.castore, 1) := by decide +kernel
theorem dX7_init_152 : decode cX7_init 152 = .ok (.dup, 1) := by decide +kernel
theorem dX7_init_153 : decode cX7_init 153 = .ok (.bipush 19, 2) := by decide +kernel
theorem dX7_init_155 : decode cX7_init 155 = .ok (.iconst 0, 1) := by decide +kernel
theorem dX7_init_156 : decode cX7_init 156 = .ok (.castore, 1) := by decide +kernel
theorem dX7_init_157 : decode cX7_init 157 = .ok (.dup, 1) := by decide +kernel
theorem dX7_init_158 : decode cX7_init 158 = .ok (.bipush 20, 2) := by decide +kernel
theorem dX7_init_160 : decode cX7_init 160 = .ok (.iconst 0, 1) := by decide +kernel
theorem dX7_init_161 : decode cX7_init 161 = .ok (.castore, 1) := by decide +kernel
theorem dX7_init_162 : decode cX7_init 162 = .ok (.dup, 1) := by decide +kernel
theorem dX7_init_163 : decode cX7_init 163 = .ok (.bipush 21, 2) := by decide +kernel
theorem dX7_init_165 : decode cX7_init 165 = .ok (.bipush 117, 2) := by decide +kernel
theorem dX7_init_167 : decode cX7_init 167 = .ok (.castore, 1) := by decide +kernel
theorem dX7_init_168 : decode cX7_init 168 = .ok (.dup, 1) := by decide +kernel
theorem dX7_init_169 : decode cX7_init 169 = .ok (.bipush 22, 2) := by decide +kernel
theorem dX7_init_171 : decode cX7_init 171 = .ok (.bipush 110, 2) := by decide +kernel
theorem dX7_init_173 : decode cX7_init 173 = .ok (.castore, 1) := by decide +kernel
theorem dX7_init_174 : decode cX7_init 174 = .ok (.dup, 1) := by decide +kernel
theorem dX7_init_175 : decode cX7_init 175 = .ok (.bipush 23, 2) := by decide +kernel
theorem dX7_init_177 : decode cX7_init 177 = .ok (.bipush 115, 2) := by decide +kernel
theorem dX7_init_179 : decode cX7_init 179 = .ok (.castore, 1) := by decide +kernel
theorem dX7_init_180 : decode cX7_init 180 = .ok (.dup, 1) := by decide +kernel
theorem dX7_init_181 : decode cX7_init 181 = .ok (.bipush 24, 2) := by decide +kernel
theorem dX7_init_183 : decode cX7_init 183 = .ok (.bipush 97, 2) := by decide +kernel
theorem dX7_init_185 : decode cX7_init 185 = .ok (.castore, 1) := by decide +kernel
theorem dX7_init_186 : decode cX7_init 186 = .ok (.dup, 1) := by decide +kernel
theorem dX7_init_187 : decode cX7_init 187 = .ok (.bipush 25, 2) := by decide +kernel
theorem dX7_init_189 : decode cX7_init 189 = .ok (.bipush 105, 2) := by decide +kernel
theorem dX7_init_191 : decode cX7_init 191 = .ok (.castore, 1) := by decide +kernel
theorem dX7_init_192 : decode cX7_init 192 = .ok (.dup, 1) := by decide +kernel
theorem dX7_init_193 : decode cX7_init 193 = .ok (.bipush 26, 2) := by decide +kernel
theorem dX7_init_195 : decode cX7_init 195 = .ok (.bipush 100, 2) := by decide +kernel
theorem dX7_init_197 : decode cX7_init 197 = .ok (.castore, 1) := by decide +kernel
theorem dX7_init_198 : decode cX7_init 198 = .ok (.dup, 1) := by decide +kernel
theorem dX7_init_199 : decode cX7_init 199 = .ok (.bipush 27, 2) := by decide +kernel
theorem dX7_init_201 : decode cX7_init 201 = .ok (.iconst 0, 1) := by decide +kernel
theorem dX7_init_202 : decode cX7_init 202 = .ok (.castore, 1) := by decide +kernel
theorem dX7_init_203 : decode cX7_init 203 = .ok (.dup, 1) := by decide +kernel
theorem dX7_init_204 : decode cX7_init 204 = .ok (.bipush 28, 2) := by decide +kernel
theorem dX7_init_206 : decode cX7_init 206 = .ok (.bipush 115, 2) := by decide +kernel
theorem dX7_init_208 : decode cX7_init 208 = .ok (.castore, 1) := by decide +kernel
theorem dX7_init_209 : decode cX7_init 209 = .ok (.dup, 1) := by decide +kernel
theorem dX7_init_210 : decode cX7_init 210 = .ok (.bipush 29, 2) := by decide +kernel
theorem dX7_init_212 : decode cX7_init 212 = .ok (.bipush 97, 2) := by decide +kernel
theorem dX7_init_214 : decode cX7_init 214 = .ok (.castore, 1) := by decide +kernel
theorem dX7_init_215 : decode cX7_init 215 = .ok (.dup, 1) := by decide +kernel
theorem dX7_init_216 : decode cX7_init 216 = .ok (.bipush 30, 2) := by decide +kernel
theorem dX7_init_218 : decode cX7_init 218 = .ok (.bipush 105, 2) := by decide +kernel
theorem dX7_init_220 : decode cX7_init 220 = .ok (.castore, 1) := by decide +kernel
theorem dX7_init_221 : decode cX7_init 221 = .ok (.dup, 1) := by decide +kernel
theorem dX7_init_222 : decode cX7_init 222 = .ok (.bipush 31, 2) := by decide +kernel
theorem dX7_init_224 : decode cX7_init 224 = .ok (.bipush 100, 2) := by decide +kernel
theorem dX7_init_226 : decode cX7_init 226 = .ok (.castore, 1) := by decide +kernel
theorem dX7_init_227 : decode cX7_init 227 = .ok (.dup, 1) := by decide +kernel
theorem dX7_init_228 : decode cX7_init 228 = .ok (.bipush 32, 2) := by decide +kernel
theorem dX7_init_230 : decode cX7_init 230 = .ok (.iconst 0, 1) := by decide +kernel
theorem dX7_init_231 : decode cX7_init 231 = .ok (.castore, 1) := by decide +kernel
theorem dX7_init_232 : decode cX7_init 232 = .ok (.dup, 1) := by decide +kernel
theorem dX7_init_233 : decode cX7_init 233 = .ok (.bipush 33, 2) := by decide +kernel
theorem dX7_init_235 : decode cX7_init 235 = .ok (.iconst 0, 1) := by decide +kernel
theorem dX7_init_236 : decode cX7_init 236 = .ok (.castore, 1) := by decide +kernel
theorem dX7_init_237 : decode cX7_init 237 = .ok (.dup, 1) := by decide +kernel
theorem dX7_init_238 : decode cX7_init 238 = .ok (.bipush 34, 2) := by decide +kernel
theorem dX7_init_240 : decode cX7_init 240 = .ok (.iconst 0, 1) := by decide +kernel
theorem dX7_init_241 : decode cX7_init 241 = .ok (.castore, 1) := by decide +kernel
theorem dX7_init_242 : decode cX7_init 242 = .ok (.dup, 1) := by decide +kernel
theorem dX7_init_243 : decode cX7_init 243 = .ok (.bipush 35, 2) := by decide +kernel
theorem dX7_init_245 : decode cX7_init 245 = .ok (.bipush 114, 2) := by decide +kernel
theorem dX7_init_247 : decode cX7_init 247 = .ok (.castore, 1) := by decide +kernel
theorem dX7_init_248 : decode cX7_init 248 = .ok (.dup, 1) := by decide +kernel
theorem dX7_init_249 : decode cX7_init 249 = .ok (.bipush 36, 2) := by decide +kernel
theorem dX7_init_251 : decode cX7_init 251 = .ok (.bipush 105, 2) := by decide +kernel
theorem dX7_init_253 : decode cX7_init 253 = .ok (.castore, 1) := by decide +kernel
theorem dX7_init_254 : decode cX7_init 254 = .ok (.dup, 1) := by decide +kernel
theorem dX7_init_255 : decode cX7_init 255 = .ok (.bipush 37, 2) := by decide +kernel
theorem dX7_init_257 : decode cX7_init 257 = .ok (.bipush 110, 2) := by decide +kernel
theorem dX7_init_259 : decode cX7_init 259 = .ok (.castore, 1) := by decide +kernel
theorem dX7_init_260 : decode cX7_init 260 = .ok (.dup, 1) := by decide +kernel
theorem dX7_init_261 : decode cX7_init 261 = .ok (.bipush 38, 2) := by decide +kernel
theorem dX7_init_263 : decode cX7_init 263 = .ok (.bipush 103, 2) := by decide +kernel
theorem dX7_init_265 : decode cX7_init 265 = .ok (.castore, 1) := by decide +kernel
theorem dX7_init_266 : decode cX7_init 266 = .ok (.dup, 1) := by decide +kernel
theorem dX7_init_267 : decode cX7_init 267 = .ok (.bipush 39, 2) := by decide +kernel
theorem dX7_init_269 : decode cX7_init 269 = .ok (.bipush 101, 2) := by decide +kernel
theorem dX7_init_271 : decode cX7_init 271 = .ok (.castore, 1) := by decide +kernel
theorem dX7_init_272 : decode cX7_init 272 = .ok (.dup, 1) := by decide +kernel
theorem dX7_init_273 : decode cX7_init 273 = .ok (.bipush 40, 2) := by decide +kernel
theorem dX7_init_275 : decode cX7_init 275 = .ok (.bipush 114, 2) := by decide +kernel
theorem dX7_init_277 : decode cX7_init 277 = .ok (.castore, 1) := by decide +kernel
theorem dX7_init_278 : decode cX7_init 278 = .ok (.dup, 1) := by decide +kernel
theorem dX7_init_279 : decode cX7_init 279 = .ok (.bipush 41, 2) := by decide +kernel
theorem dX7_init_281 : decode cX7_init 281 = .ok (.iconst 0, 1) := by decide +kernel
theorem dX7_init_282 : decode cX7_init 282 = .ok (.castore, 1) := by decide +kernel
theorem dX7_init_283 : decode cX7_init 283 = .ok (.dup, 1) := by decide +kernel
theorem dX7_init_284 : decode cX7_init 284 = .ok (.bipush 42, 2) := by decide +kernel
theorem dX7_init_286 : decode cX7_init 286 = .ok (.bipush 119, 2) := by decide +kernel
theorem dX7_init_288 : decode cX7_init 288 = .ok (.castore, 1) := by decide +kernel
theorem dX7_init_289 : decode cX7_init 289 = .ok (.dup, 1) := by decide +kernel
theorem dX7_init_290 : decode cX7_init 290 = .ok (.bipush 43, 2) := by decide +kernel
theorem dX7_init_292 : decode cX7_init 292 = .ok (.bipush 101, 2) := by decide +kernel
theorem dX7_init_294 : decode cX7_init 294 = .ok (.castore, 1) := by decide +kernel
theorem dX7_init_295 : decode cX7_init 295 = .ok (.dup, 1) := by decide +kernel
theorem dX7_init_296 : decode cX7_init 296 = .ok (.bipush 44, 2) := by decide +kernel
theorem dX7_init_298 : decode cX7_init 298 = .ok (.bipush 97, 2) := by decide +kernel
theorem dX7_init_300 : decode cX7_init 300 = .ok (.castore, 1) := by decide +kernel
theorem dX7_init_301 : decode cX7_init 301 = .ok (.dup, 1) := by decide +kernel
theorem dX7_init_302 : decode cX7_init 302 = .ok (.bipush 45, 2) := by decide +kernel
theorem dX7_init_304 : decode cX7_init 304 = .ok (.bipush 116, 2) := by decide +kernel
theorem dX7_init_306 : decode cX7_init 306 = .ok (.castore, 1) := by decide +kernel
theorem dX7_init_307 : decode cX7_init 307 = .ok (.dup, 1) := by decide +kernel
theorem dX7_init_308 : decode cX7_init 308 = .ok (.bipush 46, 2) := by decide +kernel
theorem dX7_init_310 : decode cX7_init 310 = .ok (.bipush 104, 2) := by decide +kernel
theorem dX7_init_312 : decode cX7_init 312 = .ok (.castore, 1) := by decide +kernel
theorem dX7_init_313 : decode cX7_init 313 = .ok (.dup, 1) := by decide +kernel
theorem dX7_init_314 : decode cX7_init 314 = .ok (.bipush 47, 2) := by decide +kernel
theorem dX7_init_316 : decode cX7_init 316 = .ok (.bipush 101, 2) := by decide +kernel
theorem dX7_init_318 : decode cX7_init 318 = .ok (.castore, 1) := by decide +kernel
theorem dX7_init_319 : decode cX7_init 319 = .ok (.dup, 1) := by decide +kernel
theorem dX7_init_320 : decode cX7_init 320 = .ok (.bipush 48, 2) := by decide +kernel
theorem dX7_init_322 : decode cX7_init 322 = .ok (.bipush 114, 2) := by decide +kernel
theorem dX7_init_324 : decode cX7_init 324 = .ok (.castore, 1) := by decide +kernel
theorem dX7_init_325 : decode cX7_init 325 = .ok (.dup, 1) := by decide +kernel
theorem dX7_init_326 : decode cX7_init 326 = .ok (.bipush 49, 2) := by decide +kernel
theorem dX7_init_328 : decode cX7_init 328 = .ok (.bipush 99, 2) := by decide +kernel
theorem dX7_init_330 : decode cX7_init 330 = .ok (.castore, 1) := by decide +kernel
theorem dX7_init_331 : decode cX7_init 331 = .ok (.dup, 1) := by decide +kernel
theorem dX7_init_332 : decode cX7_init 332 = .ok (.bipush 50, 2) := by decide +kernel
theorem dX7_init_334 : decode cX7_init 334 = .ok (.bipush 114, 2) := by decide +kernel
theorem dX7_init_336 : decode cX7_init 336 = .ok (.castore, 1) := by decide +kernel
theorem dX7_init_337 : decode cX7_init 337 = .ok (.dup, 1) := by decide +kernel
theorem dX7_init_338 : decode cX7_init 338 = .ok (.bipush 51, 2) := by decide +kernel
theorem dX7_init_340 : decode cX7_init 340 = .ok (.bipush 97, 2) := by decide +kernel
theorem dX7_init_342 : decode cX7_init 342 = .ok (.castore, 1) := by decide +kernel
theorem dX7_init_343 : decode cX7_init 343 = .ok (.dup, 1) := by decide +kernel
theorem dX7_init_344 : decode cX7_init 344 = .ok (.bipush 52, 2) := by decide +kernel
theorem dX7_init_346 : decode cX7_init 346 = .ok (.bipush 99, 2) := by decide +kernel
theorem dX7_init_348 : decode cX7_init 348 = .ok (.castore, 1) := by decide +kernel
theorem dX7_init_349 : decode cX7_init 349 = .ok (.dup, 1) := by decide +kernel
theorem dX7_init_350 : decode cX7_init 350 = .ok (.bipush 53, 2) := by decide +kernel
theorem dX7_init_352 : decode cX7_init 352 = .ok (.bipush 107, 2) := by decide +kernel
theorem dX7_init_354 : decode cX7_init 354 = .ok (.castore, 1) := by decide +kernel
theorem dX7_init_355 : decode cX7_init 355 = .ok (.dup, 1) := by decide +kernel
theorem dX7_init_356 : decode cX7_init 356 = .ok (.bipush 54, 2) := by decide +kernel
theorem dX7_init_358 : decode cX7_init 358 = .ok (.iconst 0, 1) := by decide +kernel
theorem dX7_init_359 : decode cX7_init 359 = .ok (.castore, 1) := by decide +kernel
theorem dX7_init_360 : decode cX7_init 360 = .ok (.dup, 1) := by decide +kernel
theorem dX7_init_361 : decode cX7_init 361 = .ok (.bipush 55, 2) := by decide +kernel
theorem dX7_init_363 : decode cX7_init 363 = .ok (.iconst 0, 1) := by decide +kernel
theorem dX7_init_364 : decode cX7_init 364 = .ok (.castore, 1) := by decide +kernel
theorem dX7_init_365 : decode cX7_init 365 = .ok (.dup, 1) := by decide +kernel
theorem dX7_init_366 : decode cX7_init 366 = .ok (.bipush 56, 2) := by decide +kernel
theorem dX7_init_368 : decode cX7_init 368 = .ok (.bipush 109, 2) := by decide +kernel
theorem dX7_init_370 : decode cX7_init 370 = .ok (.castore, 1) := by decide +kernel
theorem dX7_init_371 : decode cX7_init 371 = .ok (.dup, 1) := by decide +kernel
theorem dX7_init_372 : decode cX7_init 372 = .ok (.bipush 57, 2) := by decide +kernel
theorem dX7_init_374 : decode cX7_init 374 = .ok (.bipush 101, 2) := by decide +kernel
theorem dX7_init_376 : decode cX7_init 376 = .ok (.castore, 1) := by decide +kernel
theorem dX7_init_377 : decode cX7_init 377 = .ok (.dup, 1) := by decide +kernel
theorem dX7_init_378 : decode cX7_init 378 = .ok (.bipush 58, 2) := by decide +kernel
theorem dX7_init_380 : decode cX7_init 380 = .ok (.bipush 110, 2) := by decide +kernel
theorem dX7_init_382 : decode cX7_init 382 = .ok (.castore, 1) := by decide +kernel
theorem dX7_init_383 : decode cX7_init 383 = .ok (.dup, 1) := by decide +kernel
theorem dX7_init_384 : decode cX7_init 384 = .ok (.bipush 59, 2) := by decide +kernel
theorem dX7_init_386 : decode cX7_init 386 = .ok (.bipush 100, 2) := by decide +kernel
theorem dX7_init_388 : decode cX7_init 388 = .ok (.castore, 1) := by decide +kernel
theorem dX7_init_389 : decode cX7_init 389 = .ok (.dup, 1) := by decide +kernel
theorem dX7_init_390 : decode cX7_init 390 = .ok (.bipush 60, 2) := by decide +kernel
theorem dX7_init_392 : decode cX7_init 392 = .ok (.iconst 0, 1) := by decide +kernel
theorem dX7_init_393 : decode cX7_init 393 = .ok (.castore, 1) := by decide +kernel
theorem dX7_init_394 : decode cX7_init 394 = .ok (.dup, 1) := by decide +kernel
theorem dX7_init_395 : decode cX7_init 395 = .ok (.bipush 61, 2) := by decide +kernel
theorem dX7_init_397 : decode cX7_init 397 = .ok (.iconst 0, 1) := by decide +kernel
theorem dX7_init_398 : decode cX7_init 398 = .ok (.castore, 1) := by decide +kernel
theorem dX7_init_399 : decode cX7_init 399 = .ok (.dup, 1) := by decide +kernel
theorem dX7_init_400 : decode cX7_init 400 = .ok (.bipush 62, 2) := by decide +kernel
theorem dX7_init_402 : decode cX7_init 402 = .ok (.iconst 0, 1) := by decide +kernel
theorem dX7_init_403 : decode cX7_init 403 = .ok (.castore, 1) := by decide +kernel
theorem dX7_init_404 : decode cX7_init 404 = .ok (.dup, 1) := by decide +kernel
theorem dX7_init_405 : decode cX7_init 405 = .ok (.bipush 63, 2) := by decide +kernel
theorem dX7_init_407 : decode cX7_init 407 = .ok (.bipush 121, 2) := by decide +kernel
theorem dX7_init_409 : decode cX7_init 409 = .ok (.castore, 1) := by decide +kernel
theorem dX7_init_410 : decode cX7_init 410 = .ok (.dup, 1) := by decide +kernel
theorem dX7_init_411 : decode cX7_init 411 = .ok (.bipush 64, 2) := by decide +kernel
theorem dX7_init_413 : decode cX7_init 413 = .ok (.bipush 101, 2) := by decide +kernel
theorem dX7_init_415 : decode cX7_init 415 = .ok (.castore, 1) := by decide +kernel
theorem dX7_init_416 : decode cX7_init 416 = .ok (.dup, 1) := by decide +kernel
theorem dX7_init_417 : decode cX7_init 417 = .ok (.bipush 65, 2) := by decide +kernel
theorem dX7_init_419 : decode cX7_init 419 = .ok (.bipush 97, 2) := by decide +kernel
theorem dX7_init_421 : decode cX7_init 421 = .ok (.castore, 1) := by decide +kernel
theorem dX7_init_422 : decode cX7_init 422 = .ok (.dup, 1) := by decide +kernel
theorem dX7_init_423 : decode cX7_init 423 = .ok (.bipush 66, 2) := by decide +kernel
theorem dX7_init_425 : decode cX7_init 425 = .ok (.bipush 114, 2) := by decide +kernel
theorem dX7_init_427 : decode cX7_init 427 = .ok (.castore, 1) := by decide +kernel
theorem dX7_init_428 : decode cX7_init 428 = .ok (.dup, 1) := by decide +kernel
theorem dX7_init_429 : decode cX7_init 429 = .ok (.bipush 67, 2) := by decide +kernel
theorem dX7_init_431 : decode cX7_init 431 = .ok (.iconst 0, 1) := by decide +kernel
theorem dX7_init_432 : decode cX7_init 432 = .ok (.castore, 1) := by decide +kernel
theorem dX7_init_433 : decode cX7_init 433 = .ok (.dup, 1) := by decide +kernel
theorem dX7_init_434 : decode cX7_init 434 = .ok (.bipush 68, 2) := by decide +kernel
theorem dX7_init_436 : decode cX7_init 436 = .ok (.iconst 0, 1) := by decide +kernel
theorem dX7_init_437 : decode cX7_init 437 = .ok (.castore, 1) := by decide +kernel
theorem dX7_init_438 : decode cX7_init 438 = .ok (.dup, 1) := by decide +kernel
theorem dX7_init_439 : decode cX7_init 439 = .ok (.bipush 69, 2) := by decide +kernel
theorem dX7_init_441 : decode cX7_init 441 = .ok (.iconst 0, 1) := by decide +kernel
theorem dX7_init_442 : decode cX7_init 442 = .ok (.castore, 1) := by decide +kernel
theorem dX7_init_443 : decode cX7_init 443 = .ok (.putfield 29, 3) := by decide +kernel
theorem dX7_init_446 : decode cX7_init 446 = .ok (.aload_n 0, 1) := by decide +kernel
theorem dX7_init_447 : decode cX7_init 447 = .ok (.bipush 8, 2) := by decide +kernel
theorem dX7_init_449 : decode cX7_init 449 = .ok (.newarray .int, 2) := by decide +kernel
theorem dX7_init_451 : decode cX7_init 451 = .ok (.dup, 1) := by decide +kernel
theorem dX7_init_452 : decode cX7_init 452 = .ok (.iconst 0, 1) := by decide +kernel
theorem dX7_init_453 : decode cX7_init 453 = .ok (.iconst (-1), 1) := by decide +kernel
theorem dX7_init_454 : decode cX7_init 454 = .ok (.iastore, 1) := by decide +kernel
theorem dX7_init_455 : decode cX7_init 455 = .ok (.dup, 1) := by decide +kernel
theorem dX7_init_456 : decode cX7_init 456 = .ok (.iconst 1, 1) := by decide +kernel
theorem dX7_init_457 : decode cX7_init 457 = .ok (.iconst (-1), 1) := by decide +kernel
theorem dX7_init_458 : decode cX7_init 458 = .ok (.iastore, 1) := by decide +kernel
theorem dX7_init_459 : decode cX7_init 459 = .ok (.dup, 1) := by decide +kernel
theorem dX7_init_460 : decode cX7_init 460 = .ok (.iconst 2, 1) := by decide +kernel
theorem dX7_init_461 : decode cX7_init 461 = .ok (.iconst (-1), 1) := by decide +kernel
theorem dX7_init_462 : decode cX7_init 462 = .ok (.iastore, 1) := by decide +kernel
theorem dX7_init_463 : decode cX7_init 463 = .ok (.dup, 1) := by decide +kernel
theorem dX7_init_464 : decode cX7_init 464 = .ok (.iconst 3, 1) := by decide +kernel
theorem dX7_init_465 : decode cX7_init 465 = .ok (.iconst (-1), 1) := by decide +kernel
theorem dX7_init_466 : decode cX7_init 466 = .ok (.iastore, 1) := by decide +kernel
theorem dX7_init_467 : decode cX7_init 467 = .ok (.dup, 1) := by decide +kernel
theorem dX7_init_468 : decode cX7_init 468 = .ok (.iconst 4, 1) := by decide +kernel
theorem dX7_init_469 : decode cX7_init 469 = .ok (.iconst (-1), 1) := by decide +kernel
theorem dX7_init_470 : decode cX7_init 470 = .ok (.iastore, 1) := by decide +kernel
theorem dX7_init_471 : decode cX7_init 471 = .ok (.dup, 1) := by decide +kernel
theorem dX7_init_472 : decode cX7_init 472 = .ok (.iconst 5, 1) := by decide +kernel
theorem dX7_init_473 : decode cX7_init 473 = .ok (.iconst (-1), 1) := by decide +kernel
theorem dX7_init_474 : decode cX7_init 474 = .ok (.iastore, 1) := by decide +kernel
theorem dX7_init_475 : decode cX7_init 475 = .ok (.dup, 1) := by decide +kernel
theorem dX7_init_476 : decode cX7_init 476 = .ok (.bipush 6, 2) := by decide +kernel
theorem dX7_init_478 : decode cX7_init 478 = .ok (.iconst (-1), 1) := by decide +kernel
theorem dX7_init_479 : decode cX7_init 479 = .ok (.iastore, 1) := by decide +kernel
theorem dX7_init_480 : decode cX7_init 480 = .ok (.dup, 1) := by decide +kernel
theorem dX7_init_481 : decode cX7_init 481 = .ok (.bipush 7, 2) := by decide +kernel
theorem dX7_init_483 : decode cX7_init 483 = .ok (.iconst (-1), 1) := by decide +kernel
theorem dX7_init_484 : decode cX7_init 484 = .ok (.iastore, 1) := by decide +kernel
theorem dX7_init_485 : decode cX7_init 485 = .ok (.putfield 33, 3) := by decide +kernel
theorem dX7_init_488 : decode cX7_init 488 = .ok (.aload_n 0, 1) := by decide +kernel
theorem dX7_init_489 : decode cX7_init 489 = .ok (.bipush 8, 2) := by decide +kernel
theorem dX7_init_491 : decode cX7_init 491 = .ok (.newarray .int, 2) := by decide +kernel
theorem dX7_init_493 : decode cX7_init 493 = .ok (.putfield 36, 3) := by decide +kernel
theorem dX7_init_496 : decode cX7_init 496 = .ok (.aload_n 0, 1) := by decide +kernel
theorem dX7_init_497 : decode cX7_init 497 = .ok (.sipush 320, 3) := by decide +kernel
theorem dX7_init_500 : decode cX7_init 500 = .ok (.newarray .long, 2) := by decide +kernel
theorem dX7_init_502 : decode cX7_init 502 = .ok (.putfield 39, 3) := by decide +kernel
theorem dX7_init_505 : decode cX7_init 505 = .ok (.aload_n 0, 1) := by decide +kernel
theorem dX7_init_506 : decode cX7_init 506 = .ok (.bipush 40, 2) := by decide +kernel
theorem dX7_init_508 : decode cX7_init 508 = .ok (.newarray .long, 2) := by decide +kernel
theorem dX7_init_510 : decode cX7_init 510 = .ok (.putfield 43, 3) := by decide +kernel
theorem dX7_init_513 : decode cX7_init 513 = .ok (.aload_n 0, 1) := by decide +kernel
theorem dX7_init_514 : decode cX7_init 514 = .ok (.bipush 6, 2) := by decide +kernel
theorem dX7_init_516 : decode cX7_init 516 = .ok (.newarray .int, 2) := by decide +kernel
theorem dX7_init_518 : decode cX7_init 518 = .ok (.dup, 1) := by decide +kernel
theorem dX7_init_519 : decode cX7_init 519 = .ok (.iconst 0, 1) := by decide +kernel
theorem dX7_init_520 : decode cX7_init 520 = .ok (.iconst (-1), 1) := by decide +kernel
theorem dX7_init_521 : decode cX7_init 521 = .ok (.iastore, 1) := by decide +kernel
theorem dX7_init_522 : decode cX7_init 522 = .ok (.dup, 1) := by decide +kernel
theorem dX7_init_523 : decode cX7_init 523 = .ok (.iconst 1, 1) := by decide +kernel
theorem dX7_init_524 : decode cX7_init 524 = .ok (.iconst 0, 1) := by decide +kernel
theorem dX7_init_525 : decode cX7_init 525 = .ok (.iastore, 1) := by decide +kernel
theorem dX7_init_526 : decode cX7_init 526 = .ok (.dup, 1) := by decide +kernel
theorem dX7_init_527 : decode cX7_init 527 = .ok (.iconst 2, 1) := by decide +kernel
theorem dX7_init_528 : decode cX7_init 528 = .ok (.iconst 0, 1) := by decide +kernel
theorem dX7_init_529 : decode cX7_init 529 = .ok (.iastore, 1) := by decide +kernel
theorem dX7_init_530 : decode cX7_init 530 = .ok (.dup, 1) := by decide +kernel
theorem dX7_init_531 : decode cX7_init 531 = .ok (.iconst 3, 1) := by decide +kernel
theorem dX7_init_532 : decode cX7_init 532 = .ok (.iconst 1, 1) := by decide +kernel
theorem dX7_init_533 : decode cX7_init 533 = .ok (.iastore, 1) := by decide +kernel
theorem dX7_init_534 : decode cX7_init 534 = .ok (.dup, 1) := by decide +kernel
theorem dX7_init_535 : decode cX7_init 535 = .ok (.iconst 4, 1) := by decide +kernel
theorem dX7_init_536 : decode cX7_init 536 = .ok (.iconst 2, 1) := by decide +kernel
theorem dX7_init_537 : decode cX7_init 537 = .ok (.iastore, 1) := by decide +kernel
theorem dX7_init_538 : decode cX7_init 538 = .ok (.dup, 1) := by decide +kernel
theorem dX7_init_539 : decode cX7_init 539 = .ok (.iconst 5, 1) := by decide +kernel
theorem dX7_init_540 : decode cX7_init 540 = .ok (.iconst 0, 1) := by decide +kernel
theorem dX7_init_541 : decode cX7_init 541 = .ok (.iastore, 1) := by decide +kernel
theorem dX7_init_542 : decode cX7_init 542 = .ok (.putfield 46, 3) := by decide +kernel
theorem dX7_init_545 : decode cX7_init 545 = .ok (.return_, 1) := by decide +kernel
theorem dX7_isIn_0 : decode cX7_isIn 0 = .ok (.iload_n 0, 1) := by decide +kernel
theorem dX7_isIn_1 : decode cX7_isIn 1 = .ok (.iload_n 1, 1) := by decide +kernel
theorem dX7_isIn_2 : decode cX7_isIn 2 = .ok (.if_icmp .lt 12, 3) := by decide +kernel
theorem dX7_isIn_5 : decode cX7_isIn 5 = .ok (.iload_n 0, 1) := by decide +kernel
theorem dX7_isIn_6 : decode cX7_isIn 6 = .ok (.iload_n 2, 1) := by decide +kernel
theorem dX7_isIn_7 : decode cX7_isIn 7 = .ok (.if_icmp .gt 7, 3) := by decide +kernel
theorem dX7_isIn_10 : decode cX7_isIn 10 = .ok (.iconst 1, 1) := by decide +kernel
theorem dX7_isIn_11 : decode cX7_isIn 11 = .ok (.goto 4, 3) := by decide +kernel
theorem dX7_isIn_14 : decode cX7_isIn 14 = .ok (.iconst 0, 1) := by decide +kernel
theorem dX7_isIn_15 : decode cX7_isIn 15 = .ok (.ireturn, 1) := by decide +kernel
theorem dX7_fresh_0 : decode cX7_fresh 0 = .ok (.bipush 74, 2) := by decide +kernel
theorem dX7_fresh_2 : decode cX7_fresh 2 = .ok (.newarray .int, 2) := by decide +kernel
theorem dX7_fresh_4 : decode cX7_fresh 4 = .ok (.astore_n 0, 1) := by decide +kernel
theorem dX7_fresh_5 : decode cX7_fresh 5 = .ok (.aload_n 0, 1) := by decide +kernel
theorem dX7_fresh_6 : decode cX7_fresh 6 = .ok (.bipush 73, 2) := by decide +kernel
theorem dX7_fresh_8 : decode cX7_fresh 8 = .ok (.iconst 1, 1) := by decide +kernel
theorem dX7_fresh_9 : decode cX7_fresh 9 = .ok (.iastore, 1) := by decide +kernel
theorem dX7_fresh_10 : decode cX7_fresh 10 = .ok (.aload_n 0, 1) := by decide +kernel
theorem dX7_fresh_11 : decode cX7_fresh 11 = .ok (.areturn, 1) := by decide +kernel
theorem dX7_move_0 : decode cX7_move 0 = .ok (.iconst 0, 1) := by decide +kernel
theorem dX7_move_1 : decode cX7_move 1 = .ok (.istore_n 2, 1) := by decide +kernel
theorem dX7_move_2 : decode cX7_move 2 = .ok (.iload_n 2, 1) := by decide +kernel
theorem dX7_move_3 : decode cX7_move 3 = .ok (.bipush 74, 2) := by decide +kernel
theorem dX7_move_5 : decode cX7_move 5 = .ok (.if_icmp .ge 15, 3) := by decide +kernel
theorem dX7_move_8 : decode cX7_move 8 = .ok (.aload_n 1, 1) := by decide +kernel
theorem dX7_move_9 : decode cX7_move 9 = .ok (.iload_n 2, 1) := by decide +kernel
theorem dX7_move_10 : decode cX7_move 10 = .ok (.aload_n 0, 1) := by decide +kernel
theorem dX7_move_11 : decode cX7_move 11 = .ok (.iload_n 2, 1) := by decide +kernel
theorem dX7_move_12 : decode cX7_move 12 = .ok (.iaload, 1) := by decide +kernel
theorem dX7_move_13 : decode cX7_move 13 = .ok (.iastore, 1) := by decide +kernel
theorem dX7_move_14 : decode cX7_move 14 = .ok (.iinc 2 1, 3) := by decide +kernel
theorem dX7_move_17 : decode cX7_move 17 = .ok (.goto (-15), 3) := by decide +kernel
theorem dX7_move_20 : decode cX7_move 20 = .ok (.return_, 1) := by decide +kernel
theorem dX7_no_0 : decode cX7_no 0 = .ok (.aload_n 0, 1) := by decide +kernel
theorem dX7_no_1 : decode cX7_no 1 = .ok (.getfield 23, 3) := by decide +kernel
theorem dX7_no_4 : decode cX7_no 4 = .ok (.iload_n 1, 1) := by decide +kernel
theorem dX7_no_5 : decode cX7_no 5 = .ok (.ineg, 1) := by decide +kernel
theorem dX7_no_6 : decode cX7_no 6 = .ok (.dup2, 1) := by decide +kernel
theorem dX7_no_7 : decode cX7_no 7 = .ok (.iaload, 1) := by decide +kernel
theorem dX7_no_8 : decode cX7_no 8 = .ok (.iconst 1, 1) := by decide +kernel
theorem dX7_no_9 : decode cX7_no 9 = .ok (.iadd, 1) := by decide +kernel
theorem dX7_no_10 : decode cX7_no 10 = .ok (.iastore, 1) := by decide +kernel
theorem dX7_no_11 : decode cX7_no 11 = .ok (.iload_n 1, 1) := by decide +kernel
theorem dX7_no_12 : decode cX7_no 12 = .ok (.ireturn, 1) := by decide +kernel
theorem dX7_many_0 : decode cX7_many 0 = .ok (.aload_n 0, 1) := by decide +kernel
theorem dX7_many_1 : decode cX7_many 1 = .ok (.getfield 13, 3) := by decide +kernel
theorem dX7_many_4 : decode cX7_many 4 = .ok (.bipush 68, 2) := by decide +kernel
theorem dX7_many_6 : decode cX7_many 6 = .ok (.iaload, 1) := by decide +kernel
theorem dX7_many_7 : decode cX7_many 7 = .ok (.ireturn, 1) := by decide +kernel
theorem dX7_isThing_0 : decode cX7_isThing 0 = .ok (.iload_n 1, 1) := by decide +kernel
theorem dX7_isThing_1 : decode cX7_isThing 1 = .ok (.iconst 0, 1) := by decide +kernel
theorem dX7_isThing_2 : decode cX7_isThing 2 = .ok (.aload_n 0, 1) := by decide +kernel
theorem dX7_isThing_3 : decode cX7_isThing 3 = .ok (.getfield 13, 3) := by decide +kernel
theorem dX7_isThing_6 : decode cX7_isThing 6 = .ok (.bipush 68, 2) := by decide +kernel
theorem dX7_isThing_8 : decode cX7_isThing 8 = .ok (.iaload, 1) := by decide +kernel
theorem dX7_isThing_9 : decode cX7_isThing 9 = .ok (.iconst 1, 1) := by decide +kernel
theorem dX7_isThing_10 : decode cX7_isThing 10 = .ok (.isub, 1) := by decide +kernel
theorem dX7_isThing_11 : decode cX7_isThing 11 = .ok (.invokestatic 49, 3) := by decide +kernel
theorem dX7_isThing_14 : decode cX7_isThing 14 = .ok (.ireturn, 1) := by decide +kernel
theorem dX7_isRinger_0 : decode cX7_isRinger 0 = .ok (.iload_n 1, 1) := by decide +kernel
theorem dX7_isRinger_1 : decode cX7_isRinger 1 = .ok (.iconst 0, 1) := by decide +kernel
theorem dX7_isRinger_2 : decode cX7_isRinger 2 = .ok (.aload_n 0, 1) := by decide +kernel
theorem dX7_isRinger_3 : decode cX7_isRinger 3 = .ok (.getfield 13, 3) := by decide +kernel
theorem dX7_isRinger_6 : decode cX7_isRinger 6 = .ok (.bipush 69, 2) := by decide +kernel
theorem dX7_isRinger_8 : decode cX7_isRinger 8 = .ok (.iaload, 1) := by decide +kernel
theorem dX7_isRinger_9 : decode cX7_isRinger 9 = .ok (.iconst 1, 1) := by decide +kernel
theorem dX7_isRinger_10 : decode cX7_isRinger 10 = .ok (.isub, 1) := by decide +kernel
theorem dX7_isRinger_11 : decode cX7_isRinger 11 = .ok (.invokestatic 49, 3) := by decide +kernel
theorem dX7_isRinger_14 : decode cX7_isRinger 14 = .ok (.ireturn, 1) := by decide +kernel
theorem dX7_areThings_0 : decode cX7_areThings 0 = .ok (.iload_n 1, 1) := by decide +kernel
theorem dX7_areThings_1 : decode cX7_areThings 1 = .ok (.ifCond .lt 20, 3) := by decide +kernel
theorem dX7_areThings_4 : decode cX7_areThings 4 = .ok (.iload_n 1, 1) := by decide +kernel
theorem dX7_areThings_5 : decode cX7_areThings 5 = .ok (.iconst 1, 1) := by decide +kernel
theorem dX7_areThings_6 : decode cX7_areThings 6 = .ok (.aload_n 0, 1) := by decide +kernel
theorem dX7_areThings_7 : decode cX7_areThings 7 = .ok (.getfield 13, 3) := by decide +kernel
theorem dX7_areThings_10 : decode cX7_areThings 10 = .ok (.bipush 68, 2) := by decide +kernel
theorem dX7_areThings_12 : decode cX7_areThings 12 = .ok (.iaload, 1) := by decide +kernel
theorem dX7_areThings_13 : decode cX7_areThings 13 = .ok (.ishl, 1) := by decide +kernel
theorem dX7_areThings_14 : decode cX7_areThings 14 = .ok (.if_icmp .ge 7, 3) := by decide +kernel
theorem dX7_areThings_17 : decode cX7_areThings 17 = .ok (.iconst 1, 1) := by decide +kernel
theorem dX7_areThings_18 : decode cX7_areThings 18 = .ok (.goto 4, 3) := by decide +kernel
theorem dX7_areThings_21 : decode cX7_areThings 21 = .ok (.iconst 0, 1) := by decide +kernel
theorem dX7_areThings_22 : decode cX7_areThings 22 = .ok (.ireturn, 1) := by decide +kernel
theorem dX7_of_0 : decode cX7_of 0 = .ok (.aload_n 0, 1) := by decide +kernel
theorem dX7_of_1 : decode cX7_of 1 = .ok (.getfield 13, 3) := by decide +kernel
theorem dX7_of_4 : decode cX7_of 4 = .ok (.iconst 5, 1) := by decide +kernel
theorem dX7_of_5 : decode cX7_of 5 = .ok (.iload_n 1, 1) := by decide +kernel
theorem dX7_of_6 : decode cX7_of 6 = .ok (.imul, 1) := by decide +kernel
theorem dX7_of_7 : decode cX7_of 7 = .ok (.iload_n 2, 1) := by decide +kernel
theorem dX7_of_8 : decode cX7_of 8 = .ok (.iadd, 1) := by decide +kernel
theorem dX7_of_9 : decode cX7_of 9 = .ok (.iaload, 1) := by decide +kernel
theorem dX7_of_10 : decode cX7_of 10 = .ok (.ireturn, 1) := by decide +kernel
theorem dX7_becomes_0 : decode cX7_becomes 0 = .ok (.aload_n 0, 1) := by decide +kernel
theorem dX7_becomes_1 : decode cX7_becomes 1 = .ok (.iload_n 1, 1) := by decide +kernel
theorem dX7_becomes_2 : decode cX7_becomes 2 = .ok (.iload_n 2, 1) := by decide +kernel
theorem dX7_becomes_3 : decode cX7_becomes 3 = .ok (.invokevirtual 53, 3) := by decide +kernel
theorem dX7_becomes_6 : decode cX7_becomes 6 = .ok (.istore 4, 2) := by decide +kernel
theorem dX7_becomes_8 : decode cX7_becomes 8 = .ok (.aload_n 0, 1) := by decide +kernel
theorem dX7_becomes_9 : decode cX7_becomes 9 = .ok (.getfield 13, 3) := by decide +kernel
theorem dX7_becomes_12 : decode cX7_becomes 12 = .ok (.iconst 5, 1) := by decide +kernel
theorem dX7_becomes_13 : decode cX7_becomes 13 = .ok (.iload_n 1, 1) := by decide +kernel
theorem dX7_becomes_14 : decode cX7_becomes 14 = .ok (.imul, 1) := by decide +kernel
theorem dX7_becomes_15 : decode cX7_becomes 15 = .ok (.iload_n 2, 1) := by decide +kernel
theorem dX7_becomes_16 : decode cX7_becomes 16 = .ok (.iadd, 1) := by decide +kernel
theorem dX7_becomes_17 : decode cX7_becomes 17 = .ok (.iload_n 3, 1) := by decide +kernel
theorem dX7_becomes_18 : decode cX7_becomes 18 = .ok (.iastore, 1) := by decide +kernel
theorem dX7_becomes_19 : decode cX7_becomes 19 = .ok (.iload 4, 2) := by decide +kernel
theorem dX7_becomes_21 : decode cX7_becomes 21 = .ok (.ireturn, 1) := by decide +kernel
theorem dX7_been_0 : decode cX7_been 0 = .ok (.iconst 0, 1) := by decide +kernel
theorem dX7_been_1 : decode cX7_been 1 = .ok (.istore_n 1, 1) := by decide +kernel
theorem dX7_been_2 : decode cX7_been 2 = .ok (.iconst 0, 1) := by decide +kernel
theorem dX7_been_3 : decode cX7_been 3 = .ok (.istore_n 2, 1) := by decide +kernel
theorem dX7_been_4 : decode cX7_been 4 = .ok (.iload_n 2, 1) := by decide +kernel
theorem dX7_been_5 : decode cX7_been 5 = .ok (.aload_n 0, 1) := by decide +kernel
theorem dX7_been_6 : decode cX7_been 6 = .ok (.invokevirtual 57, 3) := by decide +kernel
theorem dX7_been_9 : decode cX7_been 9 = .ok (.if_icmp .ge 20, 3) := by decide +kernel
theorem dX7_been_12 : decode cX7_been 12 = .ok (.iload_n 1, 1) := by decide +kernel
theorem dX7_been_13 : decode cX7_been 13 = .ok (.aload_n 0, 1) := by decide +kernel
theorem dX7_been_14 : decode cX7_been 14 = .ok (.iload_n 2, 1) := by decide +kernel
theorem dX7_been_15 : decode cX7_been 15 = .ok (.iconst 3, 1) := by decide +kernel
theorem dX7_been_16 : decode cX7_been 16 = .ok (.invokevirtual 53, 3) := by decide +kernel
theorem dX7_been_19 : decode cX7_been 19 = .ok (.iload_n 2, 1) := by decide +kernel
theorem dX7_been_20 : decode cX7_been 20 = .ok (.ishl, 1) := by decide +kernel
theorem dX7_been_21 : decode cX7_been 21 = .ok (.ior, 1) := by decide +kernel
theorem dX7_been_22 : decode cX7_been 22 = .ok (.istore_n 1, 1) := by decide +kernel
theorem dX7_been_23 : decode cX7_been 23 = .ok (.iinc 2 1, 3) := by decide +kernel
theorem dX7_been_26 : decode cX7_been 26 = .ok (.goto (-22), 3) := by decide +kernel
theorem dX7_been_29 : decode cX7_been 29 = .ok (.iload_n 1, 1) := by decide +kernel
theorem dX7_been_30 : decode cX7_been 30 = .ok (.ireturn, 1) := by decide +kernel
theorem dX7_isOpen_0 : decode cX7_isOpen 0 = .ok (.aload_n 0, 1) := by decide +kernel
theorem dX7_isOpen_1 : decode cX7_isOpen 1 = .ok (.getfield 13, 3) := by decide +kernel
theorem dX7_isOpen_4 : decode cX7_isOpen 4 = .ok (.bipush 72, 2) := by decide +kernel
theorem dX7_isOpen_6 : decode cX7_isOpen 6 = .ok (.iaload, 1) := by decide +kernel
theorem dX7_isOpen_7 : decode cX7_isOpen 7 = .ok (.iload_n 1, 1) := by decide +kernel
theorem dX7_isOpen_8 : decode cX7_isOpen 8 = .ok (.bipush 8, 2) := by decide +kernel
theorem dX7_isOpen_10 : decode cX7_isOpen 10 = .ok (.irem, 1) := by decide +kernel
theorem dX7_isOpen_11 : decode cX7_isOpen 11 = .ok (.ishr, 1) := by decide +kernel
theorem dX7_isOpen_12 : decode cX7_isOpen 12 = .ok (.iconst 1, 1) := by decide +kernel
theorem dX7_isOpen_13 : decode cX7_isOpen 13 = .ok (.iand, 1) := by decide +kernel
theorem dX7_isOpen_14 : decode cX7_isOpen 14 = .ok (.ifCond .ne 7, 3) := by decide +kernel
theorem dX7_isOpen_17 : decode cX7_isOpen 17 = .ok (.iconst 1, 1) := by decide +kernel
theorem dX7_isOpen_18 : decode cX7_isOpen 18 = .ok (.goto 4, 3) := by decide +kernel
theorem dX7_isOpen_21 : decode cX7_isOpen 21 = .ok (.iconst 0, 1) := by decide +kernel
theorem dX7_isOpen_22 : decode cX7_isOpen 22 = .ok (.ireturn, 1) := by decide +kernel
theorem dX7_may_0 : decode cX7_may 0 = .ok (.aload_n 0, 1) := by decide +kernel
theorem dX7_may_1 : decode cX7_may 1 = .ok (.iload_n 1, 1) := by decide +kernel
theorem dX7_may_2 : decode cX7_may 2 = .ok (.invokevirtual 61, 3) := by decide +kernel
theorem dX7_may_5 : decode cX7_may 5 = .ok (.ifCond .ne 7, 3) := by decide +kernel
theorem dX7_may_8 : decode cX7_may 8 = .ok (.iconst 0, 1) := by decide +kernel
theorem dX7_may_9 : decode cX7_may 9 = .ok (.goto 37, 3) := by decide +kernel
theorem dX7_may_12 : decode cX7_may 12 = .ok (.aload_n 0, 1) := by decide +kernel
theorem dX7_may_13 : decode cX7_may 13 = .ok (.iload_n 1, 1) := by decide +kernel
theorem dX7_may_14 : decode cX7_may 14 = .ok (.iconst 3, 1) := by decide +kernel
theorem dX7_may_15 : decode cX7_may 15 = .ok (.invokevirtual 53, 3) := by decide +kernel
theorem dX7_may_18 : decode cX7_may 18 = .ok (.ifCond .ne 7, 3) := by decide +kernel
theorem dX7_may_21 : decode cX7_may 21 = .ok (.iconst 2, 1) := by decide +kernel
theorem dX7_may_22 : decode cX7_may 22 = .ok (.goto 24, 3) := by decide +kernel
theorem dX7_may_25 : decode cX7_may 25 = .ok (.aload_n 0, 1) := by decide +kernel
theorem dX7_may_26 : decode cX7_may 26 = .ok (.iload_n 1, 1) := by decide +kernel
theorem dX7_may_27 : decode cX7_may 27 = .ok (.iconst 1, 1) := by decide +kernel
theorem dX7_may_28 : decode cX7_may 28 = .ok (.invokevirtual 53, 3) := by decide +kernel
theorem dX7_may_31 : decode cX7_may 31 = .ok (.aload_n 0, 1) := by decide +kernel
theorem dX7_may_32 : decode cX7_may 32 = .ok (.getfield 13, 3) := by decide +kernel
theorem dX7_may_35 : decode cX7_may 35 = .ok (.bipush 70, 2) := by decide +kernel
theorem dX7_may_37 : decode cX7_may 37 = .ok (.iaload, 1) := by decide +kernel
theorem dX7_may_38 : decode cX7_may 38 = .ok (.if_icmp .ne 7, 3) := by decide +kernel
theorem dX7_may_41 : decode cX7_may 41 = .ok (.iconst 1, 1) := by decide +kernel
theorem dX7_may_42 : decode cX7_may 42 = .ok (.goto 4, 3) := by decide +kernel
theorem dX7_may_45 : decode cX7_may 45 = .ok (.iconst 0, 1) := by decide +kernel
theorem dX7_may_46 : decode cX7_may 46 = .ok (.ireturn, 1) := by decide +kernel
theorem dX7_standsBy_0 : decode cX7_standsBy 0 = .ok (.iconst 0, 1) := by decide +kernel
theorem dX7_standsBy_1 : decode cX7_standsBy 1 = .ok (.istore_n 2, 1) := by decide +kernel
theorem dX7_standsBy_2 : decode cX7_standsBy 2 = .ok (.iconst 0, 1) := by decide +kernel
theorem dX7_standsBy_3 : decode cX7_standsBy 3 = .ok (.istore_n 3, 1) := by decide +kernel
theorem dX7_standsBy_4 : decode cX7_standsBy 4 = .ok (.iload_n 3, 1) := by decide +kernel
theorem dX7_standsBy_5 : decode cX7_standsBy 5 = .ok (.aload_n 0, 1) := by decide +kernel
theorem dX7_standsBy_6 : decode cX7_standsBy 6 = .ok (.invokevirtual 57, 3) := by decide +kernel
theorem dX7_standsBy_9 : decode cX7_standsBy 9 = .ok (.if_icmp .ge 41, 3) := by decide +kernel
theorem dX7_standsBy_12 : decode cX7_standsBy 12 = .ok (.iload_n 2, 1) := by decide +kernel
theorem dX7_standsBy_13 : decode cX7_standsBy 13 = .ok (.iload_n 1, 1) := by decide +kernel
theorem dX7_standsBy_14 : decode cX7_standsBy 14 = .ok (.iload_n 3, 1) := by decide +kernel
theorem dX7_standsBy_15 : decode cX7_standsBy 15 = .ok (.ishr, 1) := by decide +kernel
theorem dX7_standsBy_16 : decode cX7_standsBy 16 = .ok (.iconst 1, 1) := by decide +kernel
theorem dX7_standsBy_17 : decode cX7_standsBy 17 = .ok (.iand, 1) := by decide +kernel
theorem dX7_standsBy_18 : decode cX7_standsBy 18 = .ok (.iconst 1, 1) := by decide +kernel
theorem dX7_standsBy_19 : decode cX7_standsBy 19 = .ok (.if_icmp .ne 22, 3) := by decide +kernel
theorem dX7_standsBy_22 : decode cX7_standsBy 22 = .ok (.aload_n 0, 1) := by decide +kernel
theorem dX7_standsBy_23 : decode cX7_standsBy 23 = .ok (.iload_n 3, 1) := by decide +kernel
theorem dX7_standsBy_24 : decode cX7_standsBy 24 = .ok (.iconst 2, 1) := by decide +kernel
theorem dX7_standsBy_25 : decode cX7_standsBy 25 = .ok (.invokevirtual 53, 3) := by decide +kernel
theorem dX7_standsBy_28 : decode cX7_standsBy 28 = .ok (.iload_n 2, 1) := by decide +kernel
theorem dX7_standsBy_29 : decode cX7_standsBy 29 = .ok (.iconst (-1), 1) := by decide +kernel
theorem dX7_standsBy_30 : decode cX7_standsBy 30 = .ok (.ixor, 1) := by decide +kernel
theorem dX7_standsBy_31 : decode cX7_standsBy 31 = .ok (.iand, 1) := by decide +kernel
theorem dX7_standsBy_32 : decode cX7_standsBy 32 = .ok (.ifCond .ne 9, 3) := by decide +kernel
theorem dX7_standsBy_35 : decode cX7_standsBy 35 = .ok (.iconst 1, 1) := by decide +kernel
theorem dX7_standsBy_36 : decode cX7_standsBy 36 = .ok (.iload_n 3, 1) := by decide +kernel
theorem dX7_standsBy_37 : decode cX7_standsBy 37 = .ok (.ishl, 1) := by decide +kernel
theorem dX7_standsBy_38 : decode cX7_standsBy 38 = .ok (.goto 4, 3) := by decide +kernel
theorem dX7_standsBy_41 : decode cX7_standsBy 41 = .ok (.iconst 0, 1) := by decide +kernel
theorem dX7_standsBy_42 : decode cX7_standsBy 42 = .ok (.ior, 1) := by decide +kernel
theorem dX7_standsBy_43 : decode cX7_standsBy 43 = .ok (.istore_n 2, 1) := by decide +kernel
theorem dX7_standsBy_44 : decode cX7_standsBy 44 = .ok (.iinc 3 1, 3) := by decide +kernel
theorem dX7_standsBy_47 : decode cX7_standsBy 47 = .ok (.goto (-43), 3) := by decide +kernel
theorem dX7_standsBy_50 : decode cX7_standsBy 50 = .ok (.iload_n 2, 1) := by decide +kernel
theorem dX7_standsBy_51 : decode cX7_standsBy 51 = .ok (.ireturn, 1) := by decide +kernel
theorem dX7_worthOf_0 : decode cX7_worthOf 0 = .ok (.iconst 0, 1) := by decide +kernel
theorem dX7_worthOf_1 : decode cX7_worthOf 1 = .ok (.istore_n 2, 1) := by decide +kernel
theorem dX7_worthOf_2 : decode cX7_worthOf 2 = .ok (.iconst 0, 1) := by decide +kernel
theorem dX7_worthOf_3 : decode cX7_worthOf 3 = .ok (.istore_n 3, 1) := by decide +kernel
theorem dX7_worthOf_4 : decode cX7_worthOf 4 = .ok (.iload_n 3, 1) := by decide +kernel
theorem dX7_worthOf_5 : decode cX7_worthOf 5 = .ok (.aload_n 0, 1) := by decide +kernel
theorem dX7_worthOf_6 : decode cX7_worthOf 6 = .ok (.invokevirtual 57, 3) := by decide +kernel
theorem dX7_worthOf_9 : decode cX7_worthOf 9 = .ok (.if_icmp .ge 24, 3) := by decide +kernel
theorem dX7_worthOf_12 : decode cX7_worthOf 12 = .ok (.iload_n 2, 1) := by decide +kernel
theorem dX7_worthOf_13 : decode cX7_worthOf 13 = .ok (.iload_n 1, 1) := by decide +kernel
theorem dX7_worthOf_14 : decode cX7_worthOf 14 = .ok (.iload_n 3, 1) := by decide +kernel
theorem dX7_worthOf_15 : decode cX7_worthOf 15 = .ok (.ishr, 1) := by decide +kernel
theorem dX7_worthOf_16 : decode cX7_worthOf 16 = .ok (.iconst 1, 1) := by decide +kernel
theorem dX7_worthOf_17 : decode cX7_worthOf 17 = .ok (.iand, 1) := by decide +kernel
theorem dX7_worthOf_18 : decode cX7_worthOf 18 = .ok (.aload_n 0, 1) := by decide +kernel
theorem dX7_worthOf_19 : decode cX7_worthOf 19 = .ok (.iload_n 3, 1) := by decide +kernel
theorem dX7_worthOf_20 : decode cX7_worthOf 20 = .ok (.iconst 0, 1) := by decide +kernel
theorem dX7_worthOf_21 : decode cX7_worthOf 21 = .ok (.invokevirtual 53, 3) := by decide +kernel
theorem dX7_worthOf_24 : decode cX7_worthOf 24 = .ok (.imul, 1) := by decide +kernel
theorem dX7_worthOf_25 : decode cX7_worthOf 25 = .ok (.iadd, 1) := by decide +kernel
theorem dX7_worthOf_26 : decode cX7_worthOf 26 = .ok (.istore_n 2, 1) := by decide +kernel
theorem dX7_worthOf_27 : decode cX7_worthOf 27 = .ok (.iinc 3 1, 3) := by decide +kernel
theorem dX7_worthOf_30 : decode cX7_worthOf 30 = .ok (.goto (-26), 3) := by decide +kernel
theorem dX7_worthOf_33 : decode cX7_worthOf 33 = .ok (.iload_n 2, 1) := by decide +kernel
theorem dX7_worthOf_34 : decode cX7_worthOf 34 = .ok (.ireturn, 1) := by decide +kernel
theorem dX7_valueBy_0 : decode cX7_valueBy 0 = .ok (.aload_n 0, 1) := by decide +kernel
theorem dX7_valueBy_1 : decode cX7_valueBy 1 = .ok (.aload_n 0, 1) := by decide +kernel
theorem dX7_valueBy_2 : decode cX7_valueBy 2 = .ok (.iload_n 1, 1) := by decide +kernel
theorem dX7_valueBy_3 : decode cX7_valueBy 3 = .ok (.invokevirtual 65, 3) := by decide +kernel
theorem dX7_valueBy_6 : decode cX7_valueBy 6 = .ok (.invokevirtual 69, 3) := by decide +kernel
theorem dX7_valueBy_9 : decode cX7_valueBy 9 = .ok (.ireturn, 1) := by decide +kernel
theorem dX7_isFewer_0 : decode cX7_isFewer 0 = .ok (.iload_n 1, 1) := by decide +kernel
theorem dX7_isFewer_1 : decode cX7_isFewer 1 = .ok (.iconst (-1), 1) := by decide +kernel
theorem dX7_isFewer_2 : decode cX7_isFewer 2 = .ok (.if_icmp .eq 14, 3) := by decide +kernel
theorem dX7_isFewer_5 : decode cX7_isFewer 5 = .ok (.iload_n 0, 1) := by decide +kernel
theorem dX7_isFewer_6 : decode cX7_isFewer 6 = .ok (.invokestatic 72, 3) := by decide +kernel
theorem dX7_isFewer_9 : decode cX7_isFewer 9 = .ok (.iload_n 1, 1) := by decide +kernel
theorem dX7_isFewer_10 : decode cX7_isFewer 10 = .ok (.invokestatic 72, 3) := by decide +kernel
theorem dX7_isFewer_13 : decode cX7_isFewer 13 = .ok (.if_icmp .ge 7, 3) := by decide +kernel
theorem dX7_isFewer_16 : decode cX7_isFewer 16 = .ok (.iconst 1, 1) := by decide +kernel
theorem dX7_isFewer_17 : decode cX7_isFewer 17 = .ok (.goto 4, 3) := by decide +kernel
theorem dX7_isFewer_20 : decode cX7_isFewer 20 = .ok (.iconst 0, 1) := by decide +kernel
theorem dX7_isFewer_21 : decode cX7_isFewer 21 = .ok (.ireturn, 1) := by decide +kernel
theorem dX7_addThing_0 : decode cX7_addThing 0 = .ok (.aload_n 0, 1) := by decide +kernel
theorem dX7_addThing_1 : decode cX7_addThing 1 = .ok (.invokevirtual 57, 3) := by decide +kernel
theorem dX7_addThing_4 : decode cX7_addThing 4 = .ok (.istore_n 3, 1) := by decide +kernel
theorem dX7_addThing_5 : decode cX7_addThing 5 = .ok (.aload_n 0, 1) := by decide +kernel
theorem dX7_addThing_6 : decode cX7_addThing 6 = .ok (.iload_n 3, 1) := by decide +kernel
theorem dX7_addThing_7 : decode cX7_addThing 7 = .ok (.iconst 0, 1) := by decide +kernel
theorem dX7_addThing_8 : decode cX7_addThing 8 = .ok (.iload_n 1, 1) := by decide +kernel
theorem dX7_addThing_9 : decode cX7_addThing 9 = .ok (.invokevirtual 77, 3) := by decide +kernel
theorem dX7_addThing_12 : decode cX7_addThing 12 = .ok (.pop, 1) := by decide +kernel
theorem dX7_addThing_13 : decode cX7_addThing 13 = .ok (.aload_n 0, 1) := by decide +kernel
theorem dX7_addThing_14 : decode cX7_addThing 14 = .ok (.iload_n 3, 1) := by decide +kernel
theorem dX7_addThing_15 : decode cX7_addThing 15 = .ok (.iconst 1, 1) := by decide +kernel
theorem dX7_addThing_16 : decode cX7_addThing 16 = .ok (.iload_n 2, 1) := by decide +kernel
theorem dX7_addThing_17 : decode cX7_addThing 17 = .ok (.invokevirtual 77, 3) := by decide +kernel
theorem dX7_addThing_20 : decode cX7_addThing 20 = .ok (.pop, 1) := by decide +kernel
theorem dX7_addThing_21 : decode cX7_addThing 21 = .ok (.aload_n 0, 1) := by decide +kernel
theorem dX7_addThing_22 : decode cX7_addThing 22 = .ok (.iload_n 3, 1) := by decide +kernel
theorem dX7_addThing_23 : decode cX7_addThing 23 = .ok (.iconst 2, 1) := by decide +kernel
theorem dX7_addThing_24 : decode cX7_addThing 24 = .ok (.iconst 0, 1) := by decide +kernel
theorem dX7_addThing_25 : decode cX7_addThing 25 = .ok (.invokevirtual 77, 3) := by decide +kernel
theorem dX7_addThing_28 : decode cX7_addThing 28 = .ok (.pop, 1) := by decide +kernel
theorem dX7_addThing_29 : decode cX7_addThing 29 = .ok (.aload_n 0, 1) := by decide +kernel
theorem dX7_addThing_30 : decode cX7_addThing 30 = .ok (.iload_n 3, 1) := by decide +kernel
theorem dX7_addThing_31 : decode cX7_addThing 31 = .ok (.iconst 3, 1) := by decide +kernel
theorem dX7_addThing_32 : decode cX7_addThing 32 = .ok (.iconst 1, 1) := by decide +kernel
theorem dX7_addThing_33 : decode cX7_addThing 33 = .ok (.invokevirtual 77, 3) := by decide +kernel
theorem dX7_addThing_36 : decode cX7_addThing 36 = .ok (.pop, 1) := by decide +kernel
theorem dX7_addThing_37 : decode cX7_addThing 37 = .ok (.aload_n 0, 1) := by decide +kernel
theorem dX7_addThing_38 : decode cX7_addThing 38 = .ok (.iload_n 3, 1) := by decide +kernel
theorem dX7_addThing_39 : decode cX7_addThing 39 = .ok (.iconst 4, 1) := by decide +kernel
theorem dX7_addThing_40 : decode cX7_addThing 40 = .ok (.iconst 0, 1) := by decide +kernel
theorem dX7_addThing_41 : decode cX7_addThing 41 = .ok (.invokevirtual 77, 3) := by decide +kernel
theorem dX7_addThing_44 : decode cX7_addThing 44 = .ok (.pop, 1) := by decide +kernel
theorem dX7_addThing_45 : decode cX7_addThing 45 = .ok (.aload_n 0, 1) := by decide +kernel
theorem dX7_addThing_46 : decode cX7_addThing 46 = .ok (.getfield 13, 3) := by decide +kernel
theorem dX7_addThing_49 : decode cX7_addThing 49 = .ok (.bipush 68, 2) := by decide +kernel
theorem dX7_addThing_51 : decode cX7_addThing 51 = .ok (.dup2, 1) := by decide +kernel
theorem dX7_addThing_52 : decode cX7_addThing 52 = .ok (.iaload, 1) := by decide +kernel
theorem dX7_addThing_53 : decode cX7_addThing 53 = .ok (.iconst 1, 1) := by decide +kernel
theorem dX7_addThing_54 : decode cX7_addThing 54 = .ok (.iadd, 1) := by decide +kernel
theorem dX7_addThing_55 : decode cX7_addThing 55 = .ok (.iastore, 1) := by decide +kernel
theorem dX7_addThing_56 : decode cX7_addThing 56 = .ok (.iload_n 3, 1) := by decide +kernel
theorem dX7_addThing_57 : decode cX7_addThing 57 = .ok (.ireturn, 1) := by decide +kernel
theorem dX7_addRinger_0 : decode cX7_addRinger 0 = .ok (.aload_n 0, 1) := by decide +kernel
theorem dX7_addRinger_1 : decode cX7_addRinger 1 = .ok (.getfield 13, 3) := by decide +kernel
theorem dX7_addRinger_4 : decode cX7_addRinger 4 = .ok (.bipush 69, 2) := by decide +kernel
theorem dX7_addRinger_6 : decode cX7_addRinger 6 = .ok (.iaload, 1) := by decide +kernel
theorem dX7_addRinger_7 : decode cX7_addRinger 7 = .ok (.istore 4, 2) := by decide +kernel
theorem dX7_addRinger_9 : decode cX7_addRinger 9 = .ok (.aload_n 0, 1) := by decide +kernel
theorem dX7_addRinger_10 : decode cX7_addRinger 10 = .ok (.getfield 13, 3) := by decide +kernel
theorem dX7_addRinger_13 : decode cX7_addRinger 13 = .ok (.bipush 50, 2) := by decide +kernel
theorem dX7_addRinger_15 : decode cX7_addRinger 15 = .ok (.iconst 3, 1) := by decide +kernel
theorem dX7_addRinger_16 : decode cX7_addRinger 16 = .ok (.iload 4, 2) := by decide +kernel
theorem dX7_addRinger_18 : decode cX7_addRinger 18 = .ok (.imul, 1) := by decide +kernel
theorem dX7_addRinger_19 : decode cX7_addRinger 19 = .ok (.iadd, 1) := by decide +kernel
theorem dX7_addRinger_20 : decode cX7_addRinger 20 = .ok (.iload_n 1, 1) := by decide +kernel
theorem dX7_addRinger_21 : decode cX7_addRinger 21 = .ok (.iastore, 1) := by decide +kernel
theorem dX7_addRinger_22 : decode cX7_addRinger 22 = .ok (.aload_n 0, 1) := by decide +kernel
theorem dX7_addRinger_23 : decode cX7_addRinger 23 = .ok (.getfield 13, 3) := by decide +kernel
theorem dX7_addRinger_26 : decode cX7_addRinger 26 = .ok (.bipush 50, 2) := by decide +kernel
theorem dX7_addRinger_28 : decode cX7_addRinger 28 = .ok (.iconst 3, 1) := by decide +kernel
theorem dX7_addRinger_29 : decode cX7_addRinger 29 = .ok (.iload 4, 2) := by decide +kernel
theorem dX7_addRinger_31 : decode cX7_addRinger 31 = .ok (.imul, 1) := by decide +kernel
theorem dX7_addRinger_32 : decode cX7_addRinger 32 = .ok (.iadd, 1) := by decide +kernel
theorem dX7_addRinger_33 : decode cX7_addRinger 33 = .ok (.iconst 1, 1) := by decide +kernel
theorem dX7_addRinger_34 : decode cX7_addRinger 34 = .ok (.iadd, 1) := by decide +kernel
theorem dX7_addRinger_35 : decode cX7_addRinger 35 = .ok (.iload_n 2, 1) := by decide +kernel
theorem dX7_addRinger_36 : decode cX7_addRinger 36 = .ok (.iastore, 1) := by decide +kernel
theorem dX7_addRinger_37 : decode cX7_addRinger 37 = .ok (.aload_n 0, 1) := by decide +kernel
theorem dX7_addRinger_38 : decode cX7_addRinger 38 = .ok (.getfield 13, 3) := by decide +kernel
theorem dX7_addRinger_41 : decode cX7_addRinger 41 = .ok (.bipush 50, 2) := by decide +kernel
theorem dX7_addRinger_43 : decode cX7_addRinger 43 = .ok (.iconst 3, 1) := by decide +kernel
theorem dX7_addRinger_44 : decode cX7_addRinger 44 = .ok (.iload 4, 2) := by decide +kernel
theorem dX7_addRinger_46 : decode cX7_addRinger 46 = .ok (.imul, 1) := by decide +kernel
theorem dX7_addRinger_47 : decode cX7_addRinger 47 = .ok (.iadd, 1) := by decide +kernel
theorem dX7_addRinger_48 : decode cX7_addRinger 48 = .ok (.iconst 2, 1) := by decide +kernel
theorem dX7_addRinger_49 : decode cX7_addRinger 49 = .ok (.iadd, 1) := by decide +kernel
theorem dX7_addRinger_50 : decode cX7_addRinger 50 = .ok (.iload_n 3, 1) := by decide +kernel
theorem dX7_addRinger_51 : decode cX7_addRinger 51 = .ok (.iastore, 1) := by decide +kernel
theorem dX7_addRinger_52 : decode cX7_addRinger 52 = .ok (.aload_n 0, 1) := by decide +kernel
theorem dX7_addRinger_53 : decode cX7_addRinger 53 = .ok (.getfield 13, 3) := by decide +kernel
theorem dX7_addRinger_56 : decode cX7_addRinger 56 = .ok (.bipush 69, 2) := by decide +kernel
theorem dX7_addRinger_58 : decode cX7_addRinger 58 = .ok (.dup2, 1) := by decide +kernel
theorem dX7_addRinger_59 : decode cX7_addRinger 59 = .ok (.iaload, 1) := by decide +kernel
theorem dX7_addRinger_60 : decode cX7_addRinger 60 = .ok (.iconst 1, 1) := by decide +kernel
theorem dX7_addRinger_61 : decode cX7_addRinger 61 = .ok (.iadd, 1) := by decide +kernel
theorem dX7_addRinger_62 : decode cX7_addRinger 62 = .ok (.iastore, 1) := by decide +kernel
theorem dX7_addRinger_63 : decode cX7_addRinger 63 = .ok (.iload 4, 2) := by decide +kernel
theorem dX7_addRinger_65 : decode cX7_addRinger 65 = .ok (.ireturn, 1) := by decide +kernel
theorem dX7_thing_0 : decode cX7_thing 0 = .ok (.iload_n 1, 1) := by decide +kernel
theorem dX7_thing_1 : decode cX7_thing 1 = .ok (.iconst 0, 1) := by decide +kernel
theorem dX7_thing_2 : decode cX7_thing 2 = .ok (.bipush 99, 2) := by decide +kernel
theorem dX7_thing_4 : decode cX7_thing 4 = .ok (.invokestatic 49, 3) := by decide +kernel
theorem dX7_thing_7 : decode cX7_thing 7 = .ok (.ifCond .eq 12, 3) := by decide +kernel
theorem dX7_thing_10 : decode cX7_thing 10 = .ok (.iload_n 2, 1) := by decide +kernel
theorem dX7_thing_11 : decode cX7_thing 11 = .ok (.iconst 0, 1) := by decide +kernel
theorem dX7_thing_12 : decode cX7_thing 12 = .ok (.iconst 3, 1) := by decide +kernel
theorem dX7_thing_13 : decode cX7_thing 13 = .ok (.invokestatic 49, 3) := by decide +kernel
theorem dX7_thing_16 : decode cX7_thing 16 = .ok (.ifCond .ne 10, 3) := by decide +kernel
theorem dX7_thing_19 : decode cX7_thing 19 = .ok (.aload_n 0, 1) := by decide +kernel
theorem dX7_thing_20 : decode cX7_thing 20 = .ok (.bipush (-2), 2) := by decide +kernel
theorem dX7_thing_22 : decode cX7_thing 22 = .ok (.invokevirtual 81, 3) := by decide +kernel
theorem dX7_thing_25 : decode cX7_thing 25 = .ok (.ireturn, 1) := by decide +kernel
theorem dX7_thing_26 : decode cX7_thing 26 = .ok (.aload_n 0, 1) := by decide +kernel
theorem dX7_thing_27 : decode cX7_thing 27 = .ok (.invokevirtual 57, 3) := by decide +kernel
theorem dX7_thing_30 : decode cX7_thing 30 = .ok (.bipush 10, 2) := by decide +kernel
theorem dX7_thing_32 : decode cX7_thing 32 = .ok (.if_icmp .ne 12, 3) := by decide +kernel
theorem dX7_thing_35 : decode cX7_thing 35 = .ok (.aload_n 0, 1) := by decide +kernel
theorem dX7_thing_36 : decode cX7_thing 36 = .ok (.bipush (-6), 2) := by decide +kernel
theorem dX7_thing_38 : decode cX7_thing 38 = .ok (.invokevirtual 81, 3) := by decide +kernel
theorem dX7_thing_41 : decode cX7_thing 41 = .ok (.goto 9, 3) := by decide +kernel
theorem dX7_thing_44 : decode cX7_thing 44 = .ok (.aload_n 0, 1) := by decide +kernel
theorem dX7_thing_45 : decode cX7_thing 45 = .ok (.iload_n 1, 1) := by decide +kernel
theorem dX7_thing_46 : decode cX7_thing 46 = .ok (.iload_n 2, 1) := by decide +kernel
theorem dX7_thing_47 : decode cX7_thing 47 = .ok (.invokevirtual 84, 3) := by decide +kernel
theorem dX7_thing_50 : decode cX7_thing 50 = .ok (.ireturn, 1) := by decide +kernel
theorem dX7_ringer_0 : decode cX7_ringer 0 = .ok (.iload_n 1, 1) := by decide +kernel
theorem dX7_ringer_1 : decode cX7_ringer 1 = .ok (.iconst 0, 1) := by decide +kernel
theorem dX7_ringer_2 : decode cX7_ringer 2 = .ok (.iconst 5, 1) := by decide +kernel
theorem dX7_ringer_3 : decode cX7_ringer 3 = .ok (.invokestatic 49, 3) := by decide +kernel
theorem dX7_ringer_6 : decode cX7_ringer 6 = .ok (.ifCond .eq 23, 3) := by decide +kernel
theorem dX7_ringer_9 : decode cX7_ringer 9 = .ok (.iload_n 2, 1) := by decide +kernel
theorem dX7_ringer_10 : decode cX7_ringer 10 = .ok (.iconst 0, 1) := by decide +kernel
theorem dX7_ringer_11 : decode cX7_ringer 11 = .ok (.bipush 9, 2) := by decide +kernel
theorem dX7_ringer_13 : decode cX7_ringer 13 = .ok (.invokestatic 49, 3) := by decide +kernel
theorem dX7_ringer_16 : decode cX7_ringer 16 = .ok (.ifCond .eq 13, 3) := by decide +kernel
theorem dX7_ringer_19 : decode cX7_ringer 19 = .ok (.iload_n 3, 1) := by decide +kernel
theorem dX7_ringer_20 : decode cX7_ringer 20 = .ok (.iconst 0, 1) := by decide +kernel
theorem dX7_ringer_21 : decode cX7_ringer 21 = .ok (.bipush 7, 2) := by decide +kernel
theorem dX7_ringer_23 : decode cX7_ringer 23 = .ok (.invokestatic 49, 3) := by decide +kernel
theorem dX7_ringer_26 : decode cX7_ringer 26 = .ok (.ifCond .ne 10, 3) := by decide +kernel
theorem dX7_ringer_29 : decode cX7_ringer 29 = .ok (.aload_n 0, 1) := by decide +kernel
theorem dX7_ringer_30 : decode cX7_ringer 30 = .ok (.bipush (-2), 2) := by decide +kernel
theorem dX7_ringer_32 : decode cX7_ringer 32 = .ok (.invokevirtual 81, 3) := by decide +kernel
theorem dX7_ringer_35 : decode cX7_ringer 35 = .ok (.ireturn, 1) := by decide +kernel
theorem dX7_ringer_36 : decode cX7_ringer 36 = .ok (.aload_n 0, 1) := by decide +kernel
theorem dX7_ringer_37 : decode cX7_ringer 37 = .ok (.getfield 13, 3) := by decide +kernel
theorem dX7_ringer_40 : decode cX7_ringer 40 = .ok (.bipush 69, 2) := by decide +kernel
theorem dX7_ringer_42 : decode cX7_ringer 42 = .ok (.iaload, 1) := by decide +kernel
theorem dX7_ringer_43 : decode cX7_ringer 43 = .ok (.bipush 6, 2) := by decide +kernel
theorem dX7_ringer_45 : decode cX7_ringer 45 = .ok (.if_icmp .ne 12, 3) := by decide +kernel
theorem dX7_ringer_48 : decode cX7_ringer 48 = .ok (.aload_n 0, 1) := by decide +kernel
theorem dX7_ringer_49 : decode cX7_ringer 49 = .ok (.bipush (-6), 2) := by decide +kernel
theorem dX7_ringer_51 : decode cX7_ringer 51 = .ok (.invokevirtual 81, 3) := by decide +kernel
theorem dX7_ringer_54 : decode cX7_ringer 54 = .ok (.goto 10, 3) := by decide +kernel
theorem dX7_ringer_57 : decode cX7_ringer 57 = .ok (.aload_n 0, 1) := by decide +kernel
theorem dX7_ringer_58 : decode cX7_ringer 58 = .ok (.iload_n 1, 1) := by decide +kernel
theorem dX7_ringer_59 : decode cX7_ringer 59 = .ok (.iload_n 2, 1) := by decide +kernel
theorem dX7_ringer_60 : decode cX7_ringer 60 = .ok (.iload_n 3, 1) := by decide +kernel
theorem dX7_ringer_61 : decode cX7_ringer 61 = .ok (.invokevirtual 87, 3) := by decide +kernel
theorem dX7_ringer_64 : decode cX7_ringer 64 = .ok (.ireturn, 1) := by decide +kernel
theorem dX7_hang_0 : decode cX7_hang 0 = .ok (.aload_n 0, 1) := by decide +kernel
theorem dX7_hang_1 : decode cX7_hang 1 = .ok (.iload_n 1, 1) := by decide +kernel
theorem dX7_hang_2 : decode cX7_hang 2 = .ok (.invokevirtual 90, 3) := by decide +kernel
theorem dX7_hang_5 : decode cX7_hang 5 = .ok (.ifCond .eq 23, 3) := by decide +kernel
theorem dX7_hang_8 : decode cX7_hang 8 = .ok (.iload_n 2, 1) := by decide +kernel
theorem dX7_hang_9 : decode cX7_hang 9 = .ok (.iconst 0, 1) := by decide +kernel
theorem dX7_hang_10 : decode cX7_hang 10 = .ok (.iload_n 1, 1) := by decide +kernel
theorem dX7_hang_11 : decode cX7_hang 11 = .ok (.iconst 1, 1) := by decide +kernel
theorem dX7_hang_12 : decode cX7_hang 12 = .ok (.isub, 1) := by decide +kernel
theorem dX7_hang_13 : decode cX7_hang 13 = .ok (.invokestatic 49, 3) := by decide +kernel
theorem dX7_hang_16 : decode cX7_hang 16 = .ok (.ifCond .eq 12, 3) := by decide +kernel
theorem dX7_hang_19 : decode cX7_hang 19 = .ok (.iload_n 3, 1) := by decide +kernel
theorem dX7_hang_20 : decode cX7_hang 20 = .ok (.iconst 0, 1) := by decide +kernel
theorem dX7_hang_21 : decode cX7_hang 21 = .ok (.iconst 1, 1) := by decide +kernel
theorem dX7_hang_22 : decode cX7_hang 22 = .ok (.invokestatic 49, 3) := by decide +kernel
theorem dX7_hang_25 : decode cX7_hang 25 = .ok (.ifCond .ne 10, 3) := by decide +kernel
theorem dX7_hang_28 : decode cX7_hang 28 = .ok (.aload_n 0, 1) := by decide +kernel
theorem dX7_hang_29 : decode cX7_hang 29 = .ok (.bipush (-2), 2) := by decide +kernel
theorem dX7_hang_31 : decode cX7_hang 31 = .ok (.invokevirtual 81, 3) := by decide +kernel
theorem dX7_hang_34 : decode cX7_hang 34 = .ok (.ireturn, 1) := by decide +kernel
theorem dX7_hang_35 : decode cX7_hang 35 = .ok (.aload_n 0, 1) := by decide +kernel
theorem dX7_hang_36 : decode cX7_hang 36 = .ok (.iload_n 1, 1) := by decide +kernel
theorem dX7_hang_37 : decode cX7_hang 37 = .ok (.iconst 2, 1) := by decide +kernel
theorem dX7_hang_38 : decode cX7_hang 38 = .ok (.invokevirtual 53, 3) := by decide +kernel
theorem dX7_hang_41 : decode cX7_hang 41 = .ok (.iload_n 2, 1) := by decide +kernel
theorem dX7_hang_42 : decode cX7_hang 42 = .ok (.ishr, 1) := by decide +kernel
theorem dX7_hang_43 : decode cX7_hang 43 = .ok (.iconst 1, 1) := by decide +kernel
theorem dX7_hang_44 : decode cX7_hang 44 = .ok (.iand, 1) := by decide +kernel
theorem dX7_hang_45 : decode cX7_hang 45 = .ok (.istore 4, 2) := by decide +kernel
theorem dX7_hang_47 : decode cX7_hang 47 = .ok (.aload_n 0, 1) := by decide +kernel
theorem dX7_hang_48 : decode cX7_hang 48 = .ok (.iload_n 1, 1) := by decide +kernel
theorem dX7_hang_49 : decode cX7_hang 49 = .ok (.iconst 2, 1) := by decide +kernel
theorem dX7_hang_50 : decode cX7_hang 50 = .ok (.aload_n 0, 1) := by decide +kernel
theorem dX7_hang_51 : decode cX7_hang 51 = .ok (.iload_n 1, 1) := by decide +kernel
theorem dX7_hang_52 : decode cX7_hang 52 = .ok (.iconst 2, 1) := by decide +kernel
theorem dX7_hang_53 : decode cX7_hang 53 = .ok (.invokevirtual 53, 3) := by decide +kernel
theorem dX7_hang_56 : decode cX7_hang 56 = .ok (.iconst 1, 1) := by decide +kernel
theorem dX7_hang_57 : decode cX7_hang 57 = .ok (.iload_n 2, 1) := by decide +kernel
theorem dX7_hang_58 : decode cX7_hang 58 = .ok (.ishl, 1) := by decide +kernel
theorem dX7_hang_59 : decode cX7_hang 59 = .ok (.iconst (-1), 1) := by decide +kernel
theorem dX7_hang_60 : decode cX7_hang 60 = .ok (.ixor, 1) := by decide +kernel
theorem dX7_hang_61 : decode cX7_hang 61 = .ok (.iand, 1) := by decide +kernel
theorem dX7_hang_62 : decode cX7_hang 62 = .ok (.iload_n 3, 1) := by decide +kernel
theorem dX7_hang_63 : decode cX7_hang 63 = .ok (.iload_n 2, 1) := by decide +kernel
theorem dX7_hang_64 : decode cX7_hang 64 = .ok (.ishl, 1) := by decide +kernel
theorem dX7_hang_65 : decode cX7_hang 65 = .ok (.ior, 1) := by decide +kernel
theorem dX7_hang_66 : decode cX7_hang 66 = .ok (.invokevirtual 77, 3) := by decide +kernel
theorem dX7_hang_69 : decode cX7_hang 69 = .ok (.pop, 1) := by decide +kernel
theorem dX7_hang_70 : decode cX7_hang 70 = .ok (.iload 4, 2) := by decide +kernel
theorem dX7_hang_72 : decode cX7_hang 72 = .ok (.ireturn, 1) := by decide +kernel
theorem dX7_give_0 : decode cX7_give 0 = .ok (.aload_n 0, 1) := by decide +kernel
theorem dX7_give_1 : decode cX7_give 1 = .ok (.iload_n 1, 1) := by decide +kernel
theorem dX7_give_2 : decode cX7_give 2 = .ok (.invokevirtual 90, 3) := by decide +kernel
theorem dX7_give_5 : decode cX7_give 5 = .ok (.ifCond .eq 40, 3) := by decide +kernel
theorem dX7_give_8 : decode cX7_give 8 = .ok (.iload_n 2, 1) := by decide +kernel
theorem dX7_give_9 : decode cX7_give 9 = .ok (.iconst 0, 1) := by decide +kernel
theorem dX7_give_10 : decode cX7_give 10 = .ok (.iconst 3, 1) := by decide +kernel
theorem dX7_give_11 : decode cX7_give 11 = .ok (.invokestatic 49, 3) := by decide +kernel
theorem dX7_give_14 : decode cX7_give 14 = .ok (.ifCond .eq 31, 3) := by decide +kernel
theorem dX7_give_17 : decode cX7_give 17 = .ok (.iload_n 3, 1) := by decide +kernel
theorem dX7_give_18 : decode cX7_give 18 = .ok (.iconst 0, 1) := by decide +kernel
theorem dX7_give_19 : decode cX7_give 19 = .ok (.iload_n 2, 1) := by decide +kernel
theorem dX7_give_20 : decode cX7_give 20 = .ok (.iconst 1, 1) := by decide +kernel
theorem dX7_give_21 : decode cX7_give 21 = .ok (.if_icmp .ne 7, 3) := by decide +kernel
theorem dX7_give_24 : decode cX7_give 24 = .ok (.iconst 3, 1) := by decide +kernel
theorem dX7_give_25 : decode cX7_give 25 = .ok (.goto 14, 3) := by decide +kernel
theorem dX7_give_28 : decode cX7_give 28 = .ok (.iload_n 2, 1) := by decide +kernel
theorem dX7_give_29 : decode cX7_give 29 = .ok (.iconst 3, 1) := by decide +kernel
theorem dX7_give_30 : decode cX7_give 30 = .ok (.if_icmp .ne 7, 3) := by decide +kernel
theorem dX7_give_33 : decode cX7_give 33 = .ok (.iconst 1, 1) := by decide +kernel
theorem dX7_give_34 : decode cX7_give 34 = .ok (.goto 5, 3) := by decide +kernel
theorem dX7_give_37 : decode cX7_give 37 = .ok (.bipush 99, 2) := by decide +kernel
theorem dX7_give_39 : decode cX7_give 39 = .ok (.invokestatic 49, 3) := by decide +kernel
theorem dX7_give_42 : decode cX7_give 42 = .ok (.ifCond .ne 10, 3) := by decide +kernel
theorem dX7_give_45 : decode cX7_give 45 = .ok (.aload_n 0, 1) := by decide +kernel
theorem dX7_give_46 : decode cX7_give 46 = .ok (.bipush (-2), 2) := by decide +kernel
theorem dX7_give_48 : decode cX7_give 48 = .ok (.invokevirtual 81, 3) := by decide +kernel
theorem dX7_give_51 : decode cX7_give 51 = .ok (.ireturn, 1) := by decide +kernel
theorem dX7_give_52 : decode cX7_give 52 = .ok (.aload_n 0, 1) := by decide +kernel
theorem dX7_give_53 : decode cX7_give 53 = .ok (.iload_n 1, 1) := by decide +kernel
theorem dX7_give_54 : decode cX7_give 54 = .ok (.iload_n 2, 1) := by decide +kernel
theorem dX7_give_55 : decode cX7_give 55 = .ok (.ifCond .ne 7, 3) := by decide +kernel
theorem dX7_give_58 : decode cX7_give 58 = .ok (.iconst 0, 1) := by decide +kernel
theorem dX7_give_59 : decode cX7_give 59 = .ok (.goto 22, 3) := by decide +kernel
theorem dX7_give_62 : decode cX7_give 62 = .ok (.iload_n 2, 1) := by decide +kernel
theorem dX7_give_63 : decode cX7_give 63 = .ok (.iconst 1, 1) := by decide +kernel
theorem dX7_give_64 : decode cX7_give 64 = .ok (.if_icmp .ne 7, 3) := by decide +kernel
theorem dX7_give_67 : decode cX7_give 67 = .ok (.iconst 1, 1) := by decide +kernel
theorem dX7_give_68 : decode cX7_give 68 = .ok (.goto 13, 3) := by decide +kernel
theorem dX7_give_71 : decode cX7_give 71 = .ok (.iload_n 2, 1) := by decide +kernel
theorem dX7_give_72 : decode cX7_give 72 = .ok (.iconst 2, 1) := by decide +kernel
theorem dX7_give_73 : decode cX7_give 73 = .ok (.if_icmp .ne 7, 3) := by decide +kernel
theorem dX7_give_76 : decode cX7_give 76 = .ok (.iconst 4, 1) := by decide +kernel
theorem dX7_give_77 : decode cX7_give 77 = .ok (.goto 4, 3) := by decide +kernel
theorem dX7_give_80 : decode cX7_give 80 = .ok (.iconst 3, 1) := by decide +kernel
theorem dX7_give_81 : decode cX7_give 81 = .ok (.iload_n 3, 1) := by decide +kernel
theorem dX7_give_82 : decode cX7_give 82 = .ok (.invokevirtual 77, 3) := by decide +kernel
theorem dX7_give_85 : decode cX7_give 85 = .ok (.ireturn, 1) := by decide +kernel
theorem dX7_tell_0 : decode cX7_tell 0 = .ok (.iload_n 1, 1) := by decide +kernel
theorem dX7_tell_1 : decode cX7_tell 1 = .ok (.iconst 0, 1) := by decide +kernel
theorem dX7_tell_2 : decode cX7_tell 2 = .ok (.iconst 2, 1) := by decide +kernel
theorem dX7_tell_3 : decode cX7_tell 3 = .ok (.invokestatic 49, 3) := by decide +kernel
theorem dX7_tell_6 : decode cX7_tell 6 = .ok (.ifCond .eq 33, 3) := by decide +kernel
theorem dX7_tell_9 : decode cX7_tell 9 = .ok (.iload_n 2, 1) := by decide +kernel
theorem dX7_tell_10 : decode cX7_tell 10 = .ok (.iconst 0, 1) := by decide +kernel
theorem dX7_tell_11 : decode cX7_tell 11 = .ok (.iload_n 1, 1) := by decide +kernel
theorem dX7_tell_12 : decode cX7_tell 12 = .ok (.ifCond .ne 7, 3) := by decide +kernel
theorem dX7_tell_15 : decode cX7_tell 15 = .ok (.iconst 3, 1) := by decide +kernel
theorem dX7_tell_16 : decode cX7_tell 16 = .ok (.goto 17, 3) := by decide +kernel
theorem dX7_tell_19 : decode cX7_tell 19 = .ok (.iload_n 1, 1) := by decide +kernel
theorem dX7_tell_20 : decode cX7_tell 20 = .ok (.iconst 1, 1) := by decide +kernel
theorem dX7_tell_21 : decode cX7_tell 21 = .ok (.if_icmp .ne 9, 3) := by decide +kernel
theorem dX7_tell_24 : decode cX7_tell 24 = .ok (.sipush 999, 3) := by decide +kernel
theorem dX7_tell_27 : decode cX7_tell 27 = .ok (.goto 6, 3) := by decide +kernel
theorem dX7_tell_30 : decode cX7_tell 30 = .ok (.sipush 255, 3) := by decide +kernel
theorem dX7_tell_33 : decode cX7_tell 33 = .ok (.invokestatic 49, 3) := by decide +kernel
theorem dX7_tell_36 : decode cX7_tell 36 = .ok (.ifCond .ne 10, 3) := by decide +kernel
theorem dX7_tell_39 : decode cX7_tell 39 = .ok (.aload_n 0, 1) := by decide +kernel
theorem dX7_tell_40 : decode cX7_tell 40 = .ok (.bipush (-2), 2) := by decide +kernel
theorem dX7_tell_42 : decode cX7_tell 42 = .ok (.invokevirtual 81, 3) := by decide +kernel
theorem dX7_tell_45 : decode cX7_tell 45 = .ok (.ireturn, 1) := by decide +kernel
theorem dX7_tell_46 : decode cX7_tell 46 = .ok (.aload_n 0, 1) := by decide +kernel
theorem dX7_tell_47 : decode cX7_tell 47 = .ok (.getfield 13, 3) := by decide +kernel
theorem dX7_tell_50 : decode cX7_tell 50 = .ok (.bipush 70, 2) := by decide +kernel
theorem dX7_tell_52 : decode cX7_tell 52 = .ok (.iload_n 1, 1) := by decide +kernel
theorem dX7_tell_53 : decode cX7_tell 53 = .ok (.iadd, 1) := by decide +kernel
theorem dX7_tell_54 : decode cX7_tell 54 = .ok (.iaload, 1) := by decide +kernel
theorem dX7_tell_55 : decode cX7_tell 55 = .ok (.istore_n 3, 1) := by decide +kernel
theorem dX7_tell_56 : decode cX7_tell 56 = .ok (.aload_n 0, 1) := by decide +kernel
theorem dX7_tell_57 : decode cX7_tell 57 = .ok (.getfield 13, 3) := by decide +kernel
theorem dX7_tell_60 : decode cX7_tell 60 = .ok (.bipush 70, 2) := by decide +kernel
theorem dX7_tell_62 : decode cX7_tell 62 = .ok (.iload_n 1, 1) := by decide +kernel
theorem dX7_tell_63 : decode cX7_tell 63 = .ok (.iadd, 1) := by decide +kernel
theorem dX7_tell_64 : decode cX7_tell 64 = .ok (.iload_n 2, 1) := by decide +kernel
theorem dX7_tell_65 : decode cX7_tell 65 = .ok (.iastore, 1) := by decide +kernel
theorem dX7_tell_66 : decode cX7_tell 66 = .ok (.iload_n 3, 1) := by decide +kernel
theorem dX7_tell_67 : decode cX7_tell 67 = .ok (.ireturn, 1) := by decide +kernel
theorem dX7_feed_0 : decode cX7_feed 0 = .ok (.iload_n 1, 1) := by decide +kernel
theorem dX7_feed_1 : decode cX7_feed 1 = .ok (.iconst 0, 1) := by decide +kernel
theorem dX7_feed_2 : decode cX7_feed 2 = .ok (.sipush 255, 3) := by decide +kernel
theorem dX7_feed_5 : decode cX7_feed 5 = .ok (.invokestatic 49, 3) := by decide +kernel
theorem dX7_feed_8 : decode cX7_feed 8 = .ok (.ifCond .ne 10, 3) := by decide +kernel
theorem dX7_feed_11 : decode cX7_feed 11 = .ok (.aload_n 0, 1) := by decide +kernel
theorem dX7_feed_12 : decode cX7_feed 12 = .ok (.bipush (-2), 2) := by decide +kernel
theorem dX7_feed_14 : decode cX7_feed 14 = .ok (.invokevirtual 81, 3) := by decide +kernel
theorem dX7_feed_17 : decode cX7_feed 17 = .ok (.ireturn, 1) := by decide +kernel
theorem dX7_feed_18 : decode cX7_feed 18 = .ok (.aload_n 0, 1) := by decide +kernel
theorem dX7_feed_19 : decode cX7_feed 19 = .ok (.getfield 93, 3) := by decide +kernel
theorem dX7_feed_22 : decode cX7_feed 22 = .ok (.sipush 250, 3) := by decide +kernel
theorem dX7_feed_25 : decode cX7_feed 25 = .ok (.if_icmp .ne 10, 3) := by decide +kernel
theorem dX7_feed_28 : decode cX7_feed 28 = .ok (.aload_n 0, 1) := by decide +kernel
theorem dX7_feed_29 : decode cX7_feed 29 = .ok (.bipush (-6), 2) := by decide +kernel
theorem dX7_feed_31 : decode cX7_feed 31 = .ok (.invokevirtual 81, 3) := by decide +kernel
theorem dX7_feed_34 : decode cX7_feed 34 = .ok (.ireturn, 1) := by decide +kernel
theorem dX7_feed_35 : decode cX7_feed 35 = .ok (.aload_n 0, 1) := by decide +kernel
theorem dX7_feed_36 : decode cX7_feed 36 = .ok (.getfield 26, 3) := by decide +kernel
theorem dX7_feed_39 : decode cX7_feed 39 = .ok (.aload_n 0, 1) := by decide +kernel
theorem dX7_feed_40 : decode cX7_feed 40 = .ok (.getfield 93, 3) := by decide +kernel
theorem dX7_feed_43 : decode cX7_feed 43 = .ok (.iload_n 1, 1) := by decide +kernel
theorem dX7_feed_44 : decode cX7_feed 44 = .ok (.iastore, 1) := by decide +kernel
theorem dX7_feed_45 : decode cX7_feed 45 = .ok (.aload_n 0, 1) := by decide +kernel
theorem dX7_feed_46 : decode cX7_feed 46 = .ok (.dup, 1) := by decide +kernel
theorem dX7_feed_47 : decode cX7_feed 47 = .ok (.getfield 93, 3) := by decide +kernel
theorem dX7_feed_50 : decode cX7_feed 50 = .ok (.iconst 1, 1) := by decide +kernel
theorem dX7_feed_51 : decode cX7_feed 51 = .ok (.iadd, 1) := by decide +kernel
theorem dX7_feed_52 : decode cX7_feed 52 = .ok (.putfield 93, 3) := by decide +kernel
theorem dX7_feed_55 : decode cX7_feed 55 = .ok (.aload_n 0, 1) := by decide +kernel
theorem dX7_feed_56 : decode cX7_feed 56 = .ok (.getfield 93, 3) := by decide +kernel
theorem dX7_feed_59 : decode cX7_feed 59 = .ok (.ireturn, 1) := by decide +kernel
theorem dX7_wipe_0 : decode cX7_wipe 0 = .ok (.aload_n 0, 1) := by decide +kernel
theorem dX7_wipe_1 : decode cX7_wipe 1 = .ok (.getfield 93, 3) := by decide +kernel
theorem dX7_wipe_4 : decode cX7_wipe 4 = .ok (.istore_n 1, 1) := by decide +kernel
theorem dX7_wipe_5 : decode cX7_wipe 5 = .ok (.aload_n 0, 1) := by decide +kernel
theorem dX7_wipe_6 : decode cX7_wipe 6 = .ok (.iconst 0, 1) := by decide +kernel
theorem dX7_wipe_7 : decode cX7_wipe 7 = .ok (.putfield 93, 3) := by decide +kernel
theorem dX7_wipe_10 : decode cX7_wipe 10 = .ok (.iload_n 1, 1) := by decide +kernel
theorem dX7_wipe_11 : decode cX7_wipe 11 = .ok (.ireturn, 1) := by decide +kernel
theorem dX7_isLetter_0 : decode cX7_isLetter 0 = .ok (.iload_n 1, 1) := by decide +kernel
theorem dX7_isLetter_1 : decode cX7_isLetter 1 = .ok (.aload_n 0, 1) := by decide +kernel
theorem dX7_isLetter_2 : decode cX7_isLetter 2 = .ok (.getfield 93, 3) := by decide +kernel
theorem dX7_isLetter_5 : decode cX7_isLetter 5 = .ok (.if_icmp .ge 23, 3) := by decide +kernel
theorem dX7_isLetter_8 : decode cX7_isLetter 8 = .ok (.aload_n 0, 1) := by decide +kernel
theorem dX7_isLetter_9 : decode cX7_isLetter 9 = .ok (.getfield 26, 3) := by decide +kernel
theorem dX7_isLetter_12 : decode cX7_isLetter 12 = .ok (.iload_n 1, 1) := by decide +kernel
theorem dX7_isLetter_13 : decode cX7_isLetter 13 = .ok (.iaload, 1) := by decide +kernel
theorem dX7_isLetter_14 : decode cX7_isLetter 14 = .ok (.bipush 97, 2) := by decide +kernel
theorem dX7_isLetter_16 : decode cX7_isLetter 16 = .ok (.bipush 122, 2) := by decide +kernel
theorem dX7_isLetter_18 : decode cX7_isLetter 18 = .ok (.invokestatic 49, 3) := by decide +kernel
theorem dX7_isLetter_21 : decode cX7_isLetter 21 = .ok (.ifCond .eq 7, 3) := by decide +kernel
theorem dX7_isLetter_24 : decode cX7_isLetter 24 = .ok (.iconst 1, 1) := by decide +kernel
theorem dX7_isLetter_25 : decode cX7_isLetter 25 = .ok (.goto 4, 3) := by decide +kernel
theorem dX7_isLetter_28 : decode cX7_isLetter 28 = .ok (.iconst 0, 1) := by decide +kernel
theorem dX7_isLetter_29 : decode cX7_isLetter 29 = .ok (.ireturn, 1) := by decide +kernel
theorem dX7_isDigit_0 : decode cX7_isDigit 0 = .ok (.iload_n 1, 1) := by decide +kernel
theorem dX7_isDigit_1 : decode cX7_isDigit 1 = .ok (.aload_n 0, 1) := by decide +kernel
theorem dX7_isDigit_2 : decode cX7_isDigit 2 = .ok (.getfield 93, 3) := by decide +kernel
theorem dX7_isDigit_5 : decode cX7_isDigit 5 = .ok (.if_icmp .ge 23, 3) := by decide +kernel
theorem dX7_isDigit_8 : decode cX7_isDigit 8 = .ok (.aload_n 0, 1) := by decide +kernel
theorem dX7_isDigit_9 : decode cX7_isDigit 9 = .ok (.getfield 26, 3) := by decide +kernel
theorem dX7_isDigit_12 : decode cX7_isDigit 12 = .ok (.iload_n 1, 1) := by decide +kernel
theorem dX7_isDigit_13 : decode cX7_isDigit 13 = .ok (.iaload, 1) := by decide +kernel
theorem dX7_isDigit_14 : decode cX7_isDigit 14 = .ok (.bipush 48, 2) := by decide +kernel
theorem dX7_isDigit_16 : decode cX7_isDigit 16 = .ok (.bipush 57, 2) := by decide +kernel
theorem dX7_isDigit_18 : decode cX7_isDigit 18 = .ok (.invokestatic 49, 3) := by decide +kernel
theorem dX7_isDigit_21 : decode cX7_isDigit 21 = .ok (.ifCond .eq 7, 3) := by decide +kernel
theorem dX7_isDigit_24 : decode cX7_isDigit 24 = .ok (.iconst 1, 1) := by decide +kernel
theorem dX7_isDigit_25 : decode cX7_isDigit 25 = .ok (.goto 4, 3) := by decide +kernel
theorem dX7_isDigit_28 : decode cX7_isDigit 28 = .ok (.iconst 0, 1) := by decide +kernel
theorem dX7_isDigit_29 : decode cX7_isDigit 29 = .ok (.ireturn, 1) := by decide +kernel
theorem dX7_read_0 : decode cX7_read 0 = .ok (.aload_n 0, 1) := by decide +kernel
theorem dX7_read_1 : decode cX7_read 1 = .ok (.getfield 97, 3) := by decide +kernel
theorem dX7_read_4 : decode cX7_read 4 = .ok (.aload_n 0, 1) := by decide +kernel
theorem dX7_read_5 : decode cX7_read 5 = .ok (.getfield 93, 3) := by decide +kernel
theorem dX7_read_8 : decode cX7_read 8 = .ok (.if_icmp .ge 30, 3) := by decide +kernel
theorem dX7_read_11 : decode cX7_read 11 = .ok (.aload_n 0, 1) := by decide +kernel
theorem dX7_read_12 : decode cX7_read 12 = .ok (.getfield 26, 3) := by decide +kernel
theorem dX7_read_15 : decode cX7_read 15 = .ok (.aload_n 0, 1) := by decide +kernel
theorem dX7_read_16 : decode cX7_read 16 = .ok (.getfield 97, 3) := by decide +kernel
theorem dX7_read_19 : decode cX7_read 19 = .ok (.iaload, 1) := by decide +kernel
theorem dX7_read_20 : decode cX7_read 20 = .ok (.bipush 32, 2) := by decide +kernel
theorem dX7_read_22 : decode cX7_read 22 = .ok (.if_icmp .ne 16, 3) := by decide +kernel
theorem dX7_read_25 : decode cX7_read 25 = .ok (.aload_n 0, 1) := by decide +kernel
theorem dX7_read_26 : decode cX7_read 26 = .ok (.dup, 1) := by decide +kernel
theorem dX7_read_27 : decode cX7_read 27 = .ok (.getfield 97, 3) := by decide +kernel
theorem dX7_read_30 : decode cX7_read 30 = .ok (.iconst 1, 1) := by decide +kernel
theorem dX7_read_31 : decode cX7_read 31 = .ok (.iadd, 1) := by decide +kernel
theorem dX7_read_32 : decode cX7_read 32 = .ok (.putfield 97, 3) := by decide +kernel
theorem dX7_read_35 : decode cX7_read 35 = .ok (.goto (-35), 3) := by decide +kernel
theorem dX7_read_38 : decode cX7_read 38 = .ok (.aload_n 0, 1) := by decide +kernel
theorem dX7_read_39 : decode cX7_read 39 = .ok (.aload_n 0, 1) := by decide +kernel
theorem dX7_read_40 : decode cX7_read 40 = .ok (.getfield 97, 3) := by decide +kernel
theorem dX7_read_43 : decode cX7_read 43 = .ok (.putfield 100, 3) := by decide +kernel
theorem dX7_read_46 : decode cX7_read 46 = .ok (.aload_n 0, 1) := by decide +kernel
theorem dX7_read_47 : decode cX7_read 47 = .ok (.iconst 0, 1) := by decide +kernel
theorem dX7_read_48 : decode cX7_read 48 = .ok (.putfield 103, 3) := by decide +kernel
theorem dX7_read_51 : decode cX7_read 51 = .ok (.aload_n 0, 1) := by decide +kernel
theorem dX7_read_52 : decode cX7_read 52 = .ok (.aload_n 0, 1) := by decide +kernel
theorem dX7_read_53 : decode cX7_read 53 = .ok (.getfield 97, 3) := by decide +kernel
theorem dX7_read_56 : decode cX7_read 56 = .ok (.aload_n 0, 1) := by decide +kernel
theorem dX7_read_57 : decode cX7_read 57 = .ok (.getfield 93, 3) := by decide +kernel
theorem dX7_read_60 : decode cX7_read 60 = .ok (.if_icmp .ne 7, 3) := by decide +kernel
theorem dX7_read_63 : decode cX7_read 63 = .ok (.iconst 0, 1) := by decide +kernel
theorem dX7_read_64 : decode cX7_read 64 = .ok (.goto 52, 3) := by decide +kernel
theorem dX7_read_67 : decode cX7_read 67 = .ok (.aload_n 0, 1) := by decide +kernel
theorem dX7_read_68 : decode cX7_read 68 = .ok (.aload_n 0, 1) := by decide +kernel
theorem dX7_read_69 : decode cX7_read 69 = .ok (.getfield 97, 3) := by decide +kernel
theorem dX7_read_72 : decode cX7_read 72 = .ok (.invokevirtual 106, 3) := by decide +kernel
theorem dX7_read_75 : decode cX7_read 75 = .ok (.ifCond .eq 7, 3) := by decide +kernel
theorem dX7_read_78 : decode cX7_read 78 = .ok (.iconst 1, 1) := by decide +kernel
theorem dX7_read_79 : decode cX7_read 79 = .ok (.goto 37, 3) := by decide +kernel
theorem dX7_read_82 : decode cX7_read 82 = .ok (.aload_n 0, 1) := by decide +kernel
theorem dX7_read_83 : decode cX7_read 83 = .ok (.aload_n 0, 1) := by decide +kernel
theorem dX7_read_84 : decode cX7_read 84 = .ok (.getfield 97, 3) := by decide +kernel
theorem dX7_read_87 : decode cX7_read 87 = .ok (.invokevirtual 109, 3) := by decide +kernel
theorem dX7_read_90 : decode cX7_read 90 = .ok (.ifCond .eq 7, 3) := by decide +kernel
theorem dX7_read_93 : decode cX7_read 93 = .ok (.iconst 2, 1) := by decide +kernel
theorem dX7_read_94 : decode cX7_read 94 = .ok (.goto 22, 3) := by decide +kernel
theorem dX7_read_97 : decode cX7_read 97 = .ok (.aload_n 0, 1) := by decide +kernel
theorem dX7_read_98 : decode cX7_read 98 = .ok (.getfield 26, 3) := by decide +kernel
theorem dX7_read_101 : decode cX7_read 101 = .ok (.aload_n 0, 1) := by decide +kernel
theorem dX7_read_102 : decode cX7_read 102 = .ok (.getfield 97, 3) := by decide +kernel
theorem dX7_read_105 : decode cX7_read 105 = .ok (.iaload, 1) := by decide +kernel
theorem dX7_read_106 : decode cX7_read 106 = .ok (.bipush 59, 2) := by decide +kernel
theorem dX7_read_108 : decode cX7_read 108 = .ok (.if_icmp .ne 7, 3) := by decide +kernel
theorem dX7_read_111 : decode cX7_read 111 = .ok (.iconst 3, 1) := by decide +kernel
theorem dX7_read_112 : decode cX7_read 112 = .ok (.goto 4, 3) := by decide +kernel
theorem dX7_read_115 : decode cX7_read 115 = .ok (.iconst 4, 1) := by decide +kernel
theorem dX7_read_116 : decode cX7_read 116 = .ok (.putfield 112, 3) := by decide +kernel
theorem dX7_read_119 : decode cX7_read 119 = .ok (.aload_n 0, 1) := by decide +kernel
theorem dX7_read_120 : decode cX7_read 120 = .ok (.getfield 112, 3) := by decide +kernel
theorem dX7_read_123 : decode cX7_read 123 = .ok (.iconst 1, 1) := by decide +kernel
theorem dX7_read_124 : decode cX7_read 124 = .ok (.if_icmp .ne 27, 3) := by decide +kernel
theorem dX7_read_127 : decode cX7_read 127 = .ok (.aload_n 0, 1) := by decide +kernel
theorem dX7_read_128 : decode cX7_read 128 = .ok (.aload_n 0, 1) := by decide +kernel
theorem dX7_read_129 : decode cX7_read 129 = .ok (.getfield 97, 3) := by decide +kernel
theorem dX7_read_132 : decode cX7_read 132 = .ok (.invokevirtual 106, 3) := by decide +kernel
theorem dX7_read_135 : decode cX7_read 135 = .ok (.ifCond .eq 109, 3) := by decide +kernel
theorem dX7_read_138 : decode cX7_read 138 = .ok (.aload_n 0, 1) := by decide +kernel
theorem dX7_read_139 : decode cX7_read 139 = .ok (.dup, 1) := by decide +kernel
theorem dX7_read_140 : decode cX7_read 140 = .ok (.getfield 97, 3) := by decide +kernel
theorem dX7_read_143 : decode cX7_read 143 = .ok (.iconst 1, 1) := by decide +kernel
theorem dX7_read_144 : decode cX7_read 144 = .ok (.iadd, 1) := by decide +kernel
theorem dX7_read_145 : decode cX7_read 145 = .ok (.putfield 97, 3) := by decide +kernel
theorem dX7_read_148 : decode cX7_read 148 = .ok (.goto (-21), 3) := by decide +kernel
theorem dX7_read_151 : decode cX7_read 151 = .ok (.aload_n 0, 1) := by decide +kernel
theorem dX7_read_152 : decode cX7_read 152 = .ok (.getfield 112, 3) := by decide +kernel
theorem dX7_read_155 : decode cX7_read 155 = .ok (.iconst 2, 1) := by decide +kernel
theorem dX7_read_156 : decode cX7_read 156 = .ok (.if_icmp .ne 70, 3) := by decide +kernel
theorem dX7_read_159 : decode cX7_read 159 = .ok (.aload_n 0, 1) := by decide +kernel
theorem dX7_read_160 : decode cX7_read 160 = .ok (.aload_n 0, 1) := by decide +kernel
theorem dX7_read_161 : decode cX7_read 161 = .ok (.getfield 97, 3) := by decide +kernel
theorem dX7_read_164 : decode cX7_read 164 = .ok (.invokevirtual 109, 3) := by decide +kernel
theorem dX7_read_167 : decode cX7_read 167 = .ok (.ifCond .eq 77, 3) := by decide +kernel
theorem dX7_read_170 : decode cX7_read 170 = .ok (.aload_n 0, 1) := by decide +kernel
theorem dX7_read_171 : decode cX7_read 171 = .ok (.aload_n 0, 1) := by decide +kernel
theorem dX7_read_172 : decode cX7_read 172 = .ok (.getfield 97, 3) := by decide +kernel
theorem dX7_read_175 : decode cX7_read 175 = .ok (.aload_n 0, 1) := by decide +kernel
theorem dX7_read_176 : decode cX7_read 176 = .ok (.getfield 100, 3) := by decide +kernel
theorem dX7_read_179 : decode cX7_read 179 = .ok (.isub, 1) := by decide +kernel
theorem dX7_read_180 : decode cX7_read 180 = .ok (.iconst 3, 1) := by decide +kernel
theorem dX7_read_181 : decode cX7_read 181 = .ok (.if_icmp .ge 26, 3) := by decide +kernel
theorem dX7_read_184 : decode cX7_read 184 = .ok (.bipush 10, 2) := by decide +kernel
theorem dX7_read_186 : decode cX7_read 186 = .ok (.aload_n 0, 1) := by decide +kernel
theorem dX7_read_187 : decode cX7_read 187 = .ok (.getfield 103, 3) := by decide +kernel
theorem dX7_read_190 : decode cX7_read 190 = .ok (.imul, 1) := by decide +kernel
theorem dX7_read_191 : decode cX7_read 191 = .ok (.aload_n 0, 1) := by decide +kernel
theorem dX7_read_192 : decode cX7_read 192 = .ok (.getfield 26, 3) := by decide +kernel
theorem dX7_read_195 : decode cX7_read 195 = .ok (.aload_n 0, 1) := by decide +kernel
theorem dX7_read_196 : decode cX7_read 196 = .ok (.getfield 97, 3) := by decide +kernel
theorem dX7_read_199 : decode cX7_read 199 = .ok (.iaload, 1) := by decide +kernel
theorem dX7_read_200 : decode cX7_read 200 = .ok (.iadd, 1) := by decide +kernel
theorem dX7_read_201 : decode cX7_read 201 = .ok (.bipush 48, 2) := by decide +kernel
theorem dX7_read_203 : decode cX7_read 203 = .ok (.isub, 1) := by decide +kernel
theorem dX7_read_204 : decode cX7_read 204 = .ok (.goto 6, 3) := by decide +kernel
theorem dX7_read_207 : decode cX7_read 207 = .ok (.sipush 1000, 3) := by decide +kernel
theorem dX7_read_210 : decode cX7_read 210 = .ok (.putfield 103, 3) := by decide +kernel
theorem dX7_read_213 : decode cX7_read 213 = .ok (.aload_n 0, 1) := by decide +kernel
theorem dX7_read_214 : decode cX7_read 214 = .ok (.dup, 1) := by decide +kernel
theorem dX7_read_215 : decode cX7_read 215 = .ok (.getfield 97, 3) := by decide +kernel
theorem dX7_read_218 : decode cX7_read 218 = .ok (.iconst 1, 1) := by decide +kernel
theorem dX7_read_219 : decode cX7_read 219 = .ok (.iadd, 1) := by decide +kernel
theorem dX7_read_220 : decode cX7_read 220 = .ok (.putfield 97, 3) := by decide +kernel
theorem dX7_read_223 : decode cX7_read 223 = .ok (.goto (-64), 3) := by decide +kernel
theorem dX7_read_226 : decode cX7_read 226 = .ok (.aload_n 0, 1) := by decide +kernel
theorem dX7_read_227 : decode cX7_read 227 = .ok (.getfield 112, 3) := by decide +kernel
theorem dX7_read_230 : decode cX7_read 230 = .ok (.iconst 2, 1) := by decide +kernel
theorem dX7_read_231 : decode cX7_read 231 = .ok (.if_icmp .le 13, 3) := by decide +kernel
theorem dX7_read_234 : decode cX7_read 234 = .ok (.aload_n 0, 1) := by decide +kernel
theorem dX7_read_235 : decode cX7_read 235 = .ok (.dup, 1) := by decide +kernel
theorem dX7_read_236 : decode cX7_read 236 = .ok (.getfield 97, 3) := by decide +kernel
theorem dX7_read_239 : decode cX7_read 239 = .ok (.iconst 1, 1) := by decide +kernel
theorem dX7_read_240 : decode cX7_read 240 = .ok (.iadd, 1) := by decide +kernel
theorem dX7_read_241 : decode cX7_read 241 = .ok (.putfield 97, 3) := by decide +kernel
theorem dX7_read_244 : decode cX7_read 244 = .ok (.return_, 1) := by decide +kernel
theorem dX7_word_0 : decode cX7_word 0 = .ok (.iconst 0, 1) := by decide +kernel
theorem dX7_word_1 : decode cX7_word 1 = .ok (.istore_n 1, 1) := by decide +kernel
theorem dX7_word_2 : decode cX7_word 2 = .ok (.iload_n 1, 1) := by decide +kernel
theorem dX7_word_3 : decode cX7_word 3 = .ok (.bipush 10, 2) := by decide +kernel
theorem dX7_word_5 : decode cX7_word 5 = .ok (.if_icmp .ge 109, 3) := by decide +kernel
theorem dX7_word_8 : decode cX7_word 8 = .ok (.aload_n 0, 1) := by decide +kernel
theorem dX7_word_9 : decode cX7_word 9 = .ok (.getfield 112, 3) := by decide +kernel
theorem dX7_word_12 : decode cX7_word 12 = .ok (.iconst 1, 1) := by decide +kernel
theorem dX7_word_13 : decode cX7_word 13 = .ok (.if_icmp .ne 101, 3) := by decide +kernel
theorem dX7_word_16 : decode cX7_word 16 = .ok (.aload_n 0, 1) := by decide +kernel
theorem dX7_word_17 : decode cX7_word 17 = .ok (.getfield 97, 3) := by decide +kernel
theorem dX7_word_20 : decode cX7_word 20 = .ok (.aload_n 0, 1) := by decide +kernel
theorem dX7_word_21 : decode cX7_word 21 = .ok (.getfield 100, 3) := by decide +kernel
theorem dX7_word_24 : decode cX7_word 24 = .ok (.isub, 1) := by decide +kernel
theorem dX7_word_25 : decode cX7_word 25 = .ok (.bipush 7, 2) := by decide +kernel
theorem dX7_word_27 : decode cX7_word 27 = .ok (.if_icmp .gt 7, 3) := by decide +kernel
theorem dX7_word_30 : decode cX7_word 30 = .ok (.iconst 1, 1) := by decide +kernel
theorem dX7_word_31 : decode cX7_word 31 = .ok (.goto 4, 3) := by decide +kernel
theorem dX7_word_34 : decode cX7_word 34 = .ok (.iconst 0, 1) := by decide +kernel
theorem dX7_word_35 : decode cX7_word 35 = .ok (.istore_n 2, 1) := by decide +kernel
theorem dX7_word_36 : decode cX7_word 36 = .ok (.iconst 0, 1) := by decide +kernel
theorem dX7_word_37 : decode cX7_word 37 = .ok (.istore_n 3, 1) := by decide +kernel
theorem dX7_word_38 : decode cX7_word 38 = .ok (.iload_n 3, 1) := by decide +kernel
theorem dX7_word_39 : decode cX7_word 39 = .ok (.bipush 7, 2) := by decide +kernel
theorem dX7_word_41 : decode cX7_word 41 = .ok (.if_icmp .ge 61, 3) := by decide +kernel
theorem dX7_word_44 : decode cX7_word 44 = .ok (.iload_n 2, 1) := by decide +kernel
theorem dX7_word_45 : decode cX7_word 45 = .ok (.ifCond .eq 57, 3) := by decide +kernel
theorem dX7_word_48 : decode cX7_word 48 = .ok (.aload_n 0, 1) := by decide +kernel
theorem dX7_word_49 : decode cX7_word 49 = .ok (.getfield 29, 3) := by decide +kernel
theorem dX7_word_52 : decode cX7_word 52 = .ok (.bipush 7, 2) := by decide +kernel
theorem dX7_word_54 : decode cX7_word 54 = .ok (.iload_n 1, 1) := by decide +kernel
theorem dX7_word_55 : decode cX7_word 55 = .ok (.imul, 1) := by decide +kernel
theorem dX7_word_56 : decode cX7_word 56 = .ok (.iload_n 3, 1) := by decide +kernel
theorem dX7_word_57 : decode cX7_word 57 = .ok (.iadd, 1) := by decide +kernel
theorem dX7_word_58 : decode cX7_word 58 = .ok (.caload, 1) := by decide +kernel
theorem dX7_word_59 : decode cX7_word 59 = .ok (.aload_n 0, 1) := by decide +kernel
theorem dX7_word_60 : decode cX7_word 60 = .ok (.getfield 100, 3) := by decide +kernel
theorem dX7_word_63 : decode cX7_word 63 = .ok (.iload_n 3, 1) := by decide +kernel
theorem dX7_word_64 : decode cX7_word 64 = .ok (.iadd, 1) := by decide +kernel
theorem dX7_word_65 : decode cX7_word 65 = .ok (.aload_n 0, 1) := by decide +kernel
theorem dX7_word_66 : decode cX7_word 66 = .ok (.getfield 97, 3) := by decide +kernel
theorem dX7_word_69 : decode cX7_word 69 = .ok (.if_icmp .ge 17, 3) := by decide +kernel
theorem dX7_word_72 : decode cX7_word 72 = .ok (.aload_n 0, 1) := by decide +kernel
theorem dX7_word_73 : decode cX7_word 73 = .ok (.getfield 26, 3) := by decide +kernel
theorem dX7_word_76 : decode cX7_word 76 = .ok (.aload_n 0, 1) := by decide +kernel
theorem dX7_word_77 : decode cX7_word 77 = .ok (.getfield 100, 3) := by decide +kernel
theorem dX7_word_80 : decode cX7_word 80 = .ok (.iload_n 3, 1) := by decide +kernel
theorem dX7_word_81 : decode cX7_word 81 = .ok (.iadd, 1) := by decide +kernel
theorem dX7_word_82 : decode cX7_word 82 = .ok (.iaload, 1) := by decide +kernel
theorem dX7_word_83 : decode cX7_word 83 = .ok (.goto 4, 3) := by decide +kernel
theorem dX7_word_86 : decode cX7_word 86 = .ok (.iconst 0, 1) := by decide +kernel
theorem dX7_word_87 : decode cX7_word 87 = .ok (.if_icmp .ne 7, 3) := by decide +kernel
theorem dX7_word_90 : decode cX7_word 90 = .ok (.iconst 1, 1) := by decide +kernel
theorem dX7_word_91 : decode cX7_word 91 = .ok (.goto 4, 3) := by decide +kernel
theorem dX7_word_94 : decode cX7_word 94 = .ok (.iconst 0, 1) := by decide +kernel
theorem dX7_word_95 : decode cX7_word 95 = .ok (.istore_n 2, 1) := by decide +kernel
theorem dX7_word_96 : decode cX7_word 96 = .ok (.iinc 3 1, 3) := by decide +kernel
theorem dX7_word_99 : decode cX7_word 99 = .ok (.goto (-61), 3) := by decide +kernel
theorem dX7_word_102 : decode cX7_word 102 = .ok (.iload_n 2, 1) := by decide +kernel
theorem dX7_word_103 : decode cX7_word 103 = .ok (.ifCond .eq 5, 3) := by decide +kernel
theorem dX7_word_106 : decode cX7_word 106 = .ok (.iload_n 1, 1) := by decide +kernel
theorem dX7_word_107 : decode cX7_word 107 = .ok (.ireturn, 1) := by decide +kernel
theorem dX7_word_108 : decode cX7_word 108 = .ok (.iinc 1 1, 3) := by decide +kernel
theorem dX7_word_111 : decode cX7_word 111 = .ok (.goto (-109), 3) := by decide +kernel
theorem dX7_word_114 : decode cX7_word 114 = .ok (.iconst (-1), 1) := by decide +kernel
theorem dX7_word_115 : decode cX7_word 115 = .ok (.ireturn, 1) := by decide +kernel
theorem dX7_reads_0 : decode cX7_reads 0 = .ok (.aload_n 0, 1) := by decide +kernel
theorem dX7_reads_1 : decode cX7_reads 1 = .ok (.invokevirtual 115, 3) := by decide +kernel
theorem dX7_reads_4 : decode cX7_reads 4 = .ok (.aload_n 0, 1) := by decide +kernel
theorem dX7_reads_5 : decode cX7_reads 5 = .ok (.getfield 112, 3) := by decide +kernel
theorem dX7_reads_8 : decode cX7_reads 8 = .ok (.iconst 2, 1) := by decide +kernel
theorem dX7_reads_9 : decode cX7_reads 9 = .ok (.if_icmp .ne 15, 3) := by decide +kernel
theorem dX7_reads_12 : decode cX7_reads 12 = .ok (.aload_n 0, 1) := by decide +kernel
theorem dX7_reads_13 : decode cX7_reads 13 = .ok (.getfield 103, 3) := by decide +kernel
theorem dX7_reads_16 : decode cX7_reads 16 = .ok (.iload_n 1, 1) := by decide +kernel
theorem dX7_reads_17 : decode cX7_reads 17 = .ok (.if_icmp .gt 7, 3) := by decide +kernel
theorem dX7_reads_20 : decode cX7_reads 20 = .ok (.iconst 1, 1) := by decide +kernel
theorem dX7_reads_21 : decode cX7_reads 21 = .ok (.goto 4, 3) := by decide +kernel
theorem dX7_reads_24 : decode cX7_reads 24 = .ok (.iconst 0, 1) := by decide +kernel
theorem dX7_reads_25 : decode cX7_reads 25 = .ok (.ireturn, 1) := by decide +kernel
theorem dX7_happens_0 : decode cX7_happens 0 = .ok (.aload_n 0, 1) := by decide +kernel
theorem dX7_happens_1 : decode cX7_happens 1 = .ok (.invokevirtual 115, 3) := by decide +kernel
theorem dX7_happens_4 : decode cX7_happens 4 = .ok (.aload_n 0, 1) := by decide +kernel
theorem dX7_happens_5 : decode cX7_happens 5 = .ok (.invokevirtual 118, 3) := by decide +kernel
theorem dX7_happens_8 : decode cX7_happens 8 = .ok (.istore_n 1, 1) := by decide +kernel
theorem dX7_happens_9 : decode cX7_happens 9 = .ok (.iconst 0, 1) := by decide +kernel
theorem dX7_happens_10 : decode cX7_happens 10 = .ok (.istore_n 2, 1) := by decide +kernel
theorem dX7_happens_11 : decode cX7_happens 11 = .ok (.iload_n 1, 1) := by decide +kernel
theorem dX7_happens_12 : decode cX7_happens 12 = .ok (.tableswitch 335 0 9 #[56, 103, 157, 157, 157, 203, 228, 251, 251, 310], 56) := by decide +kernel
theorem dX7_happens_68 : decode cX7_happens 68 = .ok (.aload_n 0, 1) := by decide +kernel
theorem dX7_happens_69 : decode cX7_happens 69 = .ok (.invokevirtual 57, 3) := by decide +kernel
theorem dX7_happens_72 : decode cX7_happens 72 = .ok (.bipush 10, 2) := by decide +kernel
theorem dX7_happens_74 : decode cX7_happens 74 = .ok (.if_icmp .eq 12, 3) := by decide +kernel
theorem dX7_happens_77 : decode cX7_happens 77 = .ok (.aload_n 0, 1) := by decide +kernel
theorem dX7_happens_78 : decode cX7_happens 78 = .ok (.bipush 99, 2) := by decide +kernel
theorem dX7_happens_80 : decode cX7_happens 80 = .ok (.invokevirtual 121, 3) := by decide +kernel
theorem dX7_happens_83 : decode cX7_happens 83 = .ok (.ifCond .ne 5, 3) := by decide +kernel
theorem dX7_happens_86 : decode cX7_happens 86 = .ok (.iconst 0, 1) := by decide +kernel
theorem dX7_happens_87 : decode cX7_happens 87 = .ok (.ireturn, 1) := by decide +kernel
theorem dX7_happens_88 : decode cX7_happens 88 = .ok (.aload_n 0, 1) := by decide +kernel
theorem dX7_happens_89 : decode cX7_happens 89 = .ok (.getfield 103, 3) := by decide +kernel
theorem dX7_happens_92 : decode cX7_happens 92 = .ok (.istore_n 2, 1) := by decide +kernel
theorem dX7_happens_93 : decode cX7_happens 93 = .ok (.aload_n 0, 1) := by decide +kernel
theorem dX7_happens_94 : decode cX7_happens 94 = .ok (.iconst 3, 1) := by decide +kernel
theorem dX7_happens_95 : decode cX7_happens 95 = .ok (.invokevirtual 121, 3) := by decide +kernel
theorem dX7_happens_98 : decode cX7_happens 98 = .ok (.ifCond .ne 5, 3) := by decide +kernel
theorem dX7_happens_101 : decode cX7_happens 101 = .ok (.iconst 0, 1) := by decide +kernel
theorem dX7_happens_102 : decode cX7_happens 102 = .ok (.ireturn, 1) := by decide +kernel
theorem dX7_happens_103 : decode cX7_happens 103 = .ok (.aload_n 0, 1) := by decide +kernel
theorem dX7_happens_104 : decode cX7_happens 104 = .ok (.iload_n 2, 1) := by decide +kernel
theorem dX7_happens_105 : decode cX7_happens 105 = .ok (.aload_n 0, 1) := by decide +kernel
theorem dX7_happens_106 : decode cX7_happens 106 = .ok (.getfield 103, 3) := by decide +kernel
theorem dX7_happens_109 : decode cX7_happens 109 = .ok (.invokevirtual 84, 3) := by decide +kernel
theorem dX7_happens_112 : decode cX7_happens 112 = .ok (.pop, 1) := by decide +kernel
theorem dX7_happens_113 : decode cX7_happens 113 = .ok (.iconst 1, 1) := by decide +kernel
theorem dX7_happens_114 : decode cX7_happens 114 = .ok (.ireturn, 1) := by decide +kernel
theorem dX7_happens_115 : decode cX7_happens 115 = .ok (.aload_n 0, 1) := by decide +kernel
theorem dX7_happens_116 : decode cX7_happens 116 = .ok (.aload_n 0, 1) := by decide +kernel
theorem dX7_happens_117 : decode cX7_happens 117 = .ok (.invokevirtual 57, 3) := by decide +kernel
theorem dX7_happens_120 : decode cX7_happens 120 = .ok (.iconst 1, 1) := by decide +kernel
theorem dX7_happens_121 : decode cX7_happens 121 = .ok (.isub, 1) := by decide +kernel
theorem dX7_happens_122 : decode cX7_happens 122 = .ok (.invokevirtual 121, 3) := by decide +kernel
theorem dX7_happens_125 : decode cX7_happens 125 = .ok (.ifCond .ne 5, 3) := by decide +kernel
theorem dX7_happens_128 : decode cX7_happens 128 = .ok (.iconst 0, 1) := by decide +kernel
theorem dX7_happens_129 : decode cX7_happens 129 = .ok (.ireturn, 1) := by decide +kernel
theorem dX7_happens_130 : decode cX7_happens 130 = .ok (.aload_n 0, 1) := by decide +kernel
theorem dX7_happens_131 : decode cX7_happens 131 = .ok (.getfield 103, 3) := by decide +kernel
theorem dX7_happens_134 : decode cX7_happens 134 = .ok (.istore_n 2, 1) := by decide +kernel
theorem dX7_happens_135 : decode cX7_happens 135 = .ok (.aload_n 0, 1) := by decide +kernel
theorem dX7_happens_136 : decode cX7_happens 136 = .ok (.iload_n 2, 1) := by decide +kernel
theorem dX7_happens_137 : decode cX7_happens 137 = .ok (.iconst 1, 1) := by decide +kernel
theorem dX7_happens_138 : decode cX7_happens 138 = .ok (.isub, 1) := by decide +kernel
theorem dX7_happens_139 : decode cX7_happens 139 = .ok (.invokevirtual 121, 3) := by decide +kernel
theorem dX7_happens_142 : decode cX7_happens 142 = .ok (.ifCond .ne 5, 3) := by decide +kernel
theorem dX7_happens_145 : decode cX7_happens 145 = .ok (.iconst 0, 1) := by decide +kernel
theorem dX7_happens_146 : decode cX7_happens 146 = .ok (.ireturn, 1) := by decide +kernel
theorem dX7_happens_147 : decode cX7_happens 147 = .ok (.aload_n 0, 1) := by decide +kernel
theorem dX7_happens_148 : decode cX7_happens 148 = .ok (.iload_n 2, 1) := by decide +kernel
theorem dX7_happens_149 : decode cX7_happens 149 = .ok (.iconst 2, 1) := by decide +kernel
theorem dX7_happens_150 : decode cX7_happens 150 = .ok (.aload_n 0, 1) := by decide +kernel
theorem dX7_happens_151 : decode cX7_happens 151 = .ok (.iload_n 2, 1) := by decide +kernel
theorem dX7_happens_152 : decode cX7_happens 152 = .ok (.iconst 2, 1) := by decide +kernel
theorem dX7_happens_153 : decode cX7_happens 153 = .ok (.invokevirtual 53, 3) := by decide +kernel
theorem dX7_happens_156 : decode cX7_happens 156 = .ok (.iconst 1, 1) := by decide +kernel
theorem dX7_happens_157 : decode cX7_happens 157 = .ok (.aload_n 0, 1) := by decide +kernel
theorem dX7_happens_158 : decode cX7_happens 158 = .ok (.getfield 103, 3) := by decide +kernel
theorem dX7_happens_161 : decode cX7_happens 161 = .ok (.ishl, 1) := by decide +kernel
theorem dX7_happens_162 : decode cX7_happens 162 = .ok (.ior, 1) := by decide +kernel
theorem dX7_happens_163 : decode cX7_happens 163 = .ok (.invokevirtual 77, 3) := by decide +kernel
theorem dX7_happens_166 : decode cX7_happens 166 = .ok (.pop, 1) := by decide +kernel
theorem dX7_happens_167 : decode cX7_happens 167 = .ok (.iconst 1, 1) := by decide +kernel
theorem dX7_happens_168 : decode cX7_happens 168 = .ok (.ireturn, 1) := by decide +kernel
theorem dX7_happens_169 : decode cX7_happens 169 = .ok (.aload_n 0, 1) := by decide +kernel
theorem dX7_happens_170 : decode cX7_happens 170 = .ok (.aload_n 0, 1) := by decide +kernel
theorem dX7_happens_171 : decode cX7_happens 171 = .ok (.invokevirtual 57, 3) := by decide +kernel
theorem dX7_happens_174 : decode cX7_happens 174 = .ok (.iconst 1, 1) := by decide +kernel
theorem dX7_happens_175 : decode cX7_happens 175 = .ok (.isub, 1) := by decide +kernel
theorem dX7_happens_176 : decode cX7_happens 176 = .ok (.invokevirtual 121, 3) := by decide +kernel
theorem dX7_happens_179 : decode cX7_happens 179 = .ok (.ifCond .ne 5, 3) := by decide +kernel
theorem dX7_happens_182 : decode cX7_happens 182 = .ok (.iconst 0, 1) := by decide +kernel
theorem dX7_happens_183 : decode cX7_happens 183 = .ok (.ireturn, 1) := by decide +kernel
theorem dX7_happens_184 : decode cX7_happens 184 = .ok (.aload_n 0, 1) := by decide +kernel
theorem dX7_happens_185 : decode cX7_happens 185 = .ok (.aload_n 0, 1) := by decide +kernel
theorem dX7_happens_186 : decode cX7_happens 186 = .ok (.getfield 103, 3) := by decide +kernel
theorem dX7_happens_189 : decode cX7_happens 189 = .ok (.iload_n 1, 1) := by decide +kernel
theorem dX7_happens_190 : decode cX7_happens 190 = .ok (.iconst 2, 1) := by decide +kernel
theorem dX7_happens_191 : decode cX7_happens 191 = .ok (.if_icmp .ne 7, 3) := by decide +kernel
theorem dX7_happens_194 : decode cX7_happens 194 = .ok (.iconst 2, 1) := by decide +kernel
theorem dX7_happens_195 : decode cX7_happens 195 = .ok (.goto 4, 3) := by decide +kernel
theorem dX7_happens_198 : decode cX7_happens 198 = .ok (.iconst 3, 1) := by decide +kernel
theorem dX7_happens_199 : decode cX7_happens 199 = .ok (.iload_n 1, 1) := by decide +kernel
theorem dX7_happens_200 : decode cX7_happens 200 = .ok (.iconst 4, 1) := by decide +kernel
theorem dX7_happens_201 : decode cX7_happens 201 = .ok (.if_icmp .ne 7, 3) := by decide +kernel
theorem dX7_happens_204 : decode cX7_happens 204 = .ok (.iconst 1, 1) := by decide +kernel
theorem dX7_happens_205 : decode cX7_happens 205 = .ok (.goto 4, 3) := by decide +kernel
theorem dX7_happens_208 : decode cX7_happens 208 = .ok (.iconst 0, 1) := by decide +kernel
theorem dX7_happens_209 : decode cX7_happens 209 = .ok (.invokevirtual 77, 3) := by decide +kernel
theorem dX7_happens_212 : decode cX7_happens 212 = .ok (.pop, 1) := by decide +kernel
theorem dX7_happens_213 : decode cX7_happens 213 = .ok (.iconst 1, 1) := by decide +kernel
theorem dX7_happens_214 : decode cX7_happens 214 = .ok (.ireturn, 1) := by decide +kernel
theorem dX7_happens_215 : decode cX7_happens 215 = .ok (.aload_n 0, 1) := by decide +kernel
theorem dX7_happens_216 : decode cX7_happens 216 = .ok (.getfield 13, 3) := by decide +kernel
theorem dX7_happens_219 : decode cX7_happens 219 = .ok (.bipush 69, 2) := by decide +kernel
theorem dX7_happens_221 : decode cX7_happens 221 = .ok (.iaload, 1) := by decide +kernel
theorem dX7_happens_222 : decode cX7_happens 222 = .ok (.bipush 6, 2) := by decide +kernel
theorem dX7_happens_224 : decode cX7_happens 224 = .ok (.if_icmp .ge 14, 3) := by decide +kernel
theorem dX7_happens_227 : decode cX7_happens 227 = .ok (.aload_n 0, 1) := by decide +kernel
theorem dX7_happens_228 : decode cX7_happens 228 = .ok (.invokevirtual 124, 3) := by decide +kernel
theorem dX7_happens_231 : decode cX7_happens 231 = .ok (.ifCond .eq 7, 3) := by decide +kernel
theorem dX7_happens_234 : decode cX7_happens 234 = .ok (.iconst 1, 1) := by decide +kernel
theorem dX7_happens_235 : decode cX7_happens 235 = .ok (.goto 4, 3) := by decide +kernel
theorem dX7_happens_238 : decode cX7_happens 238 = .ok (.iconst 0, 1) := by decide +kernel
theorem dX7_happens_239 : decode cX7_happens 239 = .ok (.ireturn, 1) := by decide +kernel
theorem dX7_happens_240 : decode cX7_happens 240 = .ok (.aload_n 0, 1) := by decide +kernel
theorem dX7_happens_241 : decode cX7_happens 241 = .ok (.iconst 3, 1) := by decide +kernel
theorem dX7_happens_242 : decode cX7_happens 242 = .ok (.invokevirtual 121, 3) := by decide +kernel
theorem dX7_happens_245 : decode cX7_happens 245 = .ok (.ifCond .ne 5, 3) := by decide +kernel
theorem dX7_happens_248 : decode cX7_happens 248 = .ok (.iconst 0, 1) := by decide +kernel
theorem dX7_happens_249 : decode cX7_happens 249 = .ok (.ireturn, 1) := by decide +kernel
theorem dX7_happens_250 : decode cX7_happens 250 = .ok (.aload_n 0, 1) := by decide +kernel
theorem dX7_happens_251 : decode cX7_happens 251 = .ok (.getfield 13, 3) := by decide +kernel
theorem dX7_happens_254 : decode cX7_happens 254 = .ok (.bipush 70, 2) := by decide +kernel
theorem dX7_happens_256 : decode cX7_happens 256 = .ok (.aload_n 0, 1) := by decide +kernel
theorem dX7_happens_257 : decode cX7_happens 257 = .ok (.getfield 103, 3) := by decide +kernel
theorem dX7_happens_260 : decode cX7_happens 260 = .ok (.iastore, 1) := by decide +kernel
theorem dX7_happens_261 : decode cX7_happens 261 = .ok (.iconst 1, 1) := by decide +kernel
theorem dX7_happens_262 : decode cX7_happens 262 = .ok (.ireturn, 1) := by decide +kernel
theorem dX7_happens_263 : decode cX7_happens 263 = .ok (.aload_n 0, 1) := by decide +kernel
theorem dX7_happens_264 : decode cX7_happens 264 = .ok (.bipush 7, 2) := by decide +kernel
theorem dX7_happens_266 : decode cX7_happens 266 = .ok (.invokevirtual 121, 3) := by decide +kernel
theorem dX7_happens_269 : decode cX7_happens 269 = .ok (.ifCond .ne 5, 3) := by decide +kernel
theorem dX7_happens_272 : decode cX7_happens 272 = .ok (.iconst 0, 1) := by decide +kernel
theorem dX7_happens_273 : decode cX7_happens 273 = .ok (.ireturn, 1) := by decide +kernel
theorem dX7_happens_274 : decode cX7_happens 274 = .ok (.aload_n 0, 1) := by decide +kernel
theorem dX7_happens_275 : decode cX7_happens 275 = .ok (.getfield 13, 3) := by decide +kernel
theorem dX7_happens_278 : decode cX7_happens 278 = .ok (.bipush 72, 2) := by decide +kernel
theorem dX7_happens_280 : decode cX7_happens 280 = .ok (.iload_n 1, 1) := by decide +kernel
theorem dX7_happens_281 : decode cX7_happens 281 = .ok (.bipush 7, 2) := by decide +kernel
theorem dX7_happens_283 : decode cX7_happens 283 = .ok (.if_icmp .ne 20, 3) := by decide +kernel
theorem dX7_happens_286 : decode cX7_happens 286 = .ok (.aload_n 0, 1) := by decide +kernel
theorem dX7_happens_287 : decode cX7_happens 287 = .ok (.getfield 13, 3) := by decide +kernel
theorem dX7_happens_290 : decode cX7_happens 290 = .ok (.bipush 72, 2) := by decide +kernel
theorem dX7_happens_292 : decode cX7_happens 292 = .ok (.iaload, 1) := by decide +kernel
theorem dX7_happens_293 : decode cX7_happens 293 = .ok (.iconst 1, 1) := by decide +kernel
theorem dX7_happens_294 : decode cX7_happens 294 = .ok (.aload_n 0, 1) := by decide +kernel
theorem dX7_happens_295 : decode cX7_happens 295 = .ok (.getfield 103, 3) := by decide +kernel
theorem dX7_happens_298 : decode cX7_happens 298 = .ok (.ishl, 1) := by decide +kernel
theorem dX7_happens_299 : decode cX7_happens 299 = .ok (.ior, 1) := by decide +kernel
theorem dX7_happens_300 : decode cX7_happens 300 = .ok (.goto 19, 3) := by decide +kernel
theorem dX7_happens_303 : decode cX7_happens 303 = .ok (.aload_n 0, 1) := by decide +kernel
theorem dX7_happens_304 : decode cX7_happens 304 = .ok (.getfield 13, 3) := by decide +kernel
theorem dX7_happens_307 : decode cX7_happens 307 = .ok (.bipush 72, 2) := by decide +kernel
theorem dX7_happens_309 : decode cX7_happens 309 = .ok (.iaload, 1) := by decide +kernel
theorem dX7_happens_310 : decode cX7_happens 310 = .ok (.iconst 1, 1) := by decide +kernel
theorem dX7_happens_311 : decode cX7_happens 311 = .ok (.aload_n 0, 1) := by decide +kernel
theorem dX7_happens_312 : decode cX7_happens 312 = .ok (.getfield 103, 3) := by decide +kernel
theorem dX7_happens_315 : decode cX7_happens 315 = .ok (.ishl, 1) := by decide +kernel
theorem dX7_happens_316 : decode cX7_happens 316 = .ok (.iconst (-1), 1) := by decide +kernel
theorem dX7_happens_317 : decode cX7_happens 317 = .ok (.ixor, 1) := by decide +kernel
theorem dX7_happens_318 : decode cX7_happens 318 = .ok (.iand, 1) := by decide +kernel
theorem dX7_happens_319 : decode cX7_happens 319 = .ok (.iastore, 1) := by decide +kernel
theorem dX7_happens_320 : decode cX7_happens 320 = .ok (.iconst 1, 1) := by decide +kernel
theorem dX7_happens_321 : decode cX7_happens 321 = .ok (.ireturn, 1) := by decide +kernel
theorem dX7_happens_322 : decode cX7_happens 322 = .ok (.aload_n 0, 1) := by decide +kernel
theorem dX7_happens_323 : decode cX7_happens 323 = .ok (.sipush 999, 3) := by decide +kernel
theorem dX7_happens_326 : decode cX7_happens 326 = .ok (.invokevirtual 121, 3) := by decide +kernel
theorem dX7_happens_329 : decode cX7_happens 329 = .ok (.ifCond .ne 5, 3) := by decide +kernel
theorem dX7_happens_332 : decode cX7_happens 332 = .ok (.iconst 0, 1) := by decide +kernel
theorem dX7_happens_333 : decode cX7_happens 333 = .ok (.ireturn, 1) := by decide +kernel
theorem dX7_happens_334 : decode cX7_happens 334 = .ok (.aload_n 0, 1) := by decide +kernel
theorem dX7_happens_335 : decode cX7_happens 335 = .ok (.getfield 13, 3) := by decide +kernel
theorem dX7_happens_338 : decode cX7_happens 338 = .ok (.bipush 71, 2) := by decide +kernel
theorem dX7_happens_340 : decode cX7_happens 340 = .ok (.aload_n 0, 1) := by decide +kernel
theorem dX7_happens_341 : decode cX7_happens 341 = .ok (.getfield 103, 3) := by decide +kernel
theorem dX7_happens_344 : decode cX7_happens 344 = .ok (.iastore, 1) := by decide +kernel
theorem dX7_happens_345 : decode cX7_happens 345 = .ok (.iconst 1, 1) := by decide +kernel
theorem dX7_happens_346 : decode cX7_happens 346 = .ok (.ireturn, 1) := by decide +kernel
theorem dX7_happens_347 : decode cX7_happens 347 = .ok (.iconst 0, 1) := by decide +kernel
theorem dX7_happens_348 : decode cX7_happens 348 = .ok (.ireturn, 1) := by decide +kernel
theorem dX7_readRinger_0 : decode cX7_readRinger 0 = .ok (.aload_n 0, 1) := by decide +kernel
theorem dX7_readRinger_1 : decode cX7_readRinger 1 = .ok (.iconst 5, 1) := by decide +kernel
theorem dX7_readRinger_2 : decode cX7_readRinger 2 = .ok (.invokevirtual 121, 3) := by decide +kernel
theorem dX7_readRinger_5 : decode cX7_readRinger 5 = .ok (.ifCond .ne 5, 3) := by decide +kernel
theorem dX7_readRinger_8 : decode cX7_readRinger 8 = .ok (.iconst 0, 1) := by decide +kernel
theorem dX7_readRinger_9 : decode cX7_readRinger 9 = .ok (.ireturn, 1) := by decide +kernel
theorem dX7_readRinger_10 : decode cX7_readRinger 10 = .ok (.aload_n 0, 1) := by decide +kernel
theorem dX7_readRinger_11 : decode cX7_readRinger 11 = .ok (.getfield 103, 3) := by decide +kernel
theorem dX7_readRinger_14 : decode cX7_readRinger 14 = .ok (.istore_n 1, 1) := by decide +kernel
theorem dX7_readRinger_15 : decode cX7_readRinger 15 = .ok (.aload_n 0, 1) := by decide +kernel
theorem dX7_readRinger_16 : decode cX7_readRinger 16 = .ok (.bipush 9, 2) := by decide +kernel
theorem dX7_readRinger_18 : decode cX7_readRinger 18 = .ok (.invokevirtual 121, 3) := by decide +kernel
theorem dX7_readRinger_21 : decode cX7_readRinger 21 = .ok (.ifCond .ne 5, 3) := by decide +kernel
theorem dX7_readRinger_24 : decode cX7_readRinger 24 = .ok (.iconst 0, 1) := by decide +kernel
theorem dX7_readRinger_25 : decode cX7_readRinger 25 = .ok (.ireturn, 1) := by decide +kernel
theorem dX7_readRinger_26 : decode cX7_readRinger 26 = .ok (.aload_n 0, 1) := by decide +kernel
theorem dX7_readRinger_27 : decode cX7_readRinger 27 = .ok (.getfield 103, 3) := by decide +kernel
theorem dX7_readRinger_30 : decode cX7_readRinger 30 = .ok (.istore_n 2, 1) := by decide +kernel
theorem dX7_readRinger_31 : decode cX7_readRinger 31 = .ok (.aload_n 0, 1) := by decide +kernel
theorem dX7_readRinger_32 : decode cX7_readRinger 32 = .ok (.bipush 7, 2) := by decide +kernel
theorem dX7_readRinger_34 : decode cX7_readRinger 34 = .ok (.invokevirtual 121, 3) := by decide +kernel
theorem dX7_readRinger_37 : decode cX7_readRinger 37 = .ok (.ifCond .ne 5, 3) := by decide +kernel
theorem dX7_readRinger_40 : decode cX7_readRinger 40 = .ok (.iconst 0, 1) := by decide +kernel
theorem dX7_readRinger_41 : decode cX7_readRinger 41 = .ok (.ireturn, 1) := by decide +kernel
theorem dX7_readRinger_42 : decode cX7_readRinger 42 = .ok (.aload_n 0, 1) := by decide +kernel
theorem dX7_readRinger_43 : decode cX7_readRinger 43 = .ok (.iload_n 1, 1) := by decide +kernel
theorem dX7_readRinger_44 : decode cX7_readRinger 44 = .ok (.iload_n 2, 1) := by decide +kernel
theorem dX7_readRinger_45 : decode cX7_readRinger 45 = .ok (.aload_n 0, 1) := by decide +kernel
theorem dX7_readRinger_46 : decode cX7_readRinger 46 = .ok (.getfield 103, 3) := by decide +kernel
theorem dX7_readRinger_49 : decode cX7_readRinger 49 = .ok (.invokevirtual 87, 3) := by decide +kernel
theorem dX7_readRinger_52 : decode cX7_readRinger 52 = .ok (.pop, 1) := by decide +kernel
theorem dX7_readRinger_53 : decode cX7_readRinger 53 = .ok (.iconst 1, 1) := by decide +kernel
theorem dX7_readRinger_54 : decode cX7_readRinger 54 = .ok (.ireturn, 1) := by decide +kernel
theorem dX7_tower_0 : decode cX7_tower 0 = .ok (.aload_n 0, 1) := by decide +kernel
theorem dX7_tower_1 : decode cX7_tower 1 = .ok (.getfield 13, 3) := by decide +kernel
theorem dX7_tower_4 : decode cX7_tower 4 = .ok (.aload_n 0, 1) := by decide +kernel
theorem dX7_tower_5 : decode cX7_tower 5 = .ok (.getfield 17, 3) := by decide +kernel
theorem dX7_tower_8 : decode cX7_tower 8 = .ok (.invokestatic 128, 3) := by decide +kernel
theorem dX7_tower_11 : decode cX7_tower 11 = .ok (.aload_n 0, 1) := by decide +kernel
theorem dX7_tower_12 : decode cX7_tower 12 = .ok (.iconst 0, 1) := by decide +kernel
theorem dX7_tower_13 : decode cX7_tower 13 = .ok (.putfield 97, 3) := by decide +kernel
theorem dX7_tower_16 : decode cX7_tower 16 = .ok (.iconst 0, 1) := by decide +kernel
theorem dX7_tower_17 : decode cX7_tower 17 = .ok (.istore_n 1, 1) := by decide +kernel
theorem dX7_tower_18 : decode cX7_tower 18 = .ok (.iconst 1, 1) := by decide +kernel
theorem dX7_tower_19 : decode cX7_tower 19 = .ok (.istore_n 2, 1) := by decide +kernel
theorem dX7_tower_20 : decode cX7_tower 20 = .ok (.iconst 1, 1) := by decide +kernel
theorem dX7_tower_21 : decode cX7_tower 21 = .ok (.istore_n 3, 1) := by decide +kernel
theorem dX7_tower_22 : decode cX7_tower 22 = .ok (.iload_n 3, 1) := by decide +kernel
theorem dX7_tower_23 : decode cX7_tower 23 = .ok (.ifCond .eq 61, 3) := by decide +kernel
theorem dX7_tower_26 : decode cX7_tower 26 = .ok (.aload_n 0, 1) := by decide +kernel
theorem dX7_tower_27 : decode cX7_tower 27 = .ok (.invokevirtual 132, 3) := by decide +kernel
theorem dX7_tower_30 : decode cX7_tower 30 = .ok (.istore_n 2, 1) := by decide +kernel
theorem dX7_tower_31 : decode cX7_tower 31 = .ok (.iinc 1 1, 3) := by decide +kernel
theorem dX7_tower_34 : decode cX7_tower 34 = .ok (.iload_n 2, 1) := by decide +kernel
theorem dX7_tower_35 : decode cX7_tower 35 = .ok (.ifCond .eq 28, 3) := by decide +kernel
theorem dX7_tower_38 : decode cX7_tower 38 = .ok (.aload_n 0, 1) := by decide +kernel
theorem dX7_tower_39 : decode cX7_tower 39 = .ok (.invokevirtual 115, 3) := by decide +kernel
theorem dX7_tower_42 : decode cX7_tower 42 = .ok (.aload_n 0, 1) := by decide +kernel
theorem dX7_tower_43 : decode cX7_tower 43 = .ok (.getfield 112, 3) := by decide +kernel
theorem dX7_tower_46 : decode cX7_tower 46 = .ok (.ifCond .eq 11, 3) := by decide +kernel
theorem dX7_tower_49 : decode cX7_tower 49 = .ok (.aload_n 0, 1) := by decide +kernel
theorem dX7_tower_50 : decode cX7_tower 50 = .ok (.getfield 112, 3) := by decide +kernel
theorem dX7_tower_53 : decode cX7_tower 53 = .ok (.iconst 3, 1) := by decide +kernel
theorem dX7_tower_54 : decode cX7_tower 54 = .ok (.if_icmp .ne 7, 3) := by decide +kernel
theorem dX7_tower_57 : decode cX7_tower 57 = .ok (.iconst 1, 1) := by decide +kernel
theorem dX7_tower_58 : decode cX7_tower 58 = .ok (.goto 4, 3) := by decide +kernel
theorem dX7_tower_61 : decode cX7_tower 61 = .ok (.iconst 0, 1) := by decide +kernel
theorem dX7_tower_62 : decode cX7_tower 62 = .ok (.istore_n 2, 1) := by decide +kernel
theorem dX7_tower_63 : decode cX7_tower 63 = .ok (.iload_n 2, 1) := by decide +kernel
theorem dX7_tower_64 : decode cX7_tower 64 = .ok (.ifCond .eq 15, 3) := by decide +kernel
theorem dX7_tower_67 : decode cX7_tower 67 = .ok (.aload_n 0, 1) := by decide +kernel
theorem dX7_tower_68 : decode cX7_tower 68 = .ok (.getfield 112, 3) := by decide +kernel
theorem dX7_tower_71 : decode cX7_tower 71 = .ok (.iconst 3, 1) := by decide +kernel
theorem dX7_tower_72 : decode cX7_tower 72 = .ok (.if_icmp .ne 7, 3) := by decide +kernel
theorem dX7_tower_75 : decode cX7_tower 75 = .ok (.iconst 1, 1) := by decide +kernel
theorem dX7_tower_76 : decode cX7_tower 76 = .ok (.goto 4, 3) := by decide +kernel
theorem dX7_tower_79 : decode cX7_tower 79 = .ok (.iconst 0, 1) := by decide +kernel
theorem dX7_tower_80 : decode cX7_tower 80 = .ok (.istore_n 3, 1) := by decide +kernel
theorem dX7_tower_81 : decode cX7_tower 81 = .ok (.goto (-59), 3) := by decide +kernel
theorem dX7_tower_84 : decode cX7_tower 84 = .ok (.aload_n 0, 1) := by decide +kernel
theorem dX7_tower_85 : decode cX7_tower 85 = .ok (.iconst 0, 1) := by decide +kernel
theorem dX7_tower_86 : decode cX7_tower 86 = .ok (.putfield 93, 3) := by decide +kernel
theorem dX7_tower_89 : decode cX7_tower 89 = .ok (.iload_n 2, 1) := by decide +kernel
theorem dX7_tower_90 : decode cX7_tower 90 = .ok (.ifCond .ne 32, 3) := by decide +kernel
theorem dX7_tower_93 : decode cX7_tower 93 = .ok (.aload_n 0, 1) := by decide +kernel
theorem dX7_tower_94 : decode cX7_tower 94 = .ok (.getfield 17, 3) := by decide +kernel
theorem dX7_tower_97 : decode cX7_tower 97 = .ok (.aload_n 0, 1) := by decide +kernel
theorem dX7_tower_98 : decode cX7_tower 98 = .ok (.getfield 13, 3) := by decide +kernel
theorem dX7_tower_101 : decode cX7_tower 101 = .ok (.invokestatic 128, 3) := by decide +kernel
theorem dX7_tower_104 : decode cX7_tower 104 = .ok (.aload_n 0, 1) := by decide +kernel
theorem dX7_tower_105 : decode cX7_tower 105 = .ok (.getfield 23, 3) := by decide +kernel
theorem dX7_tower_108 : decode cX7_tower 108 = .ok (.iconst 2, 1) := by decide +kernel
theorem dX7_tower_109 : decode cX7_tower 109 = .ok (.dup2, 1) := by decide +kernel
theorem dX7_tower_110 : decode cX7_tower 110 = .ok (.iaload, 1) := by decide +kernel
theorem dX7_tower_111 : decode cX7_tower 111 = .ok (.iconst 1, 1) := by decide +kernel
theorem dX7_tower_112 : decode cX7_tower 112 = .ok (.iadd, 1) := by decide +kernel
theorem dX7_tower_113 : decode cX7_tower 113 = .ok (.iastore, 1) := by decide +kernel
theorem dX7_tower_114 : decode cX7_tower 114 = .ok (.bipush (-20), 2) := by decide +kernel
theorem dX7_tower_116 : decode cX7_tower 116 = .ok (.aload_n 0, 1) := by decide +kernel
theorem dX7_tower_117 : decode cX7_tower 117 = .ok (.getfield 100, 3) := by decide +kernel
theorem dX7_tower_120 : decode cX7_tower 120 = .ok (.isub, 1) := by decide +kernel
theorem dX7_tower_121 : decode cX7_tower 121 = .ok (.ireturn, 1) := by decide +kernel
theorem dX7_tower_122 : decode cX7_tower 122 = .ok (.iload_n 1, 1) := by decide +kernel
theorem dX7_tower_123 : decode cX7_tower 123 = .ok (.ireturn, 1) := by decide +kernel
theorem dX7_thingOf_0 : decode cX7_thingOf 0 = .ok (.aload_n 0, 1) := by decide +kernel
theorem dX7_thingOf_1 : decode cX7_thingOf 1 = .ok (.iload_n 1, 1) := by decide +kernel
theorem dX7_thingOf_2 : decode cX7_thingOf 2 = .ok (.invokevirtual 90, 3) := by decide +kernel
theorem dX7_thingOf_5 : decode cX7_thingOf 5 = .ok (.ifCond .eq 13, 3) := by decide +kernel
theorem dX7_thingOf_8 : decode cX7_thingOf 8 = .ok (.iload_n 2, 1) := by decide +kernel
theorem dX7_thingOf_9 : decode cX7_thingOf 9 = .ok (.iconst 0, 1) := by decide +kernel
theorem dX7_thingOf_10 : decode cX7_thingOf 10 = .ok (.bipush 7, 2) := by decide +kernel
theorem dX7_thingOf_12 : decode cX7_thingOf 12 = .ok (.invokestatic 49, 3) := by decide +kernel
theorem dX7_thingOf_15 : decode cX7_thingOf 15 = .ok (.ifCond .ne 10, 3) := by decide +kernel
theorem dX7_thingOf_18 : decode cX7_thingOf 18 = .ok (.aload_n 0, 1) := by decide +kernel
theorem dX7_thingOf_19 : decode cX7_thingOf 19 = .ok (.bipush (-2), 2) := by decide +kernel
theorem dX7_thingOf_21 : decode cX7_thingOf 21 = .ok (.invokevirtual 81, 3) := by decide +kernel
theorem dX7_thingOf_24 : decode cX7_thingOf 24 = .ok (.ireturn, 1) := by decide +kernel
theorem dX7_thingOf_25 : decode cX7_thingOf 25 = .ok (.iload_n 2, 1) := by decide +kernel
theorem dX7_thingOf_26 : decode cX7_thingOf 26 = .ok (.tableswitch 104 0 6 #[42, 49, 56, 63, 70, 77, 90], 42) := by decide +kernel
theorem dX7_thingOf_68 : decode cX7_thingOf 68 = .ok (.aload_n 0, 1) := by decide +kernel
theorem dX7_thingOf_69 : decode cX7_thingOf 69 = .ok (.iload_n 1, 1) := by decide +kernel
theorem dX7_thingOf_70 : decode cX7_thingOf 70 = .ok (.iconst 0, 1) := by decide +kernel
theorem dX7_thingOf_71 : decode cX7_thingOf 71 = .ok (.invokevirtual 53, 3) := by decide +kernel
theorem dX7_thingOf_74 : decode cX7_thingOf 74 = .ok (.ireturn, 1) := by decide +kernel
theorem dX7_thingOf_75 : decode cX7_thingOf 75 = .ok (.aload_n 0, 1) := by decide +kernel
theorem dX7_thingOf_76 : decode cX7_thingOf 76 = .ok (.iload_n 1, 1) := by decide +kernel
theorem dX7_thingOf_77 : decode cX7_thingOf 77 = .ok (.iconst 1, 1) := by decide +kernel
theorem dX7_thingOf_78 : decode cX7_thingOf 78 = .ok (.invokevirtual 53, 3) := by decide +kernel
theorem dX7_thingOf_81 : decode cX7_thingOf 81 = .ok (.ireturn, 1) := by decide +kernel
theorem dX7_thingOf_82 : decode cX7_thingOf 82 = .ok (.aload_n 0, 1) := by decide +kernel
theorem dX7_thingOf_83 : decode cX7_thingOf 83 = .ok (.iload_n 1, 1) := by decide +kernel
theorem dX7_thingOf_84 : decode cX7_thingOf 84 = .ok (.iconst 4, 1) := by decide +kernel
theorem dX7_thingOf_85 : decode cX7_thingOf 85 = .ok (.invokevirtual 53, 3) := by decide +kernel
theorem dX7_thingOf_88 : decode cX7_thingOf 88 = .ok (.ireturn, 1) := by decide +kernel
theorem dX7_thingOf_89 : decode cX7_thingOf 89 = .ok (.aload_n 0, 1) := by decide +kernel
theorem dX7_thingOf_90 : decode cX7_thingOf 90 = .ok (.iload_n 1, 1) := by decide +kernel
theorem dX7_thingOf_91 : decode cX7_thingOf 91 = .ok (.iconst 3, 1) := by decide +kernel
theorem dX7_thingOf_92 : decode cX7_thingOf 92 = .ok (.invokevirtual 53, 3) := by decide +kernel
theorem dX7_thingOf_95 : decode cX7_thingOf 95 = .ok (.ireturn, 1) := by decide +kernel
theorem dX7_thingOf_96 : decode cX7_thingOf 96 = .ok (.aload_n 0, 1) := by decide +kernel
theorem dX7_thingOf_97 : decode cX7_thingOf 97 = .ok (.iload_n 1, 1) := by decide +kernel
theorem dX7_thingOf_98 : decode cX7_thingOf 98 = .ok (.iconst 2, 1) := by decide +kernel
theorem dX7_thingOf_99 : decode cX7_thingOf 99 = .ok (.invokevirtual 53, 3) := by decide +kernel
theorem dX7_thingOf_102 : decode cX7_thingOf 102 = .ok (.ireturn, 1) := by decide +kernel
theorem dX7_thingOf_103 : decode cX7_thingOf 103 = .ok (.aload_n 0, 1) := by decide +kernel
theorem dX7_thingOf_104 : decode cX7_thingOf 104 = .ok (.aload_n 0, 1) := by decide +kernel
theorem dX7_thingOf_105 : decode cX7_thingOf 105 = .ok (.invokevirtual 135, 3) := by decide +kernel
theorem dX7_thingOf_108 : decode cX7_thingOf 108 = .ok (.invokevirtual 65, 3) := by decide +kernel
theorem dX7_thingOf_111 : decode cX7_thingOf 111 = .ok (.iload_n 1, 1) := by decide +kernel
theorem dX7_thingOf_112 : decode cX7_thingOf 112 = .ok (.ishr, 1) := by decide +kernel
theorem dX7_thingOf_113 : decode cX7_thingOf 113 = .ok (.iconst 1, 1) := by decide +kernel
theorem dX7_thingOf_114 : decode cX7_thingOf 114 = .ok (.iand, 1) := by decide +kernel
theorem dX7_thingOf_115 : decode cX7_thingOf 115 = .ok (.ireturn, 1) := by decide +kernel
theorem dX7_thingOf_116 : decode cX7_thingOf 116 = .ok (.aload_n 0, 1) := by decide +kernel
theorem dX7_thingOf_117 : decode cX7_thingOf 117 = .ok (.iload_n 1, 1) := by decide +kernel
theorem dX7_thingOf_118 : decode cX7_thingOf 118 = .ok (.invokevirtual 61, 3) := by decide +kernel
theorem dX7_thingOf_121 : decode cX7_thingOf 121 = .ok (.ifCond .eq 7, 3) := by decide +kernel
theorem dX7_thingOf_124 : decode cX7_thingOf 124 = .ok (.iconst 1, 1) := by decide +kernel
theorem dX7_thingOf_125 : decode cX7_thingOf 125 = .ok (.goto 4, 3) := by decide +kernel
theorem dX7_thingOf_128 : decode cX7_thingOf 128 = .ok (.iconst 0, 1) := by decide +kernel
theorem dX7_thingOf_129 : decode cX7_thingOf 129 = .ok (.ireturn, 1) := by decide +kernel
theorem dX7_thingOf_130 : decode cX7_thingOf 130 = .ok (.aload_n 0, 1) := by decide +kernel
theorem dX7_thingOf_131 : decode cX7_thingOf 131 = .ok (.iload_n 1, 1) := by decide +kernel
theorem dX7_thingOf_132 : decode cX7_thingOf 132 = .ok (.invokevirtual 138, 3) := by decide +kernel
theorem dX7_thingOf_135 : decode cX7_thingOf 135 = .ok (.ireturn, 1) := by decide +kernel
theorem dX7_held_0 : decode cX7_held 0 = .ok (.iconst 0, 1) := by decide +kernel
theorem dX7_held_1 : decode cX7_held 1 = .ok (.bipush 99, 2) := by decide +kernel
theorem dX7_held_3 : decode cX7_held 3 = .ok (.iload_n 0, 1) := by decide +kernel
theorem dX7_held_4 : decode cX7_held 4 = .ok (.invokestatic 141, 3) := by decide +kernel
theorem dX7_held_7 : decode cX7_held 7 = .ok (.invokestatic 146, 3) := by decide +kernel
theorem dX7_held_10 : decode cX7_held 10 = .ok (.ireturn, 1) := by decide +kernel
theorem dX7_slipBy_0 : decode cX7_slipBy 0 = .ok (.bipush 10, 2) := by decide +kernel
theorem dX7_slipBy_2 : decode cX7_slipBy 2 = .ok (.iload_n 2, 1) := by decide +kernel
theorem dX7_slipBy_3 : decode cX7_slipBy 3 = .ok (.iadd, 1) := by decide +kernel
theorem dX7_slipBy_4 : decode cX7_slipBy 4 = .ok (.invokestatic 149, 3) := by decide +kernel
theorem dX7_slipBy_7 : decode cX7_slipBy 7 = .ok (.istore 4, 2) := by decide +kernel
theorem dX7_slipBy_9 : decode cX7_slipBy 9 = .ok (.iconst 3, 1) := by decide +kernel
theorem dX7_slipBy_10 : decode cX7_slipBy 10 = .ok (.iload 4, 2) := by decide +kernel
theorem dX7_slipBy_12 : decode cX7_slipBy 12 = .ok (.imul, 1) := by decide +kernel
theorem dX7_slipBy_13 : decode cX7_slipBy 13 = .ok (.invokestatic 149, 3) := by decide +kernel
theorem dX7_slipBy_16 : decode cX7_slipBy 16 = .ok (.istore 5, 2) := by decide +kernel
theorem dX7_slipBy_18 : decode cX7_slipBy 18 = .ok (.iload 4, 2) := by decide +kernel
theorem dX7_slipBy_20 : decode cX7_slipBy 20 = .ok (.iload_n 2, 1) := by decide +kernel
theorem dX7_slipBy_21 : decode cX7_slipBy 21 = .ok (.isub, 1) := by decide +kernel
theorem dX7_slipBy_22 : decode cX7_slipBy 22 = .ok (.invokestatic 149, 3) := by decide +kernel
theorem dX7_slipBy_25 : decode cX7_slipBy 25 = .ok (.istore 6, 2) := by decide +kernel
theorem dX7_slipBy_27 : decode cX7_slipBy 27 = .ok (.iload_n 1, 1) := by decide +kernel
theorem dX7_slipBy_28 : decode cX7_slipBy 28 = .ok (.tableswitch 80 1 5 #[36, 39, 42, 49, 57], 36) := by decide +kernel
theorem dX7_slipBy_64 : decode cX7_slipBy 64 = .ok (.iload 5, 2) := by decide +kernel
theorem dX7_slipBy_66 : decode cX7_slipBy 66 = .ok (.ireturn, 1) := by decide +kernel
theorem dX7_slipBy_67 : decode cX7_slipBy 67 = .ok (.iload 6, 2) := by decide +kernel
theorem dX7_slipBy_69 : decode cX7_slipBy 69 = .ok (.ireturn, 1) := by decide +kernel
theorem dX7_slipBy_70 : decode cX7_slipBy 70 = .ok (.iload 5, 2) := by decide +kernel
theorem dX7_slipBy_72 : decode cX7_slipBy 72 = .ok (.iconst 1, 1) := by decide +kernel
theorem dX7_slipBy_73 : decode cX7_slipBy 73 = .ok (.iadd, 1) := by decide +kernel
theorem dX7_slipBy_74 : decode cX7_slipBy 74 = .ok (.iconst 2, 1) := by decide +kernel
theorem dX7_slipBy_75 : decode cX7_slipBy 75 = .ok (.idiv, 1) := by decide +kernel
theorem dX7_slipBy_76 : decode cX7_slipBy 76 = .ok (.ireturn, 1) := by decide +kernel
theorem dX7_slipBy_77 : decode cX7_slipBy 77 = .ok (.iload 6, 2) := by decide +kernel
theorem dX7_slipBy_79 : decode cX7_slipBy 79 = .ok (.iconst 5, 1) := by decide +kernel
theorem dX7_slipBy_80 : decode cX7_slipBy 80 = .ok (.isub, 1) := by decide +kernel
theorem dX7_slipBy_81 : decode cX7_slipBy 81 = .ok (.invokestatic 149, 3) := by decide +kernel
theorem dX7_slipBy_84 : decode cX7_slipBy 84 = .ok (.ireturn, 1) := by decide +kernel
theorem dX7_slipBy_85 : decode cX7_slipBy 85 = .ok (.aload_n 0, 1) := by decide +kernel
theorem dX7_slipBy_86 : decode cX7_slipBy 86 = .ok (.getfield 13, 3) := by decide +kernel
theorem dX7_slipBy_89 : decode cX7_slipBy 89 = .ok (.bipush 72, 2) := by decide +kernel
theorem dX7_slipBy_91 : decode cX7_slipBy 91 = .ok (.iaload, 1) := by decide +kernel
theorem dX7_slipBy_92 : decode cX7_slipBy 92 = .ok (.iload_n 3, 1) := by decide +kernel
theorem dX7_slipBy_93 : decode cX7_slipBy 93 = .ok (.ishr, 1) := by decide +kernel
theorem dX7_slipBy_94 : decode cX7_slipBy 94 = .ok (.iconst 1, 1) := by decide +kernel
theorem dX7_slipBy_95 : decode cX7_slipBy 95 = .ok (.iand, 1) := by decide +kernel
theorem dX7_slipBy_96 : decode cX7_slipBy 96 = .ok (.iconst 1, 1) := by decide +kernel
theorem dX7_slipBy_97 : decode cX7_slipBy 97 = .ok (.if_icmp .ne 8, 3) := by decide +kernel
theorem dX7_slipBy_100 : decode cX7_slipBy 100 = .ok (.bipush 50, 2) := by decide +kernel
theorem dX7_slipBy_102 : decode cX7_slipBy 102 = .ok (.goto 5, 3) := by decide +kernel
theorem dX7_slipBy_105 : decode cX7_slipBy 105 = .ok (.iload 4, 2) := by decide +kernel
theorem dX7_slipBy_107 : decode cX7_slipBy 107 = .ok (.ireturn, 1) := by decide +kernel
theorem dX7_slipBy_108 : decode cX7_slipBy 108 = .ok (.iload 4, 2) := by decide +kernel
theorem dX7_slipBy_110 : decode cX7_slipBy 110 = .ok (.ireturn, 1) := by decide +kernel
theorem dX7_slip_0 : decode cX7_slip 0 = .ok (.aload_n 0, 1) := by decide +kernel
theorem dX7_slip_1 : decode cX7_slip 1 = .ok (.aload_n 0, 1) := by decide +kernel
theorem dX7_slip_2 : decode cX7_slip 2 = .ok (.getfield 13, 3) := by decide +kernel
theorem dX7_slip_5 : decode cX7_slip 5 = .ok (.bipush 50, 2) := by decide +kernel
theorem dX7_slip_7 : decode cX7_slip 7 = .ok (.iconst 3, 1) := by decide +kernel
theorem dX7_slip_8 : decode cX7_slip 8 = .ok (.iload_n 1, 1) := by decide +kernel
theorem dX7_slip_9 : decode cX7_slip 9 = .ok (.imul, 1) := by decide +kernel
theorem dX7_slip_10 : decode cX7_slip 10 = .ok (.iadd, 1) := by decide +kernel
theorem dX7_slip_11 : decode cX7_slip 11 = .ok (.iaload, 1) := by decide +kernel
theorem dX7_slip_12 : decode cX7_slip 12 = .ok (.aload_n 0, 1) := by decide +kernel
theorem dX7_slip_13 : decode cX7_slip 13 = .ok (.getfield 13, 3) := by decide +kernel
theorem dX7_slip_16 : decode cX7_slip 16 = .ok (.bipush 50, 2) := by decide +kernel
theorem dX7_slip_18 : decode cX7_slip 18 = .ok (.iconst 3, 1) := by decide +kernel
theorem dX7_slip_19 : decode cX7_slip 19 = .ok (.iload_n 1, 1) := by decide +kernel
theorem dX7_slip_20 : decode cX7_slip 20 = .ok (.imul, 1) := by decide +kernel
theorem dX7_slip_21 : decode cX7_slip 21 = .ok (.iadd, 1) := by decide +kernel
theorem dX7_slip_22 : decode cX7_slip 22 = .ok (.iconst 1, 1) := by decide +kernel
theorem dX7_slip_23 : decode cX7_slip 23 = .ok (.iadd, 1) := by decide +kernel
theorem dX7_slip_24 : decode cX7_slip 24 = .ok (.iaload, 1) := by decide +kernel
theorem dX7_slip_25 : decode cX7_slip 25 = .ok (.aload_n 0, 1) := by decide +kernel
theorem dX7_slip_26 : decode cX7_slip 26 = .ok (.getfield 13, 3) := by decide +kernel
theorem dX7_slip_29 : decode cX7_slip 29 = .ok (.bipush 50, 2) := by decide +kernel
theorem dX7_slip_31 : decode cX7_slip 31 = .ok (.iconst 3, 1) := by decide +kernel
theorem dX7_slip_32 : decode cX7_slip 32 = .ok (.iload_n 1, 1) := by decide +kernel
theorem dX7_slip_33 : decode cX7_slip 33 = .ok (.imul, 1) := by decide +kernel
theorem dX7_slip_34 : decode cX7_slip 34 = .ok (.iadd, 1) := by decide +kernel
theorem dX7_slip_35 : decode cX7_slip 35 = .ok (.iconst 2, 1) := by decide +kernel
theorem dX7_slip_36 : decode cX7_slip 36 = .ok (.iadd, 1) := by decide +kernel
theorem dX7_slip_37 : decode cX7_slip 37 = .ok (.iaload, 1) := by decide +kernel
theorem dX7_slip_38 : decode cX7_slip 38 = .ok (.invokevirtual 152, 3) := by decide +kernel
theorem dX7_slip_41 : decode cX7_slip 41 = .ok (.ireturn, 1) := by decide +kernel
theorem dX7_ringerOf_0 : decode cX7_ringerOf 0 = .ok (.aload_n 0, 1) := by decide +kernel
theorem dX7_ringerOf_1 : decode cX7_ringerOf 1 = .ok (.iload_n 1, 1) := by decide +kernel
theorem dX7_ringerOf_2 : decode cX7_ringerOf 2 = .ok (.invokevirtual 155, 3) := by decide +kernel
theorem dX7_ringerOf_5 : decode cX7_ringerOf 5 = .ok (.ifCond .eq 12, 3) := by decide +kernel
theorem dX7_ringerOf_8 : decode cX7_ringerOf 8 = .ok (.iload_n 2, 1) := by decide +kernel
theorem dX7_ringerOf_9 : decode cX7_ringerOf 9 = .ok (.iconst 0, 1) := by decide +kernel
theorem dX7_ringerOf_10 : decode cX7_ringerOf 10 = .ok (.iconst 3, 1) := by decide +kernel
theorem dX7_ringerOf_11 : decode cX7_ringerOf 11 = .ok (.invokestatic 49, 3) := by decide +kernel
theorem dX7_ringerOf_14 : decode cX7_ringerOf 14 = .ok (.ifCond .ne 10, 3) := by decide +kernel
theorem dX7_ringerOf_17 : decode cX7_ringerOf 17 = .ok (.aload_n 0, 1) := by decide +kernel
theorem dX7_ringerOf_18 : decode cX7_ringerOf 18 = .ok (.bipush (-2), 2) := by decide +kernel
theorem dX7_ringerOf_20 : decode cX7_ringerOf 20 = .ok (.invokevirtual 81, 3) := by decide +kernel
theorem dX7_ringerOf_23 : decode cX7_ringerOf 23 = .ok (.ireturn, 1) := by decide +kernel
theorem dX7_ringerOf_24 : decode cX7_ringerOf 24 = .ok (.iload_n 2, 1) := by decide +kernel
theorem dX7_ringerOf_25 : decode cX7_ringerOf 25 = .ok (.iconst 3, 1) := by decide +kernel
theorem dX7_ringerOf_26 : decode cX7_ringerOf 26 = .ok (.if_icmp .ne 11, 3) := by decide +kernel
theorem dX7_ringerOf_29 : decode cX7_ringerOf 29 = .ok (.aload_n 0, 1) := by decide +kernel
theorem dX7_ringerOf_30 : decode cX7_ringerOf 30 = .ok (.iload_n 1, 1) := by decide +kernel
theorem dX7_ringerOf_31 : decode cX7_ringerOf 31 = .ok (.invokevirtual 158, 3) := by decide +kernel
theorem dX7_ringerOf_34 : decode cX7_ringerOf 34 = .ok (.goto 16, 3) := by decide +kernel
theorem dX7_ringerOf_37 : decode cX7_ringerOf 37 = .ok (.aload_n 0, 1) := by decide +kernel
theorem dX7_ringerOf_38 : decode cX7_ringerOf 38 = .ok (.getfield 13, 3) := by decide +kernel
theorem dX7_ringerOf_41 : decode cX7_ringerOf 41 = .ok (.bipush 50, 2) := by decide +kernel
theorem dX7_ringerOf_43 : decode cX7_ringerOf 43 = .ok (.iconst 3, 1) := by decide +kernel
theorem dX7_ringerOf_44 : decode cX7_ringerOf 44 = .ok (.iload_n 1, 1) := by decide +kernel
theorem dX7_ringerOf_45 : decode cX7_ringerOf 45 = .ok (.imul, 1) := by decide +kernel
theorem dX7_ringerOf_46 : decode cX7_ringerOf 46 = .ok (.iadd, 1) := by decide +kernel
theorem dX7_ringerOf_47 : decode cX7_ringerOf 47 = .ok (.iload_n 2, 1) := by decide +kernel
theorem dX7_ringerOf_48 : decode cX7_ringerOf 48 = .ok (.iadd, 1) := by decide +kernel
theorem dX7_ringerOf_49 : decode cX7_ringerOf 49 = .ok (.iaload, 1) := by decide +kernel
theorem dX7_ringerOf_50 : decode cX7_ringerOf 50 = .ok (.ireturn, 1) := by decide +kernel
theorem dX7_wellOf_0 : decode cX7_wellOf 0 = .ok (.ldc 161, 2) := by decide +kernel
theorem dX7_wellOf_2 : decode cX7_wellOf 2 = .ok (.istore_n 2, 1) := by decide +kernel
theorem dX7_wellOf_3 : decode cX7_wellOf 3 = .ok (.iconst 0, 1) := by decide +kernel
theorem dX7_wellOf_4 : decode cX7_wellOf 4 = .ok (.istore_n 3, 1) := by decide +kernel
theorem dX7_wellOf_5 : decode cX7_wellOf 5 = .ok (.iload_n 3, 1) := by decide +kernel
theorem dX7_wellOf_6 : decode cX7_wellOf 6 = .ok (.aload_n 0, 1) := by decide +kernel
theorem dX7_wellOf_7 : decode cX7_wellOf 7 = .ok (.getfield 13, 3) := by decide +kernel
theorem dX7_wellOf_10 : decode cX7_wellOf 10 = .ok (.bipush 69, 2) := by decide +kernel
theorem dX7_wellOf_12 : decode cX7_wellOf 12 = .ok (.iaload, 1) := by decide +kernel
theorem dX7_wellOf_13 : decode cX7_wellOf 13 = .ok (.if_icmp .ge 36, 3) := by decide +kernel
theorem dX7_wellOf_16 : decode cX7_wellOf 16 = .ok (.iload_n 1, 1) := by decide +kernel
theorem dX7_wellOf_17 : decode cX7_wellOf 17 = .ok (.iload_n 3, 1) := by decide +kernel
theorem dX7_wellOf_18 : decode cX7_wellOf 18 = .ok (.ishr, 1) := by decide +kernel
theorem dX7_wellOf_19 : decode cX7_wellOf 19 = .ok (.iconst 1, 1) := by decide +kernel
theorem dX7_wellOf_20 : decode cX7_wellOf 20 = .ok (.iand, 1) := by decide +kernel
theorem dX7_wellOf_21 : decode cX7_wellOf 21 = .ok (.iconst 1, 1) := by decide +kernel
theorem dX7_wellOf_22 : decode cX7_wellOf 22 = .ok (.if_icmp .ne 19, 3) := by decide +kernel
theorem dX7_wellOf_25 : decode cX7_wellOf 25 = .ok (.iload_n 2, 1) := by decide +kernel
theorem dX7_wellOf_26 : decode cX7_wellOf 26 = .ok (.bipush 100, 2) := by decide +kernel
theorem dX7_wellOf_28 : decode cX7_wellOf 28 = .ok (.aload_n 0, 1) := by decide +kernel
theorem dX7_wellOf_29 : decode cX7_wellOf 29 = .ok (.iload_n 3, 1) := by decide +kernel
theorem dX7_wellOf_30 : decode cX7_wellOf 30 = .ok (.invokevirtual 158, 3) := by decide +kernel
theorem dX7_wellOf_33 : decode cX7_wellOf 33 = .ok (.isub, 1) := by decide +kernel
theorem dX7_wellOf_34 : decode cX7_wellOf 34 = .ok (.imul, 1) := by decide +kernel
theorem dX7_wellOf_35 : decode cX7_wellOf 35 = .ok (.bipush 100, 2) := by decide +kernel
theorem dX7_wellOf_37 : decode cX7_wellOf 37 = .ok (.idiv, 1) := by decide +kernel
theorem dX7_wellOf_38 : decode cX7_wellOf 38 = .ok (.goto 4, 3) := by decide +kernel
theorem dX7_wellOf_41 : decode cX7_wellOf 41 = .ok (.iload_n 2, 1) := by decide +kernel
theorem dX7_wellOf_42 : decode cX7_wellOf 42 = .ok (.istore_n 2, 1) := by decide +kernel
theorem dX7_wellOf_43 : decode cX7_wellOf 43 = .ok (.iinc 3 1, 3) := by decide +kernel
theorem dX7_wellOf_46 : decode cX7_wellOf 46 = .ok (.goto (-41), 3) := by decide +kernel
theorem dX7_wellOf_49 : decode cX7_wellOf 49 = .ok (.iload_n 2, 1) := by decide +kernel
theorem dX7_wellOf_50 : decode cX7_wellOf 50 = .ok (.ireturn, 1) := by decide +kernel
theorem dX7_areRingers_0 : decode cX7_areRingers 0 = .ok (.iload_n 1, 1) := by decide +kernel
theorem dX7_areRingers_1 : decode cX7_areRingers 1 = .ok (.ifCond .lt 20, 3) := by decide +kernel
theorem dX7_areRingers_4 : decode cX7_areRingers 4 = .ok (.iload_n 1, 1) := by decide +kernel
theorem dX7_areRingers_5 : decode cX7_areRingers 5 = .ok (.iconst 1, 1) := by decide +kernel
theorem dX7_areRingers_6 : decode cX7_areRingers 6 = .ok (.aload_n 0, 1) := by decide +kernel
theorem dX7_areRingers_7 : decode cX7_areRingers 7 = .ok (.getfield 13, 3) := by decide +kernel
theorem dX7_areRingers_10 : decode cX7_areRingers 10 = .ok (.bipush 69, 2) := by decide +kernel
theorem dX7_areRingers_12 : decode cX7_areRingers 12 = .ok (.iaload, 1) := by decide +kernel
theorem dX7_areRingers_13 : decode cX7_areRingers 13 = .ok (.ishl, 1) := by decide +kernel
theorem dX7_areRingers_14 : decode cX7_areRingers 14 = .ok (.if_icmp .ge 7, 3) := by decide +kernel
theorem dX7_areRingers_17 : decode cX7_areRingers 17 = .ok (.iconst 1, 1) := by decide +kernel
theorem dX7_areRingers_18 : decode cX7_areRingers 18 = .ok (.goto 4, 3) := by decide +kernel
theorem dX7_areRingers_21 : decode cX7_areRingers 21 = .ok (.iconst 0, 1) := by decide +kernel
theorem dX7_areRingers_22 : decode cX7_areRingers 22 = .ok (.ireturn, 1) := by decide +kernel
theorem dX7_well_0 : decode cX7_well 0 = .ok (.aload_n 0, 1) := by decide +kernel
theorem dX7_well_1 : decode cX7_well 1 = .ok (.iload_n 1, 1) := by decide +kernel
theorem dX7_well_2 : decode cX7_well 2 = .ok (.invokevirtual 162, 3) := by decide +kernel
theorem dX7_well_5 : decode cX7_well 5 = .ok (.ifCond .eq 11, 3) := by decide +kernel
theorem dX7_well_8 : decode cX7_well 8 = .ok (.aload_n 0, 1) := by decide +kernel
theorem dX7_well_9 : decode cX7_well 9 = .ok (.iload_n 1, 1) := by decide +kernel
theorem dX7_well_10 : decode cX7_well 10 = .ok (.invokevirtual 165, 3) := by decide +kernel
theorem dX7_well_13 : decode cX7_well 13 = .ok (.goto 9, 3) := by decide +kernel
theorem dX7_well_16 : decode cX7_well 16 = .ok (.aload_n 0, 1) := by decide +kernel
theorem dX7_well_17 : decode cX7_well 17 = .ok (.bipush (-2), 2) := by decide +kernel
theorem dX7_well_19 : decode cX7_well 19 = .ok (.invokevirtual 81, 3) := by decide +kernel
theorem dX7_well_22 : decode cX7_well 22 = .ok (.ireturn, 1) := by decide +kernel
theorem dX7_once_0 : decode cX7_once 0 = .ok (.aload_n 0, 1) := by decide +kernel
theorem dX7_once_1 : decode cX7_once 1 = .ok (.iload_n 1, 1) := by decide +kernel
theorem dX7_once_2 : decode cX7_once 2 = .ok (.invokevirtual 162, 3) := by decide +kernel
theorem dX7_once_5 : decode cX7_once 5 = .ok (.ifCond .ne 10, 3) := by decide +kernel
theorem dX7_once_8 : decode cX7_once 8 = .ok (.aload_n 0, 1) := by decide +kernel
theorem dX7_once_9 : decode cX7_once 9 = .ok (.bipush (-2), 2) := by decide +kernel
theorem dX7_once_11 : decode cX7_once 11 = .ok (.invokevirtual 81, 3) := by decide +kernel
theorem dX7_once_14 : decode cX7_once 14 = .ok (.ireturn, 1) := by decide +kernel
theorem dX7_once_15 : decode cX7_once 15 = .ok (.iconst 0, 1) := by decide +kernel
theorem dX7_once_16 : decode cX7_once 16 = .ok (.istore_n 2, 1) := by decide +kernel
theorem dX7_once_17 : decode cX7_once 17 = .ok (.iconst 0, 1) := by decide +kernel
theorem dX7_once_18 : decode cX7_once 18 = .ok (.istore_n 3, 1) := by decide +kernel
theorem dX7_once_19 : decode cX7_once 19 = .ok (.iload_n 3, 1) := by decide +kernel
theorem dX7_once_20 : decode cX7_once 20 = .ok (.aload_n 0, 1) := by decide +kernel
theorem dX7_once_21 : decode cX7_once 21 = .ok (.getfield 13, 3) := by decide +kernel
theorem dX7_once_24 : decode cX7_once 24 = .ok (.bipush 69, 2) := by decide +kernel
theorem dX7_once_26 : decode cX7_once 26 = .ok (.iaload, 1) := by decide +kernel
theorem dX7_once_27 : decode cX7_once 27 = .ok (.if_icmp .ge 45, 3) := by decide +kernel
theorem dX7_once_30 : decode cX7_once 30 = .ok (.iload_n 2, 1) := by decide +kernel
theorem dX7_once_31 : decode cX7_once 31 = .ok (.iload_n 1, 1) := by decide +kernel
theorem dX7_once_32 : decode cX7_once 32 = .ok (.iload_n 3, 1) := by decide +kernel
theorem dX7_once_33 : decode cX7_once 33 = .ok (.ishr, 1) := by decide +kernel
theorem dX7_once_34 : decode cX7_once 34 = .ok (.iconst 1, 1) := by decide +kernel
theorem dX7_once_35 : decode cX7_once 35 = .ok (.iand, 1) := by decide +kernel
theorem dX7_once_36 : decode cX7_once 36 = .ok (.iconst 1, 1) := by decide +kernel
theorem dX7_once_37 : decode cX7_once 37 = .ok (.if_icmp .ne 26, 3) := by decide +kernel
theorem dX7_once_40 : decode cX7_once 40 = .ok (.aload_n 0, 1) := by decide +kernel
theorem dX7_once_41 : decode cX7_once 41 = .ok (.iload_n 3, 1) := by decide +kernel
theorem dX7_once_42 : decode cX7_once 42 = .ok (.invokevirtual 158, 3) := by decide +kernel
theorem dX7_once_45 : decode cX7_once 45 = .ok (.aload_n 0, 1) := by decide +kernel
theorem dX7_once_46 : decode cX7_once 46 = .ok (.iload_n 1, 1) := by decide +kernel
theorem dX7_once_47 : decode cX7_once 47 = .ok (.iconst 1, 1) := by decide +kernel
theorem dX7_once_48 : decode cX7_once 48 = .ok (.iload_n 3, 1) := by decide +kernel
theorem dX7_once_49 : decode cX7_once 49 = .ok (.ishl, 1) := by decide +kernel
theorem dX7_once_50 : decode cX7_once 50 = .ok (.iconst (-1), 1) := by decide +kernel
theorem dX7_once_51 : decode cX7_once 51 = .ok (.ixor, 1) := by decide +kernel
theorem dX7_once_52 : decode cX7_once 52 = .ok (.iand, 1) := by decide +kernel
theorem dX7_once_53 : decode cX7_once 53 = .ok (.invokevirtual 165, 3) := by decide +kernel
theorem dX7_once_56 : decode cX7_once 56 = .ok (.imul, 1) := by decide +kernel
theorem dX7_once_57 : decode cX7_once 57 = .ok (.bipush 100, 2) := by decide +kernel
theorem dX7_once_59 : decode cX7_once 59 = .ok (.idiv, 1) := by decide +kernel
theorem dX7_once_60 : decode cX7_once 60 = .ok (.goto 4, 3) := by decide +kernel
theorem dX7_once_63 : decode cX7_once 63 = .ok (.iconst 0, 1) := by decide +kernel
theorem dX7_once_64 : decode cX7_once 64 = .ok (.iadd, 1) := by decide +kernel
theorem dX7_once_65 : decode cX7_once 65 = .ok (.istore_n 2, 1) := by decide +kernel
theorem dX7_once_66 : decode cX7_once 66 = .ok (.iinc 3 1, 3) := by decide +kernel
theorem dX7_once_69 : decode cX7_once 69 = .ok (.goto (-50), 3) := by decide +kernel
theorem dX7_once_72 : decode cX7_once 72 = .ok (.iload_n 2, 1) := by decide +kernel
theorem dX7_once_73 : decode cX7_once 73 = .ok (.ireturn, 1) := by decide +kernel
theorem dX7_mayBits_0 : decode cX7_mayBits 0 = .ok (.iconst 0, 1) := by decide +kernel
theorem dX7_mayBits_1 : decode cX7_mayBits 1 = .ok (.istore_n 2, 1) := by decide +kernel
theorem dX7_mayBits_2 : decode cX7_mayBits 2 = .ok (.iconst 0, 1) := by decide +kernel
theorem dX7_mayBits_3 : decode cX7_mayBits 3 = .ok (.istore_n 3, 1) := by decide +kernel
theorem dX7_mayBits_4 : decode cX7_mayBits 4 = .ok (.iload_n 3, 1) := by decide +kernel
theorem dX7_mayBits_5 : decode cX7_mayBits 5 = .ok (.aload_n 0, 1) := by decide +kernel
theorem dX7_mayBits_6 : decode cX7_mayBits 6 = .ok (.invokevirtual 57, 3) := by decide +kernel
theorem dX7_mayBits_9 : decode cX7_mayBits 9 = .ok (.if_icmp .ge 28, 3) := by decide +kernel
theorem dX7_mayBits_12 : decode cX7_mayBits 12 = .ok (.iload_n 2, 1) := by decide +kernel
theorem dX7_mayBits_13 : decode cX7_mayBits 13 = .ok (.aload_n 0, 1) := by decide +kernel
theorem dX7_mayBits_14 : decode cX7_mayBits 14 = .ok (.iload_n 3, 1) := by decide +kernel
theorem dX7_mayBits_15 : decode cX7_mayBits 15 = .ok (.invokevirtual 138, 3) := by decide +kernel
theorem dX7_mayBits_18 : decode cX7_mayBits 18 = .ok (.iload_n 1, 1) := by decide +kernel
theorem dX7_mayBits_19 : decode cX7_mayBits 19 = .ok (.if_icmp .ne 9, 3) := by decide +kernel
theorem dX7_mayBits_22 : decode cX7_mayBits 22 = .ok (.iconst 1, 1) := by decide +kernel
theorem dX7_mayBits_23 : decode cX7_mayBits 23 = .ok (.iload_n 3, 1) := by decide +kernel
theorem dX7_mayBits_24 : decode cX7_mayBits 24 = .ok (.ishl, 1) := by decide +kernel
theorem dX7_mayBits_25 : decode cX7_mayBits 25 = .ok (.goto 4, 3) := by decide +kernel
theorem dX7_mayBits_28 : decode cX7_mayBits 28 = .ok (.iconst 0, 1) := by decide +kernel
theorem dX7_mayBits_29 : decode cX7_mayBits 29 = .ok (.ior, 1) := by decide +kernel
theorem dX7_mayBits_30 : decode cX7_mayBits 30 = .ok (.istore_n 2, 1) := by decide +kernel
theorem dX7_mayBits_31 : decode cX7_mayBits 31 = .ok (.iinc 3 1, 3) := by decide +kernel
theorem dX7_mayBits_34 : decode cX7_mayBits 34 = .ok (.goto (-30), 3) := by decide +kernel
theorem dX7_mayBits_37 : decode cX7_mayBits 37 = .ok (.iload_n 2, 1) := by decide +kernel
theorem dX7_mayBits_38 : decode cX7_mayBits 38 = .ok (.ireturn, 1) := by decide +kernel
theorem dX7_all_0 : decode cX7_all 0 = .ok (.iload_n 1, 1) := by decide +kernel
theorem dX7_all_1 : decode cX7_all 1 = .ok (.tableswitch 70 0 4 #[35, 44, 53, 58, 64], 35) := by decide +kernel
theorem dX7_all_36 : decode cX7_all 36 = .ok (.aload_n 0, 1) := by decide +kernel
theorem dX7_all_37 : decode cX7_all 37 = .ok (.aload_n 0, 1) := by decide +kernel
theorem dX7_all_38 : decode cX7_all 38 = .ok (.invokevirtual 135, 3) := by decide +kernel
theorem dX7_all_41 : decode cX7_all 41 = .ok (.invokevirtual 65, 3) := by decide +kernel
theorem dX7_all_44 : decode cX7_all 44 = .ok (.ireturn, 1) := by decide +kernel
theorem dX7_all_45 : decode cX7_all 45 = .ok (.aload_n 0, 1) := by decide +kernel
theorem dX7_all_46 : decode cX7_all 46 = .ok (.aload_n 0, 1) := by decide +kernel
theorem dX7_all_47 : decode cX7_all 47 = .ok (.invokevirtual 135, 3) := by decide +kernel
theorem dX7_all_50 : decode cX7_all 50 = .ok (.invokevirtual 168, 3) := by decide +kernel
theorem dX7_all_53 : decode cX7_all 53 = .ok (.ireturn, 1) := by decide +kernel
theorem dX7_all_54 : decode cX7_all 54 = .ok (.aload_n 0, 1) := by decide +kernel
theorem dX7_all_55 : decode cX7_all 55 = .ok (.invokevirtual 135, 3) := by decide +kernel
theorem dX7_all_58 : decode cX7_all 58 = .ok (.ireturn, 1) := by decide +kernel
theorem dX7_all_59 : decode cX7_all 59 = .ok (.aload_n 0, 1) := by decide +kernel
theorem dX7_all_60 : decode cX7_all 60 = .ok (.iconst 1, 1) := by decide +kernel
theorem dX7_all_61 : decode cX7_all 61 = .ok (.invokevirtual 171, 3) := by decide +kernel
theorem dX7_all_64 : decode cX7_all 64 = .ok (.ireturn, 1) := by decide +kernel
theorem dX7_all_65 : decode cX7_all 65 = .ok (.aload_n 0, 1) := by decide +kernel
theorem dX7_all_66 : decode cX7_all 66 = .ok (.iconst 2, 1) := by decide +kernel
theorem dX7_all_67 : decode cX7_all 67 = .ok (.invokevirtual 171, 3) := by decide +kernel
theorem dX7_all_70 : decode cX7_all 70 = .ok (.ireturn, 1) := by decide +kernel
theorem dX7_all_71 : decode cX7_all 71 = .ok (.aload_n 0, 1) := by decide +kernel
theorem dX7_all_72 : decode cX7_all 72 = .ok (.bipush (-2), 2) := by decide +kernel
theorem dX7_all_74 : decode cX7_all 74 = .ok (.invokevirtual 81, 3) := by decide +kernel
theorem dX7_all_77 : decode cX7_all 77 = .ok (.ireturn, 1) := by decide +kernel
theorem dX7_offBy_0 : decode cX7_offBy 0 = .ok (.aload_n 0, 1) := by decide +kernel
theorem dX7_offBy_1 : decode cX7_offBy 1 = .ok (.aload_n 0, 1) := by decide +kernel
theorem dX7_offBy_2 : decode cX7_offBy 2 = .ok (.invokevirtual 135, 3) := by decide +kernel
theorem dX7_offBy_5 : decode cX7_offBy 5 = .ok (.invokevirtual 65, 3) := by decide +kernel
theorem dX7_offBy_8 : decode cX7_offBy 8 = .ok (.aload_n 0, 1) := by decide +kernel
theorem dX7_offBy_9 : decode cX7_offBy 9 = .ok (.aload_n 0, 1) := by decide +kernel
theorem dX7_offBy_10 : decode cX7_offBy 10 = .ok (.invokevirtual 135, 3) := by decide +kernel
theorem dX7_offBy_13 : decode cX7_offBy 13 = .ok (.iconst 1, 1) := by decide +kernel
theorem dX7_offBy_14 : decode cX7_offBy 14 = .ok (.iload_n 1, 1) := by decide +kernel
theorem dX7_offBy_15 : decode cX7_offBy 15 = .ok (.ishl, 1) := by decide +kernel
theorem dX7_offBy_16 : decode cX7_offBy 16 = .ok (.iconst (-1), 1) := by decide +kernel
theorem dX7_offBy_17 : decode cX7_offBy 17 = .ok (.ixor, 1) := by decide +kernel
theorem dX7_offBy_18 : decode cX7_offBy 18 = .ok (.iand, 1) := by decide +kernel
theorem dX7_offBy_19 : decode cX7_offBy 19 = .ok (.invokevirtual 65, 3) := by decide +kernel
theorem dX7_offBy_22 : decode cX7_offBy 22 = .ok (.iconst (-1), 1) := by decide +kernel
theorem dX7_offBy_23 : decode cX7_offBy 23 = .ok (.ixor, 1) := by decide +kernel
theorem dX7_offBy_24 : decode cX7_offBy 24 = .ok (.iand, 1) := by decide +kernel
theorem dX7_offBy_25 : decode cX7_offBy 25 = .ok (.ireturn, 1) := by decide +kernel
theorem dX7_off_0 : decode cX7_off 0 = .ok (.aload_n 0, 1) := by decide +kernel
theorem dX7_off_1 : decode cX7_off 1 = .ok (.iload_n 1, 1) := by decide +kernel
theorem dX7_off_2 : decode cX7_off 2 = .ok (.invokevirtual 90, 3) := by decide +kernel
theorem dX7_off_5 : decode cX7_off 5 = .ok (.ifCond .eq 11, 3) := by decide +kernel
theorem dX7_off_8 : decode cX7_off 8 = .ok (.aload_n 0, 1) := by decide +kernel
theorem dX7_off_9 : decode cX7_off 9 = .ok (.iload_n 1, 1) := by decide +kernel
theorem dX7_off_10 : decode cX7_off 10 = .ok (.invokevirtual 174, 3) := by decide +kernel
theorem dX7_off_13 : decode cX7_off 13 = .ok (.goto 9, 3) := by decide +kernel
theorem dX7_off_16 : decode cX7_off 16 = .ok (.aload_n 0, 1) := by decide +kernel
theorem dX7_off_17 : decode cX7_off 17 = .ok (.bipush (-2), 2) := by decide +kernel
theorem dX7_off_19 : decode cX7_off 19 = .ok (.invokevirtual 81, 3) := by decide +kernel
theorem dX7_off_22 : decode cX7_off 22 = .ok (.ireturn, 1) := by decide +kernel
theorem dX7_downOf_0 : decode cX7_downOf 0 = .ok (.aload_n 0, 1) := by decide +kernel
theorem dX7_downOf_1 : decode cX7_downOf 1 = .ok (.iload_n 1, 1) := by decide +kernel
theorem dX7_downOf_2 : decode cX7_downOf 2 = .ok (.iconst 2, 1) := by decide +kernel
theorem dX7_downOf_3 : decode cX7_downOf 3 = .ok (.invokevirtual 53, 3) := by decide +kernel
theorem dX7_downOf_6 : decode cX7_downOf 6 = .ok (.istore_n 2, 1) := by decide +kernel
theorem dX7_downOf_7 : decode cX7_downOf 7 = .ok (.iload_n 1, 1) := by decide +kernel
theorem dX7_downOf_8 : decode cX7_downOf 8 = .ok (.iconst 1, 1) := by decide +kernel
theorem dX7_downOf_9 : decode cX7_downOf 9 = .ok (.isub, 1) := by decide +kernel
theorem dX7_downOf_10 : decode cX7_downOf 10 = .ok (.istore_n 3, 1) := by decide +kernel
theorem dX7_downOf_11 : decode cX7_downOf 11 = .ok (.iload_n 3, 1) := by decide +kernel
theorem dX7_downOf_12 : decode cX7_downOf 12 = .ok (.ifCond .lt 31, 3) := by decide +kernel
theorem dX7_downOf_15 : decode cX7_downOf 15 = .ok (.iload_n 2, 1) := by decide +kernel
theorem dX7_downOf_16 : decode cX7_downOf 16 = .ok (.iload_n 2, 1) := by decide +kernel
theorem dX7_downOf_17 : decode cX7_downOf 17 = .ok (.iload_n 3, 1) := by decide +kernel
theorem dX7_downOf_18 : decode cX7_downOf 18 = .ok (.ishr, 1) := by decide +kernel
theorem dX7_downOf_19 : decode cX7_downOf 19 = .ok (.iconst 1, 1) := by decide +kernel
theorem dX7_downOf_20 : decode cX7_downOf 20 = .ok (.iand, 1) := by decide +kernel
theorem dX7_downOf_21 : decode cX7_downOf 21 = .ok (.iconst 1, 1) := by decide +kernel
theorem dX7_downOf_22 : decode cX7_downOf 22 = .ok (.if_icmp .ne 12, 3) := by decide +kernel
theorem dX7_downOf_25 : decode cX7_downOf 25 = .ok (.aload_n 0, 1) := by decide +kernel
theorem dX7_downOf_26 : decode cX7_downOf 26 = .ok (.iload_n 3, 1) := by decide +kernel
theorem dX7_downOf_27 : decode cX7_downOf 27 = .ok (.iconst 2, 1) := by decide +kernel
theorem dX7_downOf_28 : decode cX7_downOf 28 = .ok (.invokevirtual 53, 3) := by decide +kernel
theorem dX7_downOf_31 : decode cX7_downOf 31 = .ok (.goto 4, 3) := by decide +kernel
theorem dX7_downOf_34 : decode cX7_downOf 34 = .ok (.iconst 0, 1) := by decide +kernel
theorem dX7_downOf_35 : decode cX7_downOf 35 = .ok (.ior, 1) := by decide +kernel
theorem dX7_downOf_36 : decode cX7_downOf 36 = .ok (.istore_n 2, 1) := by decide +kernel
theorem dX7_downOf_37 : decode cX7_downOf 37 = .ok (.iinc 3 (-1), 3) := by decide +kernel
theorem dX7_downOf_40 : decode cX7_downOf 40 = .ok (.goto (-29), 3) := by decide +kernel
theorem dX7_downOf_43 : decode cX7_downOf 43 = .ok (.iload_n 2, 1) := by decide +kernel
theorem dX7_downOf_44 : decode cX7_downOf 44 = .ok (.ireturn, 1) := by decide +kernel
theorem dX7_down_0 : decode cX7_down 0 = .ok (.aload_n 0, 1) := by decide +kernel
theorem dX7_down_1 : decode cX7_down 1 = .ok (.iload_n 1, 1) := by decide +kernel
theorem dX7_down_2 : decode cX7_down 2 = .ok (.invokevirtual 90, 3) := by decide +kernel
theorem dX7_down_5 : decode cX7_down 5 = .ok (.ifCond .eq 11, 3) := by decide +kernel
theorem dX7_down_8 : decode cX7_down 8 = .ok (.aload_n 0, 1) := by decide +kernel
theorem dX7_down_9 : decode cX7_down 9 = .ok (.iload_n 1, 1) := by decide +kernel
theorem dX7_down_10 : decode cX7_down 10 = .ok (.invokevirtual 177, 3) := by decide +kernel
theorem dX7_down_13 : decode cX7_down 13 = .ok (.goto 9, 3) := by decide +kernel
theorem dX7_down_16 : decode cX7_down 16 = .ok (.aload_n 0, 1) := by decide +kernel
theorem dX7_down_17 : decode cX7_down 17 = .ok (.bipush (-2), 2) := by decide +kernel
theorem dX7_down_19 : decode cX7_down 19 = .ok (.invokevirtual 81, 3) := by decide +kernel
theorem dX7_down_22 : decode cX7_down 22 = .ok (.ireturn, 1) := by decide +kernel
theorem dX7_up_0 : decode cX7_up 0 = .ok (.aload_n 0, 1) := by decide +kernel
theorem dX7_up_1 : decode cX7_up 1 = .ok (.iload_n 1, 1) := by decide +kernel
theorem dX7_up_2 : decode cX7_up 2 = .ok (.invokevirtual 90, 3) := by decide +kernel
theorem dX7_up_5 : decode cX7_up 5 = .ok (.ifCond .ne 10, 3) := by decide +kernel
theorem dX7_up_8 : decode cX7_up 8 = .ok (.aload_n 0, 1) := by decide +kernel
theorem dX7_up_9 : decode cX7_up 9 = .ok (.bipush (-2), 2) := by decide +kernel
theorem dX7_up_11 : decode cX7_up 11 = .ok (.invokevirtual 81, 3) := by decide +kernel
theorem dX7_up_14 : decode cX7_up 14 = .ok (.ireturn, 1) := by decide +kernel
theorem dX7_up_15 : decode cX7_up 15 = .ok (.iconst 0, 1) := by decide +kernel
theorem dX7_up_16 : decode cX7_up 16 = .ok (.istore_n 2, 1) := by decide +kernel
theorem dX7_up_17 : decode cX7_up 17 = .ok (.iconst 0, 1) := by decide +kernel
theorem dX7_up_18 : decode cX7_up 18 = .ok (.istore_n 3, 1) := by decide +kernel
theorem dX7_up_19 : decode cX7_up 19 = .ok (.iload_n 3, 1) := by decide +kernel
theorem dX7_up_20 : decode cX7_up 20 = .ok (.aload_n 0, 1) := by decide +kernel
theorem dX7_up_21 : decode cX7_up 21 = .ok (.invokevirtual 57, 3) := by decide +kernel
theorem dX7_up_24 : decode cX7_up 24 = .ok (.if_icmp .ge 32, 3) := by decide +kernel
theorem dX7_up_27 : decode cX7_up 27 = .ok (.iload_n 2, 1) := by decide +kernel
theorem dX7_up_28 : decode cX7_up 28 = .ok (.aload_n 0, 1) := by decide +kernel
theorem dX7_up_29 : decode cX7_up 29 = .ok (.iload_n 3, 1) := by decide +kernel
theorem dX7_up_30 : decode cX7_up 30 = .ok (.invokevirtual 177, 3) := by decide +kernel
theorem dX7_up_33 : decode cX7_up 33 = .ok (.iload_n 1, 1) := by decide +kernel
theorem dX7_up_34 : decode cX7_up 34 = .ok (.ishr, 1) := by decide +kernel
theorem dX7_up_35 : decode cX7_up 35 = .ok (.iconst 1, 1) := by decide +kernel
theorem dX7_up_36 : decode cX7_up 36 = .ok (.iand, 1) := by decide +kernel
theorem dX7_up_37 : decode cX7_up 37 = .ok (.iconst 1, 1) := by decide +kernel
theorem dX7_up_38 : decode cX7_up 38 = .ok (.if_icmp .ne 9, 3) := by decide +kernel
theorem dX7_up_41 : decode cX7_up 41 = .ok (.iconst 1, 1) := by decide +kernel
theorem dX7_up_42 : decode cX7_up 42 = .ok (.iload_n 3, 1) := by decide +kernel
theorem dX7_up_43 : decode cX7_up 43 = .ok (.ishl, 1) := by decide +kernel
theorem dX7_up_44 : decode cX7_up 44 = .ok (.goto 4, 3) := by decide +kernel
theorem dX7_up_47 : decode cX7_up 47 = .ok (.iconst 0, 1) := by decide +kernel
theorem dX7_up_48 : decode cX7_up 48 = .ok (.ior, 1) := by decide +kernel
theorem dX7_up_49 : decode cX7_up 49 = .ok (.istore_n 2, 1) := by decide +kernel
theorem dX7_up_50 : decode cX7_up 50 = .ok (.iinc 3 1, 3) := by decide +kernel
theorem dX7_up_53 : decode cX7_up 53 = .ok (.goto (-34), 3) := by decide +kernel
theorem dX7_up_56 : decode cX7_up 56 = .ok (.iload_n 2, 1) := by decide +kernel
theorem dX7_up_57 : decode cX7_up 57 = .ok (.ireturn, 1) := by decide +kernel
theorem dX7_to_0 : decode cX7_to 0 = .ok (.aload_n 0, 1) := by decide +kernel
theorem dX7_to_1 : decode cX7_to 1 = .ok (.iload_n 1, 1) := by decide +kernel
theorem dX7_to_2 : decode cX7_to 2 = .ok (.invokevirtual 180, 3) := by decide +kernel
theorem dX7_to_5 : decode cX7_to 5 = .ok (.ifCond .ne 10, 3) := by decide +kernel
theorem dX7_to_8 : decode cX7_to 8 = .ok (.aload_n 0, 1) := by decide +kernel
theorem dX7_to_9 : decode cX7_to 9 = .ok (.bipush (-2), 2) := by decide +kernel
theorem dX7_to_11 : decode cX7_to 11 = .ok (.invokevirtual 81, 3) := by decide +kernel
theorem dX7_to_14 : decode cX7_to 14 = .ok (.ireturn, 1) := by decide +kernel
theorem dX7_to_15 : decode cX7_to 15 = .ok (.aload_n 0, 1) := by decide +kernel
theorem dX7_to_16 : decode cX7_to 16 = .ok (.invokevirtual 135, 3) := by decide +kernel
theorem dX7_to_19 : decode cX7_to 19 = .ok (.istore_n 2, 1) := by decide +kernel
theorem dX7_to_20 : decode cX7_to 20 = .ok (.iconst (-1), 1) := by decide +kernel
theorem dX7_to_21 : decode cX7_to 21 = .ok (.istore_n 3, 1) := by decide +kernel
theorem dX7_to_22 : decode cX7_to 22 = .ok (.iconst 0, 1) := by decide +kernel
theorem dX7_to_23 : decode cX7_to 23 = .ok (.istore 4, 2) := by decide +kernel
theorem dX7_to_25 : decode cX7_to 25 = .ok (.iload 4, 2) := by decide +kernel
theorem dX7_to_27 : decode cX7_to 27 = .ok (.iconst 1, 1) := by decide +kernel
theorem dX7_to_28 : decode cX7_to 28 = .ok (.aload_n 0, 1) := by decide +kernel
theorem dX7_to_29 : decode cX7_to 29 = .ok (.invokevirtual 57, 3) := by decide +kernel
theorem dX7_to_32 : decode cX7_to 32 = .ok (.ishl, 1) := by decide +kernel
theorem dX7_to_33 : decode cX7_to 33 = .ok (.if_icmp .ge 44, 3) := by decide +kernel
theorem dX7_to_36 : decode cX7_to 36 = .ok (.iload 4, 2) := by decide +kernel
theorem dX7_to_38 : decode cX7_to 38 = .ok (.iload_n 2, 1) := by decide +kernel
theorem dX7_to_39 : decode cX7_to 39 = .ok (.iconst (-1), 1) := by decide +kernel
theorem dX7_to_40 : decode cX7_to 40 = .ok (.ixor, 1) := by decide +kernel
theorem dX7_to_41 : decode cX7_to 41 = .ok (.iand, 1) := by decide +kernel
theorem dX7_to_42 : decode cX7_to 42 = .ok (.ifCond .ne 29, 3) := by decide +kernel
theorem dX7_to_45 : decode cX7_to 45 = .ok (.iload 4, 2) := by decide +kernel
theorem dX7_to_47 : decode cX7_to 47 = .ok (.iload_n 3, 1) := by decide +kernel
theorem dX7_to_48 : decode cX7_to 48 = .ok (.invokestatic 183, 3) := by decide +kernel
theorem dX7_to_51 : decode cX7_to 51 = .ok (.ifCond .eq 20, 3) := by decide +kernel
theorem dX7_to_54 : decode cX7_to 54 = .ok (.aload_n 0, 1) := by decide +kernel
theorem dX7_to_55 : decode cX7_to 55 = .ok (.iload_n 2, 1) := by decide +kernel
theorem dX7_to_56 : decode cX7_to 56 = .ok (.iload 4, 2) := by decide +kernel
theorem dX7_to_58 : decode cX7_to 58 = .ok (.iconst (-1), 1) := by decide +kernel
theorem dX7_to_59 : decode cX7_to 59 = .ok (.ixor, 1) := by decide +kernel
theorem dX7_to_60 : decode cX7_to 60 = .ok (.iand, 1) := by decide +kernel
theorem dX7_to_61 : decode cX7_to 61 = .ok (.invokevirtual 65, 3) := by decide +kernel
theorem dX7_to_64 : decode cX7_to 64 = .ok (.iload_n 1, 1) := by decide +kernel
theorem dX7_to_65 : decode cX7_to 65 = .ok (.if_icmp .ne 6, 3) := by decide +kernel
theorem dX7_to_68 : decode cX7_to 68 = .ok (.iload 4, 2) := by decide +kernel
theorem dX7_to_70 : decode cX7_to 70 = .ok (.istore_n 3, 1) := by decide +kernel
theorem dX7_to_71 : decode cX7_to 71 = .ok (.iinc 4 1, 3) := by decide +kernel
theorem dX7_to_74 : decode cX7_to 74 = .ok (.goto (-49), 3) := by decide +kernel
theorem dX7_to_77 : decode cX7_to 77 = .ok (.iload_n 3, 1) := by decide +kernel
theorem dX7_to_78 : decode cX7_to 78 = .ok (.ireturn, 1) := by decide +kernel
theorem dX7_unsay_0 : decode cX7_unsay 0 = .ok (.aload_n 0, 1) := by decide +kernel
theorem dX7_unsay_1 : decode cX7_unsay 1 = .ok (.iload_n 1, 1) := by decide +kernel
theorem dX7_unsay_2 : decode cX7_unsay 2 = .ok (.invokevirtual 180, 3) := by decide +kernel
theorem dX7_unsay_5 : decode cX7_unsay 5 = .ok (.ifCond .ne 10, 3) := by decide +kernel
theorem dX7_unsay_8 : decode cX7_unsay 8 = .ok (.aload_n 0, 1) := by decide +kernel
theorem dX7_unsay_9 : decode cX7_unsay 9 = .ok (.bipush (-2), 2) := by decide +kernel
theorem dX7_unsay_11 : decode cX7_unsay 11 = .ok (.invokevirtual 81, 3) := by decide +kernel
theorem dX7_unsay_14 : decode cX7_unsay 14 = .ok (.ireturn, 1) := by decide +kernel
theorem dX7_unsay_15 : decode cX7_unsay 15 = .ok (.aload_n 0, 1) := by decide +kernel
theorem dX7_unsay_16 : decode cX7_unsay 16 = .ok (.invokevirtual 135, 3) := by decide +kernel
theorem dX7_unsay_19 : decode cX7_unsay 19 = .ok (.istore_n 2, 1) := by decide +kernel
theorem dX7_unsay_20 : decode cX7_unsay 20 = .ok (.iconst (-1), 1) := by decide +kernel
theorem dX7_unsay_21 : decode cX7_unsay 21 = .ok (.istore_n 3, 1) := by decide +kernel
theorem dX7_unsay_22 : decode cX7_unsay 22 = .ok (.iconst (-1), 1) := by decide +kernel
theorem dX7_unsay_23 : decode cX7_unsay 23 = .ok (.istore 4, 2) := by decide +kernel
theorem dX7_unsay_25 : decode cX7_unsay 25 = .ok (.iconst 0, 1) := by decide +kernel
theorem dX7_unsay_26 : decode cX7_unsay 26 = .ok (.istore 5, 2) := by decide +kernel
theorem dX7_unsay_28 : decode cX7_unsay 28 = .ok (.iload 5, 2) := by decide +kernel
theorem dX7_unsay_30 : decode cX7_unsay 30 = .ok (.iconst 1, 1) := by decide +kernel
theorem dX7_unsay_31 : decode cX7_unsay 31 = .ok (.aload_n 0, 1) := by decide +kernel
theorem dX7_unsay_32 : decode cX7_unsay 32 = .ok (.invokevirtual 57, 3) := by decide +kernel
theorem dX7_unsay_35 : decode cX7_unsay 35 = .ok (.ishl, 1) := by decide +kernel
theorem dX7_unsay_36 : decode cX7_unsay 36 = .ok (.if_icmp .ge 87, 3) := by decide +kernel
theorem dX7_unsay_39 : decode cX7_unsay 39 = .ok (.iload 5, 2) := by decide +kernel
theorem dX7_unsay_41 : decode cX7_unsay 41 = .ok (.iload_n 2, 1) := by decide +kernel
theorem dX7_unsay_42 : decode cX7_unsay 42 = .ok (.iconst (-1), 1) := by decide +kernel
theorem dX7_unsay_43 : decode cX7_unsay 43 = .ok (.ixor, 1) := by decide +kernel
theorem dX7_unsay_44 : decode cX7_unsay 44 = .ok (.iand, 1) := by decide +kernel
theorem dX7_unsay_45 : decode cX7_unsay 45 = .ok (.ifCond .ne 16, 3) := by decide +kernel
theorem dX7_unsay_48 : decode cX7_unsay 48 = .ok (.aload_n 0, 1) := by decide +kernel
theorem dX7_unsay_49 : decode cX7_unsay 49 = .ok (.iload_n 2, 1) := by decide +kernel
theorem dX7_unsay_50 : decode cX7_unsay 50 = .ok (.iload 5, 2) := by decide +kernel
theorem dX7_unsay_52 : decode cX7_unsay 52 = .ok (.iconst (-1), 1) := by decide +kernel
theorem dX7_unsay_53 : decode cX7_unsay 53 = .ok (.ixor, 1) := by decide +kernel
theorem dX7_unsay_54 : decode cX7_unsay 54 = .ok (.iand, 1) := by decide +kernel
theorem dX7_unsay_55 : decode cX7_unsay 55 = .ok (.invokevirtual 65, 3) := by decide +kernel
theorem dX7_unsay_58 : decode cX7_unsay 58 = .ok (.goto 4, 3) := by decide +kernel
theorem dX7_unsay_61 : decode cX7_unsay 61 = .ok (.iload_n 1, 1) := by decide +kernel
theorem dX7_unsay_62 : decode cX7_unsay 62 = .ok (.istore 6, 2) := by decide +kernel
theorem dX7_unsay_64 : decode cX7_unsay 64 = .ok (.iload 5, 2) := by decide +kernel
theorem dX7_unsay_66 : decode cX7_unsay 66 = .ok (.iload_n 2, 1) := by decide +kernel
theorem dX7_unsay_67 : decode cX7_unsay 67 = .ok (.iconst (-1), 1) := by decide +kernel
theorem dX7_unsay_68 : decode cX7_unsay 68 = .ok (.ixor, 1) := by decide +kernel
theorem dX7_unsay_69 : decode cX7_unsay 69 = .ok (.iand, 1) := by decide +kernel
theorem dX7_unsay_70 : decode cX7_unsay 70 = .ok (.ifCond .ne 47, 3) := by decide +kernel
theorem dX7_unsay_73 : decode cX7_unsay 73 = .ok (.iload 6, 2) := by decide +kernel
theorem dX7_unsay_75 : decode cX7_unsay 75 = .ok (.iload_n 1, 1) := by decide +kernel
theorem dX7_unsay_76 : decode cX7_unsay 76 = .ok (.iand, 1) := by decide +kernel
theorem dX7_unsay_77 : decode cX7_unsay 77 = .ok (.ifCond .ne 40, 3) := by decide +kernel
theorem dX7_unsay_80 : decode cX7_unsay 80 = .ok (.iload 6, 2) := by decide +kernel
theorem dX7_unsay_82 : decode cX7_unsay 82 = .ok (.invokestatic 72, 3) := by decide +kernel
theorem dX7_unsay_85 : decode cX7_unsay 85 = .ok (.istore 7, 2) := by decide +kernel
theorem dX7_unsay_87 : decode cX7_unsay 87 = .ok (.iload 7, 2) := by decide +kernel
theorem dX7_unsay_89 : decode cX7_unsay 89 = .ok (.iload 4, 2) := by decide +kernel
theorem dX7_unsay_91 : decode cX7_unsay 91 = .ok (.if_icmp .gt 19, 3) := by decide +kernel
theorem dX7_unsay_94 : decode cX7_unsay 94 = .ok (.iload 7, 2) := by decide +kernel
theorem dX7_unsay_96 : decode cX7_unsay 96 = .ok (.iload 4, 2) := by decide +kernel
theorem dX7_unsay_98 : decode cX7_unsay 98 = .ok (.if_icmp .ne 19, 3) := by decide +kernel
theorem dX7_unsay_101 : decode cX7_unsay 101 = .ok (.iload 5, 2) := by decide +kernel
theorem dX7_unsay_103 : decode cX7_unsay 103 = .ok (.iload_n 3, 1) := by decide +kernel
theorem dX7_unsay_104 : decode cX7_unsay 104 = .ok (.invokestatic 183, 3) := by decide +kernel
theorem dX7_unsay_107 : decode cX7_unsay 107 = .ok (.ifCond .eq 10, 3) := by decide +kernel
theorem dX7_unsay_110 : decode cX7_unsay 110 = .ok (.iload 5, 2) := by decide +kernel
theorem dX7_unsay_112 : decode cX7_unsay 112 = .ok (.istore_n 3, 1) := by decide +kernel
theorem dX7_unsay_113 : decode cX7_unsay 113 = .ok (.iload 7, 2) := by decide +kernel
theorem dX7_unsay_115 : decode cX7_unsay 115 = .ok (.istore 4, 2) := by decide +kernel
theorem dX7_unsay_117 : decode cX7_unsay 117 = .ok (.iinc 5 1, 3) := by decide +kernel
theorem dX7_unsay_120 : decode cX7_unsay 120 = .ok (.goto (-92), 3) := by decide +kernel
theorem dX7_unsay_123 : decode cX7_unsay 123 = .ok (.iload_n 3, 1) := by decide +kernel
theorem dX7_unsay_124 : decode cX7_unsay 124 = .ok (.ireturn, 1) := by decide +kernel
theorem dX7_untilAll_0 : decode cX7_untilAll 0 = .ok (.iconst 0, 1) := by decide +kernel
theorem dX7_untilAll_1 : decode cX7_untilAll 1 = .ok (.istore_n 2, 1) := by decide +kernel
theorem dX7_untilAll_2 : decode cX7_untilAll 2 = .ok (.iconst 0, 1) := by decide +kernel
theorem dX7_untilAll_3 : decode cX7_untilAll 3 = .ok (.istore_n 3, 1) := by decide +kernel
theorem dX7_untilAll_4 : decode cX7_untilAll 4 = .ok (.iload_n 3, 1) := by decide +kernel
theorem dX7_untilAll_5 : decode cX7_untilAll 5 = .ok (.aload_n 0, 1) := by decide +kernel
theorem dX7_untilAll_6 : decode cX7_untilAll 6 = .ok (.invokevirtual 57, 3) := by decide +kernel
theorem dX7_untilAll_9 : decode cX7_untilAll 9 = .ok (.if_icmp .ge 62, 3) := by decide +kernel
theorem dX7_untilAll_12 : decode cX7_untilAll 12 = .ok (.iload_n 1, 1) := by decide +kernel
theorem dX7_untilAll_13 : decode cX7_untilAll 13 = .ok (.iload_n 3, 1) := by decide +kernel
theorem dX7_untilAll_14 : decode cX7_untilAll 14 = .ok (.ishr, 1) := by decide +kernel
theorem dX7_untilAll_15 : decode cX7_untilAll 15 = .ok (.iconst 1, 1) := by decide +kernel
theorem dX7_untilAll_16 : decode cX7_untilAll 16 = .ok (.iand, 1) := by decide +kernel
theorem dX7_untilAll_17 : decode cX7_untilAll 17 = .ok (.iconst 1, 1) := by decide +kernel
theorem dX7_untilAll_18 : decode cX7_untilAll 18 = .ok (.if_icmp .ne 47, 3) := by decide +kernel
theorem dX7_untilAll_21 : decode cX7_untilAll 21 = .ok (.aload_n 0, 1) := by decide +kernel
theorem dX7_untilAll_22 : decode cX7_untilAll 22 = .ok (.iload_n 3, 1) := by decide +kernel
theorem dX7_untilAll_23 : decode cX7_untilAll 23 = .ok (.iconst 3, 1) := by decide +kernel
theorem dX7_untilAll_24 : decode cX7_untilAll 24 = .ok (.invokevirtual 53, 3) := by decide +kernel
theorem dX7_untilAll_27 : decode cX7_untilAll 27 = .ok (.ifCond .eq 11, 3) := by decide +kernel
theorem dX7_untilAll_30 : decode cX7_untilAll 30 = .ok (.aload_n 0, 1) := by decide +kernel
theorem dX7_untilAll_31 : decode cX7_untilAll 31 = .ok (.iload_n 3, 1) := by decide +kernel
theorem dX7_untilAll_32 : decode cX7_untilAll 32 = .ok (.invokevirtual 61, 3) := by decide +kernel
theorem dX7_untilAll_35 : decode cX7_untilAll 35 = .ok (.ifCond .ne 5, 3) := by decide +kernel
theorem dX7_untilAll_38 : decode cX7_untilAll 38 = .ok (.iconst (-1), 1) := by decide +kernel
theorem dX7_untilAll_39 : decode cX7_untilAll 39 = .ok (.ireturn, 1) := by decide +kernel
theorem dX7_untilAll_40 : decode cX7_untilAll 40 = .ok (.iload_n 2, 1) := by decide +kernel
theorem dX7_untilAll_41 : decode cX7_untilAll 41 = .ok (.aload_n 0, 1) := by decide +kernel
theorem dX7_untilAll_42 : decode cX7_untilAll 42 = .ok (.iload_n 3, 1) := by decide +kernel
theorem dX7_untilAll_43 : decode cX7_untilAll 43 = .ok (.iconst 1, 1) := by decide +kernel
theorem dX7_untilAll_44 : decode cX7_untilAll 44 = .ok (.invokevirtual 53, 3) := by decide +kernel
theorem dX7_untilAll_47 : decode cX7_untilAll 47 = .ok (.aload_n 0, 1) := by decide +kernel
theorem dX7_untilAll_48 : decode cX7_untilAll 48 = .ok (.getfield 13, 3) := by decide +kernel
theorem dX7_untilAll_51 : decode cX7_untilAll 51 = .ok (.bipush 70, 2) := by decide +kernel
theorem dX7_untilAll_53 : decode cX7_untilAll 53 = .ok (.iaload, 1) := by decide +kernel
theorem dX7_untilAll_54 : decode cX7_untilAll 54 = .ok (.isub, 1) := by decide +kernel
theorem dX7_untilAll_55 : decode cX7_untilAll 55 = .ok (.iconst 4, 1) := by decide +kernel
theorem dX7_untilAll_56 : decode cX7_untilAll 56 = .ok (.iadd, 1) := by decide +kernel
theorem dX7_untilAll_57 : decode cX7_untilAll 57 = .ok (.iconst 4, 1) := by decide +kernel
theorem dX7_untilAll_58 : decode cX7_untilAll 58 = .ok (.irem, 1) := by decide +kernel
theorem dX7_untilAll_59 : decode cX7_untilAll 59 = .ok (.iconst 1, 1) := by decide +kernel
theorem dX7_untilAll_60 : decode cX7_untilAll 60 = .ok (.iadd, 1) := by decide +kernel
theorem dX7_untilAll_61 : decode cX7_untilAll 61 = .ok (.invokestatic 146, 3) := by decide +kernel
theorem dX7_untilAll_64 : decode cX7_untilAll 64 = .ok (.istore_n 2, 1) := by decide +kernel
theorem dX7_untilAll_65 : decode cX7_untilAll 65 = .ok (.iinc 3 1, 3) := by decide +kernel
theorem dX7_untilAll_68 : decode cX7_untilAll 68 = .ok (.goto (-64), 3) := by decide +kernel
theorem dX7_untilAll_71 : decode cX7_untilAll 71 = .ok (.iload_n 2, 1) := by decide +kernel
theorem dX7_untilAll_72 : decode cX7_untilAll 72 = .ok (.ireturn, 1) := by decide +kernel
theorem dX7_until_0 : decode cX7_until 0 = .ok (.aload_n 0, 1) := by decide +kernel
theorem dX7_until_1 : decode cX7_until 1 = .ok (.iload_n 1, 1) := by decide +kernel
theorem dX7_until_2 : decode cX7_until 2 = .ok (.invokevirtual 180, 3) := by decide +kernel
theorem dX7_until_5 : decode cX7_until 5 = .ok (.ifCond .eq 11, 3) := by decide +kernel
theorem dX7_until_8 : decode cX7_until 8 = .ok (.aload_n 0, 1) := by decide +kernel
theorem dX7_until_9 : decode cX7_until 9 = .ok (.iload_n 1, 1) := by decide +kernel
theorem dX7_until_10 : decode cX7_until 10 = .ok (.invokevirtual 187, 3) := by decide +kernel
theorem dX7_until_13 : decode cX7_until 13 = .ok (.goto 9, 3) := by decide +kernel
theorem dX7_until_16 : decode cX7_until 16 = .ok (.aload_n 0, 1) := by decide +kernel
theorem dX7_until_17 : decode cX7_until 17 = .ok (.bipush (-2), 2) := by decide +kernel
theorem dX7_until_19 : decode cX7_until 19 = .ok (.invokevirtual 81, 3) := by decide +kernel
theorem dX7_until_22 : decode cX7_until 22 = .ok (.ireturn, 1) := by decide +kernel
theorem dX7_soon_0 : decode cX7_soon 0 = .ok (.aload_n 0, 1) := by decide +kernel
theorem dX7_soon_1 : decode cX7_soon 1 = .ok (.iload_n 1, 1) := by decide +kernel
theorem dX7_soon_2 : decode cX7_soon 2 = .ok (.invokevirtual 90, 3) := by decide +kernel
theorem dX7_soon_5 : decode cX7_soon 5 = .ok (.ifCond .eq 13, 3) := by decide +kernel
theorem dX7_soon_8 : decode cX7_soon 8 = .ok (.aload_n 0, 1) := by decide +kernel
theorem dX7_soon_9 : decode cX7_soon 9 = .ok (.iconst 1, 1) := by decide +kernel
theorem dX7_soon_10 : decode cX7_soon 10 = .ok (.iload_n 1, 1) := by decide +kernel
theorem dX7_soon_11 : decode cX7_soon 11 = .ok (.ishl, 1) := by decide +kernel
theorem dX7_soon_12 : decode cX7_soon 12 = .ok (.invokevirtual 187, 3) := by decide +kernel
theorem dX7_soon_15 : decode cX7_soon 15 = .ok (.goto 9, 3) := by decide +kernel
theorem dX7_soon_18 : decode cX7_soon 18 = .ok (.aload_n 0, 1) := by decide +kernel
theorem dX7_soon_19 : decode cX7_soon 19 = .ok (.bipush (-2), 2) := by decide +kernel
theorem dX7_soon_21 : decode cX7_soon 21 = .ok (.invokevirtual 81, 3) := by decide +kernel
theorem dX7_soon_24 : decode cX7_soon 24 = .ok (.ireturn, 1) := by decide +kernel
theorem dX7_slipped_0 : decode cX7_slipped 0 = .ok (.aload_n 0, 1) := by decide +kernel
theorem dX7_slipped_1 : decode cX7_slipped 1 = .ok (.iload_n 1, 1) := by decide +kernel
theorem dX7_slipped_2 : decode cX7_slipped 2 = .ok (.invokevirtual 90, 3) := by decide +kernel
theorem dX7_slipped_5 : decode cX7_slipped 5 = .ok (.ifCond .eq 28, 3) := by decide +kernel
theorem dX7_slipped_8 : decode cX7_slipped 8 = .ok (.iload_n 2, 1) := by decide +kernel
theorem dX7_slipped_9 : decode cX7_slipped 9 = .ok (.iconst 1, 1) := by decide +kernel
theorem dX7_slipped_10 : decode cX7_slipped 10 = .ok (.bipush 9, 2) := by decide +kernel
theorem dX7_slipped_12 : decode cX7_slipped 12 = .ok (.invokestatic 49, 3) := by decide +kernel
theorem dX7_slipped_15 : decode cX7_slipped 15 = .ok (.ifCond .eq 18, 3) := by decide +kernel
theorem dX7_slipped_18 : decode cX7_slipped 18 = .ok (.aload_n 0, 1) := by decide +kernel
theorem dX7_slipped_19 : decode cX7_slipped 19 = .ok (.iload_n 1, 1) := by decide +kernel
theorem dX7_slipped_20 : decode cX7_slipped 20 = .ok (.iload_n 2, 1) := by decide +kernel
theorem dX7_slipped_21 : decode cX7_slipped 21 = .ok (.iadd, 1) := by decide +kernel
theorem dX7_slipped_22 : decode cX7_slipped 22 = .ok (.aload_n 0, 1) := by decide +kernel
theorem dX7_slipped_23 : decode cX7_slipped 23 = .ok (.invokevirtual 57, 3) := by decide +kernel
theorem dX7_slipped_26 : decode cX7_slipped 26 = .ok (.irem, 1) := by decide +kernel
theorem dX7_slipped_27 : decode cX7_slipped 27 = .ok (.invokevirtual 174, 3) := by decide +kernel
theorem dX7_slipped_30 : decode cX7_slipped 30 = .ok (.goto 9, 3) := by decide +kernel
theorem dX7_slipped_33 : decode cX7_slipped 33 = .ok (.aload_n 0, 1) := by decide +kernel
theorem dX7_slipped_34 : decode cX7_slipped 34 = .ok (.bipush (-2), 2) := by decide +kernel
theorem dX7_slipped_36 : decode cX7_slipped 36 = .ok (.invokevirtual 81, 3) := by decide +kernel
theorem dX7_slipped_39 : decode cX7_slipped 39 = .ok (.ireturn, 1) := by decide +kernel
theorem dX7_whose_0 : decode cX7_whose 0 = .ok (.iload_n 1, 1) := by decide +kernel
theorem dX7_whose_1 : decode cX7_whose 1 = .ok (.iconst 0, 1) := by decide +kernel
theorem dX7_whose_2 : decode cX7_whose 2 = .ok (.bipush 99, 2) := by decide +kernel
theorem dX7_whose_4 : decode cX7_whose 4 = .ok (.invokestatic 49, 3) := by decide +kernel
theorem dX7_whose_7 : decode cX7_whose 7 = .ok (.ifCond .ne 10, 3) := by decide +kernel
theorem dX7_whose_10 : decode cX7_whose 10 = .ok (.aload_n 0, 1) := by decide +kernel
theorem dX7_whose_11 : decode cX7_whose 11 = .ok (.bipush (-2), 2) := by decide +kernel
theorem dX7_whose_13 : decode cX7_whose 13 = .ok (.invokevirtual 81, 3) := by decide +kernel
theorem dX7_whose_16 : decode cX7_whose 16 = .ok (.ireturn, 1) := by decide +kernel
theorem dX7_whose_17 : decode cX7_whose 17 = .ok (.iconst 0, 1) := by decide +kernel
theorem dX7_whose_18 : decode cX7_whose 18 = .ok (.istore_n 2, 1) := by decide +kernel
theorem dX7_whose_19 : decode cX7_whose 19 = .ok (.iconst 0, 1) := by decide +kernel
theorem dX7_whose_20 : decode cX7_whose 20 = .ok (.istore_n 3, 1) := by decide +kernel
theorem dX7_whose_21 : decode cX7_whose 21 = .ok (.iload_n 3, 1) := by decide +kernel
theorem dX7_whose_22 : decode cX7_whose 22 = .ok (.aload_n 0, 1) := by decide +kernel
theorem dX7_whose_23 : decode cX7_whose 23 = .ok (.getfield 13, 3) := by decide +kernel
theorem dX7_whose_26 : decode cX7_whose 26 = .ok (.bipush 69, 2) := by decide +kernel
theorem dX7_whose_28 : decode cX7_whose 28 = .ok (.iaload, 1) := by decide +kernel
theorem dX7_whose_29 : decode cX7_whose 29 = .ok (.if_icmp .ge 28, 3) := by decide +kernel
theorem dX7_whose_32 : decode cX7_whose 32 = .ok (.iload_n 2, 1) := by decide +kernel
theorem dX7_whose_33 : decode cX7_whose 33 = .ok (.aload_n 0, 1) := by decide +kernel
theorem dX7_whose_34 : decode cX7_whose 34 = .ok (.iload_n 3, 1) := by decide +kernel
theorem dX7_whose_35 : decode cX7_whose 35 = .ok (.invokevirtual 158, 3) := by decide +kernel
theorem dX7_whose_38 : decode cX7_whose 38 = .ok (.iload_n 1, 1) := by decide +kernel
theorem dX7_whose_39 : decode cX7_whose 39 = .ok (.if_icmp .lt 9, 3) := by decide +kernel
theorem dX7_whose_42 : decode cX7_whose 42 = .ok (.iconst 1, 1) := by decide +kernel
theorem dX7_whose_43 : decode cX7_whose 43 = .ok (.iload_n 3, 1) := by decide +kernel
theorem dX7_whose_44 : decode cX7_whose 44 = .ok (.ishl, 1) := by decide +kernel
theorem dX7_whose_45 : decode cX7_whose 45 = .ok (.goto 4, 3) := by decide +kernel
theorem dX7_whose_48 : decode cX7_whose 48 = .ok (.iconst 0, 1) := by decide +kernel
theorem dX7_whose_49 : decode cX7_whose 49 = .ok (.ior, 1) := by decide +kernel
theorem dX7_whose_50 : decode cX7_whose 50 = .ok (.istore_n 2, 1) := by decide +kernel
theorem dX7_whose_51 : decode cX7_whose 51 = .ok (.iinc 3 1, 3) := by decide +kernel
theorem dX7_whose_54 : decode cX7_whose 54 = .ok (.goto (-33), 3) := by decide +kernel
theorem dX7_whose_57 : decode cX7_whose 57 = .ok (.iload_n 2, 1) := by decide +kernel
theorem dX7_whose_58 : decode cX7_whose 58 = .ok (.ireturn, 1) := by decide +kernel
theorem dX7_crew_0 : decode cX7_crew 0 = .ok (.iload_n 1, 1) := by decide +kernel
theorem dX7_crew_1 : decode cX7_crew 1 = .ok (.iconst 0, 1) := by decide +kernel
theorem dX7_crew_2 : decode cX7_crew 2 = .ok (.bipush 6, 2) := by decide +kernel
theorem dX7_crew_4 : decode cX7_crew 4 = .ok (.invokestatic 49, 3) := by decide +kernel
theorem dX7_crew_7 : decode cX7_crew 7 = .ok (.ifCond .ne 10, 3) := by decide +kernel
theorem dX7_crew_10 : decode cX7_crew 10 = .ok (.aload_n 0, 1) := by decide +kernel
theorem dX7_crew_11 : decode cX7_crew 11 = .ok (.bipush (-2), 2) := by decide +kernel
theorem dX7_crew_13 : decode cX7_crew 13 = .ok (.invokevirtual 81, 3) := by decide +kernel
theorem dX7_crew_16 : decode cX7_crew 16 = .ok (.ireturn, 1) := by decide +kernel
theorem dX7_crew_17 : decode cX7_crew 17 = .ok (.iconst (-1), 1) := by decide +kernel
theorem dX7_crew_18 : decode cX7_crew 18 = .ok (.istore_n 2, 1) := by decide +kernel
theorem dX7_crew_19 : decode cX7_crew 19 = .ok (.iconst (-1), 1) := by decide +kernel
theorem dX7_crew_20 : decode cX7_crew 20 = .ok (.istore_n 3, 1) := by decide +kernel
theorem dX7_crew_21 : decode cX7_crew 21 = .ok (.iconst 0, 1) := by decide +kernel
theorem dX7_crew_22 : decode cX7_crew 22 = .ok (.istore 4, 2) := by decide +kernel
theorem dX7_crew_24 : decode cX7_crew 24 = .ok (.iload 4, 2) := by decide +kernel
theorem dX7_crew_26 : decode cX7_crew 26 = .ok (.iconst 1, 1) := by decide +kernel
theorem dX7_crew_27 : decode cX7_crew 27 = .ok (.aload_n 0, 1) := by decide +kernel
theorem dX7_crew_28 : decode cX7_crew 28 = .ok (.getfield 13, 3) := by decide +kernel
theorem dX7_crew_31 : decode cX7_crew 31 = .ok (.bipush 69, 2) := by decide +kernel
theorem dX7_crew_33 : decode cX7_crew 33 = .ok (.iaload, 1) := by decide +kernel
theorem dX7_crew_34 : decode cX7_crew 34 = .ok (.ishl, 1) := by decide +kernel
theorem dX7_crew_35 : decode cX7_crew 35 = .ok (.if_icmp .ge 38, 3) := by decide +kernel
theorem dX7_crew_38 : decode cX7_crew 38 = .ok (.iload 4, 2) := by decide +kernel
theorem dX7_crew_40 : decode cX7_crew 40 = .ok (.invokestatic 72, 3) := by decide +kernel
theorem dX7_crew_43 : decode cX7_crew 43 = .ok (.iload_n 1, 1) := by decide +kernel
theorem dX7_crew_44 : decode cX7_crew 44 = .ok (.if_icmp .ne 23, 3) := by decide +kernel
theorem dX7_crew_47 : decode cX7_crew 47 = .ok (.aload_n 0, 1) := by decide +kernel
theorem dX7_crew_48 : decode cX7_crew 48 = .ok (.iload 4, 2) := by decide +kernel
theorem dX7_crew_50 : decode cX7_crew 50 = .ok (.invokevirtual 165, 3) := by decide +kernel
theorem dX7_crew_53 : decode cX7_crew 53 = .ok (.iload_n 3, 1) := by decide +kernel
theorem dX7_crew_54 : decode cX7_crew 54 = .ok (.if_icmp .le 13, 3) := by decide +kernel
theorem dX7_crew_57 : decode cX7_crew 57 = .ok (.iload 4, 2) := by decide +kernel
theorem dX7_crew_59 : decode cX7_crew 59 = .ok (.istore_n 2, 1) := by decide +kernel
theorem dX7_crew_60 : decode cX7_crew 60 = .ok (.aload_n 0, 1) := by decide +kernel
theorem dX7_crew_61 : decode cX7_crew 61 = .ok (.iload 4, 2) := by decide +kernel
theorem dX7_crew_63 : decode cX7_crew 63 = .ok (.invokevirtual 165, 3) := by decide +kernel
theorem dX7_crew_66 : decode cX7_crew 66 = .ok (.istore_n 3, 1) := by decide +kernel
theorem dX7_crew_67 : decode cX7_crew 67 = .ok (.iinc 4 1, 3) := by decide +kernel
theorem dX7_crew_70 : decode cX7_crew 70 = .ok (.goto (-46), 3) := by decide +kernel
theorem dX7_crew_73 : decode cX7_crew 73 = .ok (.iload_n 2, 1) := by decide +kernel
theorem dX7_crew_74 : decode cX7_crew 74 = .ok (.ireturn, 1) := by decide +kernel
theorem dX7_putBack_0 : decode cX7_putBack 0 = .ok (.aload_n 0, 1) := by decide +kernel
theorem dX7_putBack_1 : decode cX7_putBack 1 = .ok (.iload_n 1, 1) := by decide +kernel
theorem dX7_putBack_2 : decode cX7_putBack 2 = .ok (.invokevirtual 90, 3) := by decide +kernel
theorem dX7_putBack_5 : decode cX7_putBack 5 = .ok (.ifCond .ne 10, 3) := by decide +kernel
theorem dX7_putBack_8 : decode cX7_putBack 8 = .ok (.aload_n 0, 1) := by decide +kernel
theorem dX7_putBack_9 : decode cX7_putBack 9 = .ok (.bipush (-2), 2) := by decide +kernel
theorem dX7_putBack_11 : decode cX7_putBack 11 = .ok (.invokevirtual 81, 3) := by decide +kernel
theorem dX7_putBack_14 : decode cX7_putBack 14 = .ok (.ireturn, 1) := by decide +kernel
theorem dX7_putBack_15 : decode cX7_putBack 15 = .ok (.aload_n 0, 1) := by decide +kernel
theorem dX7_putBack_16 : decode cX7_putBack 16 = .ok (.iload_n 1, 1) := by decide +kernel
theorem dX7_putBack_17 : decode cX7_putBack 17 = .ok (.invokevirtual 177, 3) := by decide +kernel
theorem dX7_putBack_20 : decode cX7_putBack 20 = .ok (.iconst 1, 1) := by decide +kernel
theorem dX7_putBack_21 : decode cX7_putBack 21 = .ok (.iload_n 1, 1) := by decide +kernel
theorem dX7_putBack_22 : decode cX7_putBack 22 = .ok (.ishl, 1) := by decide +kernel
theorem dX7_putBack_23 : decode cX7_putBack 23 = .ok (.ior, 1) := by decide +kernel
theorem dX7_putBack_24 : decode cX7_putBack 24 = .ok (.aload_n 0, 1) := by decide +kernel
theorem dX7_putBack_25 : decode cX7_putBack 25 = .ok (.invokevirtual 135, 3) := by decide +kernel
theorem dX7_putBack_28 : decode cX7_putBack 28 = .ok (.iconst (-1), 1) := by decide +kernel
theorem dX7_putBack_29 : decode cX7_putBack 29 = .ok (.ixor, 1) := by decide +kernel
theorem dX7_putBack_30 : decode cX7_putBack 30 = .ok (.iand, 1) := by decide +kernel
theorem dX7_putBack_31 : decode cX7_putBack 31 = .ok (.istore_n 2, 1) := by decide +kernel
theorem dX7_putBack_32 : decode cX7_putBack 32 = .ok (.iconst 0, 1) := by decide +kernel
theorem dX7_putBack_33 : decode cX7_putBack 33 = .ok (.istore_n 3, 1) := by decide +kernel
theorem dX7_putBack_34 : decode cX7_putBack 34 = .ok (.iconst 0, 1) := by decide +kernel
theorem dX7_putBack_35 : decode cX7_putBack 35 = .ok (.istore 4, 2) := by decide +kernel
theorem dX7_putBack_37 : decode cX7_putBack 37 = .ok (.iload 4, 2) := by decide +kernel
theorem dX7_putBack_39 : decode cX7_putBack 39 = .ok (.aload_n 0, 1) := by decide +kernel
theorem dX7_putBack_40 : decode cX7_putBack 40 = .ok (.invokevirtual 57, 3) := by decide +kernel
theorem dX7_putBack_43 : decode cX7_putBack 43 = .ok (.if_icmp .ge 33, 3) := by decide +kernel
theorem dX7_putBack_46 : decode cX7_putBack 46 = .ok (.iload_n 2, 1) := by decide +kernel
theorem dX7_putBack_47 : decode cX7_putBack 47 = .ok (.iload 4, 2) := by decide +kernel
theorem dX7_putBack_49 : decode cX7_putBack 49 = .ok (.ishr, 1) := by decide +kernel
theorem dX7_putBack_50 : decode cX7_putBack 50 = .ok (.iconst 1, 1) := by decide +kernel
theorem dX7_putBack_51 : decode cX7_putBack 51 = .ok (.iand, 1) := by decide +kernel
theorem dX7_putBack_52 : decode cX7_putBack 52 = .ok (.iconst 1, 1) := by decide +kernel
theorem dX7_putBack_53 : decode cX7_putBack 53 = .ok (.if_icmp .ne 17, 3) := by decide +kernel
theorem dX7_putBack_56 : decode cX7_putBack 56 = .ok (.aload_n 0, 1) := by decide +kernel
theorem dX7_putBack_57 : decode cX7_putBack 57 = .ok (.iload 4, 2) := by decide +kernel
theorem dX7_putBack_59 : decode cX7_putBack 59 = .ok (.invokevirtual 61, 3) := by decide +kernel
theorem dX7_putBack_62 : decode cX7_putBack 62 = .ok (.ifCond .ne 5, 3) := by decide +kernel
theorem dX7_putBack_65 : decode cX7_putBack 65 = .ok (.iconst (-1), 1) := by decide +kernel
theorem dX7_putBack_66 : decode cX7_putBack 66 = .ok (.ireturn, 1) := by decide +kernel
theorem dX7_putBack_67 : decode cX7_putBack 67 = .ok (.iinc 3 1, 3) := by decide +kernel
theorem dX7_putBack_70 : decode cX7_putBack 70 = .ok (.iinc 4 1, 3) := by decide +kernel
theorem dX7_putBack_73 : decode cX7_putBack 73 = .ok (.goto (-36), 3) := by decide +kernel
theorem dX7_putBack_76 : decode cX7_putBack 76 = .ok (.iload_n 3, 1) := by decide +kernel
theorem dX7_putBack_77 : decode cX7_putBack 77 = .ok (.ireturn, 1) := by decide +kernel
theorem dX7_turns_0 : decode cX7_turns 0 = .ok (.iload_n 2, 1) := by decide +kernel
theorem dX7_turns_1 : decode cX7_turns 1 = .ok (.ifCond .ne 14, 3) := by decide +kernel
theorem dX7_turns_4 : decode cX7_turns 4 = .ok (.aload_n 0, 1) := by decide +kernel
theorem dX7_turns_5 : decode cX7_turns 5 = .ok (.iconst (-1), 1) := by decide +kernel
theorem dX7_turns_6 : decode cX7_turns 6 = .ok (.putfield 190, 3) := by decide +kernel
theorem dX7_turns_9 : decode cX7_turns 9 = .ok (.aload_n 0, 1) := by decide +kernel
theorem dX7_turns_10 : decode cX7_turns 10 = .ok (.iload_n 1, 1) := by decide +kernel
theorem dX7_turns_11 : decode cX7_turns 11 = .ok (.invokevirtual 168, 3) := by decide +kernel
theorem dX7_turns_14 : decode cX7_turns 14 = .ok (.ireturn, 1) := by decide +kernel
theorem dX7_turns_15 : decode cX7_turns 15 = .ok (.iconst 0, 1) := by decide +kernel
theorem dX7_turns_16 : decode cX7_turns 16 = .ok (.istore 4, 2) := by decide +kernel
theorem dX7_turns_18 : decode cX7_turns 18 = .ok (.iconst (-1), 1) := by decide +kernel
theorem dX7_turns_19 : decode cX7_turns 19 = .ok (.istore 5, 2) := by decide +kernel
theorem dX7_turns_21 : decode cX7_turns 21 = .ok (.iconst 0, 1) := by decide +kernel
theorem dX7_turns_22 : decode cX7_turns 22 = .ok (.istore 6, 2) := by decide +kernel
theorem dX7_turns_24 : decode cX7_turns 24 = .ok (.iload 6, 2) := by decide +kernel
theorem dX7_turns_26 : decode cX7_turns 26 = .ok (.aload_n 0, 1) := by decide +kernel
theorem dX7_turns_27 : decode cX7_turns 27 = .ok (.invokevirtual 57, 3) := by decide +kernel
theorem dX7_turns_30 : decode cX7_turns 30 = .ok (.if_icmp .ge 86, 3) := by decide +kernel
theorem dX7_turns_33 : decode cX7_turns 33 = .ok (.iload_n 1, 1) := by decide +kernel
theorem dX7_turns_34 : decode cX7_turns 34 = .ok (.iload 6, 2) := by decide +kernel
theorem dX7_turns_36 : decode cX7_turns 36 = .ok (.ishr, 1) := by decide +kernel
theorem dX7_turns_37 : decode cX7_turns 37 = .ok (.iconst 1, 1) := by decide +kernel
theorem dX7_turns_38 : decode cX7_turns 38 = .ok (.iand, 1) := by decide +kernel
theorem dX7_turns_39 : decode cX7_turns 39 = .ok (.iload_n 3, 1) := by decide +kernel
theorem dX7_turns_40 : decode cX7_turns 40 = .ok (.ifCond .eq 7, 3) := by decide +kernel
theorem dX7_turns_43 : decode cX7_turns 43 = .ok (.iconst 1, 1) := by decide +kernel
theorem dX7_turns_44 : decode cX7_turns 44 = .ok (.goto 4, 3) := by decide +kernel
theorem dX7_turns_47 : decode cX7_turns 47 = .ok (.iconst 0, 1) := by decide +kernel
theorem dX7_turns_48 : decode cX7_turns 48 = .ok (.if_icmp .ne 62, 3) := by decide +kernel
theorem dX7_turns_51 : decode cX7_turns 51 = .ok (.aload_n 0, 1) := by decide +kernel
theorem dX7_turns_52 : decode cX7_turns 52 = .ok (.iload_n 1, 1) := by decide +kernel
theorem dX7_turns_53 : decode cX7_turns 53 = .ok (.iconst 1, 1) := by decide +kernel
theorem dX7_turns_54 : decode cX7_turns 54 = .ok (.iload 6, 2) := by decide +kernel
theorem dX7_turns_56 : decode cX7_turns 56 = .ok (.ishl, 1) := by decide +kernel
theorem dX7_turns_57 : decode cX7_turns 57 = .ok (.ixor, 1) := by decide +kernel
theorem dX7_turns_58 : decode cX7_turns 58 = .ok (.iload_n 2, 1) := by decide +kernel
theorem dX7_turns_59 : decode cX7_turns 59 = .ok (.iconst 1, 1) := by decide +kernel
theorem dX7_turns_60 : decode cX7_turns 60 = .ok (.isub, 1) := by decide +kernel
theorem dX7_turns_61 : decode cX7_turns 61 = .ok (.iload_n 3, 1) := by decide +kernel
theorem dX7_turns_62 : decode cX7_turns 62 = .ok (.ifCond .ne 7, 3) := by decide +kernel
theorem dX7_turns_65 : decode cX7_turns 65 = .ok (.iconst 1, 1) := by decide +kernel
theorem dX7_turns_66 : decode cX7_turns 66 = .ok (.goto 4, 3) := by decide +kernel
theorem dX7_turns_69 : decode cX7_turns 69 = .ok (.iconst 0, 1) := by decide +kernel
theorem dX7_turns_70 : decode cX7_turns 70 = .ok (.invokevirtual 193, 3) := by decide +kernel
theorem dX7_turns_73 : decode cX7_turns 73 = .ok (.istore 7, 2) := by decide +kernel
theorem dX7_turns_75 : decode cX7_turns 75 = .ok (.iload 5, 2) := by decide +kernel
theorem dX7_turns_77 : decode cX7_turns 77 = .ok (.iconst (-1), 1) := by decide +kernel
theorem dX7_turns_78 : decode cX7_turns 78 = .ok (.if_icmp .eq 24, 3) := by decide +kernel
theorem dX7_turns_81 : decode cX7_turns 81 = .ok (.iload_n 3, 1) := by decide +kernel
theorem dX7_turns_82 : decode cX7_turns 82 = .ok (.ifCond .eq 13, 3) := by decide +kernel
theorem dX7_turns_85 : decode cX7_turns 85 = .ok (.iload 7, 2) := by decide +kernel
theorem dX7_turns_87 : decode cX7_turns 87 = .ok (.iload 4, 2) := by decide +kernel
theorem dX7_turns_89 : decode cX7_turns 89 = .ok (.if_icmp .ge 21, 3) := by decide +kernel
theorem dX7_turns_92 : decode cX7_turns 92 = .ok (.goto 10, 3) := by decide +kernel
theorem dX7_turns_95 : decode cX7_turns 95 = .ok (.iload 7, 2) := by decide +kernel
theorem dX7_turns_97 : decode cX7_turns 97 = .ok (.iload 4, 2) := by decide +kernel
theorem dX7_turns_99 : decode cX7_turns 99 = .ok (.if_icmp .le 11, 3) := by decide +kernel
theorem dX7_turns_102 : decode cX7_turns 102 = .ok (.iload 7, 2) := by decide +kernel
theorem dX7_turns_104 : decode cX7_turns 104 = .ok (.istore 4, 2) := by decide +kernel
theorem dX7_turns_106 : decode cX7_turns 106 = .ok (.iload 6, 2) := by decide +kernel
theorem dX7_turns_108 : decode cX7_turns 108 = .ok (.istore 5, 2) := by decide +kernel
theorem dX7_turns_110 : decode cX7_turns 110 = .ok (.iinc 6 1, 3) := by decide +kernel
theorem dX7_turns_113 : decode cX7_turns 113 = .ok (.goto (-89), 3) := by decide +kernel
theorem dX7_turns_116 : decode cX7_turns 116 = .ok (.iload 5, 2) := by decide +kernel
theorem dX7_turns_118 : decode cX7_turns 118 = .ok (.iconst (-1), 1) := by decide +kernel
theorem dX7_turns_119 : decode cX7_turns 119 = .ok (.if_icmp .ne 22, 3) := by decide +kernel
theorem dX7_turns_122 : decode cX7_turns 122 = .ok (.aload_n 0, 1) := by decide +kernel
theorem dX7_turns_123 : decode cX7_turns 123 = .ok (.iload_n 1, 1) := by decide +kernel
theorem dX7_turns_124 : decode cX7_turns 124 = .ok (.iload_n 2, 1) := by decide +kernel
theorem dX7_turns_125 : decode cX7_turns 125 = .ok (.iconst 1, 1) := by decide +kernel
theorem dX7_turns_126 : decode cX7_turns 126 = .ok (.isub, 1) := by decide +kernel
theorem dX7_turns_127 : decode cX7_turns 127 = .ok (.iload_n 3, 1) := by decide +kernel
theorem dX7_turns_128 : decode cX7_turns 128 = .ok (.ifCond .ne 7, 3) := by decide +kernel
theorem dX7_turns_131 : decode cX7_turns 131 = .ok (.iconst 1, 1) := by decide +kernel
theorem dX7_turns_132 : decode cX7_turns 132 = .ok (.goto 4, 3) := by decide +kernel
theorem dX7_turns_135 : decode cX7_turns 135 = .ok (.iconst 0, 1) := by decide +kernel
theorem dX7_turns_136 : decode cX7_turns 136 = .ok (.invokevirtual 193, 3) := by decide +kernel
theorem dX7_turns_139 : decode cX7_turns 139 = .ok (.istore 4, 2) := by decide +kernel
theorem dX7_turns_141 : decode cX7_turns 141 = .ok (.aload_n 0, 1) := by decide +kernel
theorem dX7_turns_142 : decode cX7_turns 142 = .ok (.iload 5, 2) := by decide +kernel
theorem dX7_turns_144 : decode cX7_turns 144 = .ok (.putfield 190, 3) := by decide +kernel
theorem dX7_turns_147 : decode cX7_turns 147 = .ok (.iload 4, 2) := by decide +kernel
theorem dX7_turns_149 : decode cX7_turns 149 = .ok (.ireturn, 1) := by decide +kernel
theorem dX7_parishes_0 : decode cX7_parishes 0 = .ok (.iload_n 1, 1) := by decide +kernel
theorem dX7_parishes_1 : decode cX7_parishes 1 = .ok (.iconst 0, 1) := by decide +kernel
theorem dX7_parishes_2 : decode cX7_parishes 2 = .ok (.iconst 5, 1) := by decide +kernel
theorem dX7_parishes_3 : decode cX7_parishes 3 = .ok (.invokestatic 49, 3) := by decide +kernel
theorem dX7_parishes_6 : decode cX7_parishes 6 = .ok (.ifCond .eq 12, 3) := by decide +kernel
theorem dX7_parishes_9 : decode cX7_parishes 9 = .ok (.iload_n 2, 1) := by decide +kernel
theorem dX7_parishes_10 : decode cX7_parishes 10 = .ok (.iconst 0, 1) := by decide +kernel
theorem dX7_parishes_11 : decode cX7_parishes 11 = .ok (.iconst 1, 1) := by decide +kernel
theorem dX7_parishes_12 : decode cX7_parishes 12 = .ok (.invokestatic 49, 3) := by decide +kernel
theorem dX7_parishes_15 : decode cX7_parishes 15 = .ok (.ifCond .ne 10, 3) := by decide +kernel
theorem dX7_parishes_18 : decode cX7_parishes 18 = .ok (.aload_n 0, 1) := by decide +kernel
theorem dX7_parishes_19 : decode cX7_parishes 19 = .ok (.bipush (-2), 2) := by decide +kernel
theorem dX7_parishes_21 : decode cX7_parishes 21 = .ok (.invokevirtual 81, 3) := by decide +kernel
theorem dX7_parishes_24 : decode cX7_parishes 24 = .ok (.ireturn, 1) := by decide +kernel
theorem dX7_parishes_25 : decode cX7_parishes 25 = .ok (.aload_n 0, 1) := by decide +kernel
theorem dX7_parishes_26 : decode cX7_parishes 26 = .ok (.aload_n 0, 1) := by decide +kernel
theorem dX7_parishes_27 : decode cX7_parishes 27 = .ok (.invokevirtual 135, 3) := by decide +kernel
theorem dX7_parishes_30 : decode cX7_parishes 30 = .ok (.iload_n 1, 1) := by decide +kernel
theorem dX7_parishes_31 : decode cX7_parishes 31 = .ok (.iconst 1, 1) := by decide +kernel
theorem dX7_parishes_32 : decode cX7_parishes 32 = .ok (.invokevirtual 193, 3) := by decide +kernel
theorem dX7_parishes_35 : decode cX7_parishes 35 = .ok (.istore_n 3, 1) := by decide +kernel
theorem dX7_parishes_36 : decode cX7_parishes 36 = .ok (.iload_n 2, 1) := by decide +kernel
theorem dX7_parishes_37 : decode cX7_parishes 37 = .ok (.ifCond .ne 7, 3) := by decide +kernel
theorem dX7_parishes_40 : decode cX7_parishes 40 = .ok (.iload_n 3, 1) := by decide +kernel
theorem dX7_parishes_41 : decode cX7_parishes 41 = .ok (.goto 7, 3) := by decide +kernel
theorem dX7_parishes_44 : decode cX7_parishes 44 = .ok (.aload_n 0, 1) := by decide +kernel
theorem dX7_parishes_45 : decode cX7_parishes 45 = .ok (.getfield 190, 3) := by decide +kernel
theorem dX7_parishes_48 : decode cX7_parishes 48 = .ok (.ireturn, 1) := by decide +kernel
theorem dX7_deaf_0 : decode cX7_deaf 0 = .ok (.aload_n 0, 1) := by decide +kernel
theorem dX7_deaf_1 : decode cX7_deaf 1 = .ok (.iload_n 1, 1) := by decide +kernel
theorem dX7_deaf_2 : decode cX7_deaf 2 = .ok (.invokevirtual 180, 3) := by decide +kernel
theorem dX7_deaf_5 : decode cX7_deaf 5 = .ok (.ifCond .eq 12, 3) := by decide +kernel
theorem dX7_deaf_8 : decode cX7_deaf 8 = .ok (.iload_n 2, 1) := by decide +kernel
theorem dX7_deaf_9 : decode cX7_deaf 9 = .ok (.iconst 0, 1) := by decide +kernel
theorem dX7_deaf_10 : decode cX7_deaf 10 = .ok (.iconst 1, 1) := by decide +kernel
theorem dX7_deaf_11 : decode cX7_deaf 11 = .ok (.invokestatic 49, 3) := by decide +kernel
theorem dX7_deaf_14 : decode cX7_deaf 14 = .ok (.ifCond .ne 10, 3) := by decide +kernel
theorem dX7_deaf_17 : decode cX7_deaf 17 = .ok (.aload_n 0, 1) := by decide +kernel
theorem dX7_deaf_18 : decode cX7_deaf 18 = .ok (.bipush (-2), 2) := by decide +kernel
theorem dX7_deaf_20 : decode cX7_deaf 20 = .ok (.invokevirtual 81, 3) := by decide +kernel
theorem dX7_deaf_23 : decode cX7_deaf 23 = .ok (.ireturn, 1) := by decide +kernel
theorem dX7_deaf_24 : decode cX7_deaf 24 = .ok (.aload_n 0, 1) := by decide +kernel
theorem dX7_deaf_25 : decode cX7_deaf 25 = .ok (.invokevirtual 135, 3) := by decide +kernel
theorem dX7_deaf_28 : decode cX7_deaf 28 = .ok (.istore_n 3, 1) := by decide +kernel
theorem dX7_deaf_29 : decode cX7_deaf 29 = .ok (.aload_n 0, 1) := by decide +kernel
theorem dX7_deaf_30 : decode cX7_deaf 30 = .ok (.iload_n 3, 1) := by decide +kernel
theorem dX7_deaf_31 : decode cX7_deaf 31 = .ok (.invokevirtual 65, 3) := by decide +kernel
theorem dX7_deaf_34 : decode cX7_deaf 34 = .ok (.iload_n 1, 1) := by decide +kernel
theorem dX7_deaf_35 : decode cX7_deaf 35 = .ok (.ior, 1) := by decide +kernel
theorem dX7_deaf_36 : decode cX7_deaf 36 = .ok (.istore 4, 2) := by decide +kernel
theorem dX7_deaf_38 : decode cX7_deaf 38 = .ok (.iconst 0, 1) := by decide +kernel
theorem dX7_deaf_39 : decode cX7_deaf 39 = .ok (.istore 5, 2) := by decide +kernel
theorem dX7_deaf_41 : decode cX7_deaf 41 = .ok (.iconst (-1), 1) := by decide +kernel
theorem dX7_deaf_42 : decode cX7_deaf 42 = .ok (.istore 6, 2) := by decide +kernel
theorem dX7_deaf_44 : decode cX7_deaf 44 = .ok (.iconst 0, 1) := by decide +kernel
theorem dX7_deaf_45 : decode cX7_deaf 45 = .ok (.istore 7, 2) := by decide +kernel
theorem dX7_deaf_47 : decode cX7_deaf 47 = .ok (.iload 7, 2) := by decide +kernel
theorem dX7_deaf_49 : decode cX7_deaf 49 = .ok (.iconst 1, 1) := by decide +kernel
theorem dX7_deaf_50 : decode cX7_deaf 50 = .ok (.aload_n 0, 1) := by decide +kernel
theorem dX7_deaf_51 : decode cX7_deaf 51 = .ok (.invokevirtual 57, 3) := by decide +kernel
theorem dX7_deaf_54 : decode cX7_deaf 54 = .ok (.ishl, 1) := by decide +kernel
theorem dX7_deaf_55 : decode cX7_deaf 55 = .ok (.if_icmp .ge 47, 3) := by decide +kernel
theorem dX7_deaf_58 : decode cX7_deaf 58 = .ok (.iload 7, 2) := by decide +kernel
theorem dX7_deaf_60 : decode cX7_deaf 60 = .ok (.iload_n 3, 1) := by decide +kernel
theorem dX7_deaf_61 : decode cX7_deaf 61 = .ok (.iand, 1) := by decide +kernel
theorem dX7_deaf_62 : decode cX7_deaf 62 = .ok (.ifCond .ne 34, 3) := by decide +kernel
theorem dX7_deaf_65 : decode cX7_deaf 65 = .ok (.aload_n 0, 1) := by decide +kernel
theorem dX7_deaf_66 : decode cX7_deaf 66 = .ok (.iload_n 3, 1) := by decide +kernel
theorem dX7_deaf_67 : decode cX7_deaf 67 = .ok (.iload 7, 2) := by decide +kernel
theorem dX7_deaf_69 : decode cX7_deaf 69 = .ok (.ior, 1) := by decide +kernel
theorem dX7_deaf_70 : decode cX7_deaf 70 = .ok (.invokevirtual 65, 3) := by decide +kernel
theorem dX7_deaf_73 : decode cX7_deaf 73 = .ok (.iload 4, 2) := by decide +kernel
theorem dX7_deaf_75 : decode cX7_deaf 75 = .ok (.if_icmp .ne 21, 3) := by decide +kernel
theorem dX7_deaf_78 : decode cX7_deaf 78 = .ok (.iinc 5 1, 3) := by decide +kernel
theorem dX7_deaf_81 : decode cX7_deaf 81 = .ok (.iload 6, 2) := by decide +kernel
theorem dX7_deaf_83 : decode cX7_deaf 83 = .ok (.iconst (-1), 1) := by decide +kernel
theorem dX7_deaf_84 : decode cX7_deaf 84 = .ok (.if_icmp .ne 8, 3) := by decide +kernel
theorem dX7_deaf_87 : decode cX7_deaf 87 = .ok (.iload 7, 2) := by decide +kernel
theorem dX7_deaf_89 : decode cX7_deaf 89 = .ok (.goto 5, 3) := by decide +kernel
theorem dX7_deaf_92 : decode cX7_deaf 92 = .ok (.iload 6, 2) := by decide +kernel
theorem dX7_deaf_94 : decode cX7_deaf 94 = .ok (.istore 6, 2) := by decide +kernel
theorem dX7_deaf_96 : decode cX7_deaf 96 = .ok (.iinc 7 1, 3) := by decide +kernel
theorem dX7_deaf_99 : decode cX7_deaf 99 = .ok (.goto (-52), 3) := by decide +kernel
theorem dX7_deaf_102 : decode cX7_deaf 102 = .ok (.iload_n 2, 1) := by decide +kernel
theorem dX7_deaf_103 : decode cX7_deaf 103 = .ok (.ifCond .ne 8, 3) := by decide +kernel
theorem dX7_deaf_106 : decode cX7_deaf 106 = .ok (.iload 5, 2) := by decide +kernel
theorem dX7_deaf_108 : decode cX7_deaf 108 = .ok (.goto 5, 3) := by decide +kernel
theorem dX7_deaf_111 : decode cX7_deaf 111 = .ok (.iload 6, 2) := by decide +kernel
theorem dX7_deaf_113 : decode cX7_deaf 113 = .ok (.ireturn, 1) := by decide +kernel
theorem dX7_kinds_0 : decode cX7_kinds 0 = .ok (.aload_n 0, 1) := by decide +kernel
theorem dX7_kinds_1 : decode cX7_kinds 1 = .ok (.iload_n 1, 1) := by decide +kernel
theorem dX7_kinds_2 : decode cX7_kinds 2 = .ok (.invokevirtual 155, 3) := by decide +kernel
theorem dX7_kinds_5 : decode cX7_kinds 5 = .ok (.ifCond .eq 13, 3) := by decide +kernel
theorem dX7_kinds_8 : decode cX7_kinds 8 = .ok (.iload_n 2, 1) := by decide +kernel
theorem dX7_kinds_9 : decode cX7_kinds 9 = .ok (.iconst 0, 1) := by decide +kernel
theorem dX7_kinds_10 : decode cX7_kinds 10 = .ok (.bipush 99, 2) := by decide +kernel
theorem dX7_kinds_12 : decode cX7_kinds 12 = .ok (.invokestatic 49, 3) := by decide +kernel
theorem dX7_kinds_15 : decode cX7_kinds 15 = .ok (.ifCond .ne 10, 3) := by decide +kernel
theorem dX7_kinds_18 : decode cX7_kinds 18 = .ok (.aload_n 0, 1) := by decide +kernel
theorem dX7_kinds_19 : decode cX7_kinds 19 = .ok (.bipush (-2), 2) := by decide +kernel
theorem dX7_kinds_21 : decode cX7_kinds 21 = .ok (.invokevirtual 81, 3) := by decide +kernel
theorem dX7_kinds_24 : decode cX7_kinds 24 = .ok (.ireturn, 1) := by decide +kernel
theorem dX7_kinds_25 : decode cX7_kinds 25 = .ok (.iconst 0, 1) := by decide +kernel
theorem dX7_kinds_26 : decode cX7_kinds 26 = .ok (.istore_n 3, 1) := by decide +kernel
theorem dX7_kinds_27 : decode cX7_kinds 27 = .ok (.iconst 0, 1) := by decide +kernel
theorem dX7_kinds_28 : decode cX7_kinds 28 = .ok (.istore 4, 2) := by decide +kernel
theorem dX7_kinds_30 : decode cX7_kinds 30 = .ok (.iload 4, 2) := by decide +kernel
theorem dX7_kinds_32 : decode cX7_kinds 32 = .ok (.bipush 6, 2) := by decide +kernel
theorem dX7_kinds_34 : decode cX7_kinds 34 = .ok (.if_icmp .ge 56, 3) := by decide +kernel
theorem dX7_kinds_37 : decode cX7_kinds 37 = .ok (.iload_n 3, 1) := by decide +kernel
theorem dX7_kinds_38 : decode cX7_kinds 38 = .ok (.aload_n 0, 1) := by decide +kernel
theorem dX7_kinds_39 : decode cX7_kinds 39 = .ok (.iload 4, 2) := by decide +kernel
theorem dX7_kinds_41 : decode cX7_kinds 41 = .ok (.aload_n 0, 1) := by decide +kernel
theorem dX7_kinds_42 : decode cX7_kinds 42 = .ok (.getfield 13, 3) := by decide +kernel
theorem dX7_kinds_45 : decode cX7_kinds 45 = .ok (.bipush 50, 2) := by decide +kernel
theorem dX7_kinds_47 : decode cX7_kinds 47 = .ok (.iconst 3, 1) := by decide +kernel
theorem dX7_kinds_48 : decode cX7_kinds 48 = .ok (.iload_n 1, 1) := by decide +kernel
theorem dX7_kinds_49 : decode cX7_kinds 49 = .ok (.imul, 1) := by decide +kernel
theorem dX7_kinds_50 : decode cX7_kinds 50 = .ok (.iadd, 1) := by decide +kernel
theorem dX7_kinds_51 : decode cX7_kinds 51 = .ok (.iconst 1, 1) := by decide +kernel
theorem dX7_kinds_52 : decode cX7_kinds 52 = .ok (.iadd, 1) := by decide +kernel
theorem dX7_kinds_53 : decode cX7_kinds 53 = .ok (.iaload, 1) := by decide +kernel
theorem dX7_kinds_54 : decode cX7_kinds 54 = .ok (.aload_n 0, 1) := by decide +kernel
theorem dX7_kinds_55 : decode cX7_kinds 55 = .ok (.getfield 13, 3) := by decide +kernel
theorem dX7_kinds_58 : decode cX7_kinds 58 = .ok (.bipush 50, 2) := by decide +kernel
theorem dX7_kinds_60 : decode cX7_kinds 60 = .ok (.iconst 3, 1) := by decide +kernel
theorem dX7_kinds_61 : decode cX7_kinds 61 = .ok (.iload_n 1, 1) := by decide +kernel
theorem dX7_kinds_62 : decode cX7_kinds 62 = .ok (.imul, 1) := by decide +kernel
theorem dX7_kinds_63 : decode cX7_kinds 63 = .ok (.iadd, 1) := by decide +kernel
theorem dX7_kinds_64 : decode cX7_kinds 64 = .ok (.iconst 2, 1) := by decide +kernel
theorem dX7_kinds_65 : decode cX7_kinds 65 = .ok (.iadd, 1) := by decide +kernel
theorem dX7_kinds_66 : decode cX7_kinds 66 = .ok (.iaload, 1) := by decide +kernel
theorem dX7_kinds_67 : decode cX7_kinds 67 = .ok (.invokevirtual 152, 3) := by decide +kernel
theorem dX7_kinds_70 : decode cX7_kinds 70 = .ok (.iload_n 2, 1) := by decide +kernel
theorem dX7_kinds_71 : decode cX7_kinds 71 = .ok (.if_icmp .ne 10, 3) := by decide +kernel
theorem dX7_kinds_74 : decode cX7_kinds 74 = .ok (.iconst 1, 1) := by decide +kernel
theorem dX7_kinds_75 : decode cX7_kinds 75 = .ok (.iload 4, 2) := by decide +kernel
theorem dX7_kinds_77 : decode cX7_kinds 77 = .ok (.ishl, 1) := by decide +kernel
theorem dX7_kinds_78 : decode cX7_kinds 78 = .ok (.goto 4, 3) := by decide +kernel
theorem dX7_kinds_81 : decode cX7_kinds 81 = .ok (.iconst 0, 1) := by decide +kernel
theorem dX7_kinds_82 : decode cX7_kinds 82 = .ok (.ior, 1) := by decide +kernel
theorem dX7_kinds_83 : decode cX7_kinds 83 = .ok (.istore_n 3, 1) := by decide +kernel
theorem dX7_kinds_84 : decode cX7_kinds 84 = .ok (.iinc 4 1, 3) := by decide +kernel
theorem dX7_kinds_87 : decode cX7_kinds 87 = .ok (.goto (-57), 3) := by decide +kernel
theorem dX7_kinds_90 : decode cX7_kinds 90 = .ok (.iload_n 3, 1) := by decide +kernel
theorem dX7_kinds_91 : decode cX7_kinds 91 = .ok (.ireturn, 1) := by decide +kernel
theorem dX7_worst_0 : decode cX7_worst 0 = .ok (.iload_n 1, 1) := by decide +kernel
theorem dX7_worst_1 : decode cX7_worst 1 = .ok (.iconst 0, 1) := by decide +kernel
theorem dX7_worst_2 : decode cX7_worst 2 = .ok (.iconst 1, 1) := by decide +kernel
theorem dX7_worst_3 : decode cX7_worst 3 = .ok (.invokestatic 49, 3) := by decide +kernel
theorem dX7_worst_6 : decode cX7_worst 6 = .ok (.ifCond .eq 12, 3) := by decide +kernel
theorem dX7_worst_9 : decode cX7_worst 9 = .ok (.aload_n 0, 1) := by decide +kernel
theorem dX7_worst_10 : decode cX7_worst 10 = .ok (.iconst 1, 1) := by decide +kernel
theorem dX7_worst_11 : decode cX7_worst 11 = .ok (.iload_n 1, 1) := by decide +kernel
theorem dX7_worst_12 : decode cX7_worst 12 = .ok (.invokevirtual 197, 3) := by decide +kernel
theorem dX7_worst_15 : decode cX7_worst 15 = .ok (.goto 9, 3) := by decide +kernel
theorem dX7_worst_18 : decode cX7_worst 18 = .ok (.aload_n 0, 1) := by decide +kernel
theorem dX7_worst_19 : decode cX7_worst 19 = .ok (.bipush (-2), 2) := by decide +kernel
theorem dX7_worst_21 : decode cX7_worst 21 = .ok (.invokevirtual 81, 3) := by decide +kernel
theorem dX7_worst_24 : decode cX7_worst 24 = .ok (.ireturn, 1) := by decide +kernel
theorem dX7_best_0 : decode cX7_best 0 = .ok (.iload_n 1, 1) := by decide +kernel
theorem dX7_best_1 : decode cX7_best 1 = .ok (.iconst 0, 1) := by decide +kernel
theorem dX7_best_2 : decode cX7_best 2 = .ok (.iconst 1, 1) := by decide +kernel
theorem dX7_best_3 : decode cX7_best 3 = .ok (.invokestatic 49, 3) := by decide +kernel
theorem dX7_best_6 : decode cX7_best 6 = .ok (.ifCond .eq 12, 3) := by decide +kernel
theorem dX7_best_9 : decode cX7_best 9 = .ok (.aload_n 0, 1) := by decide +kernel
theorem dX7_best_10 : decode cX7_best 10 = .ok (.iconst 0, 1) := by decide +kernel
theorem dX7_best_11 : decode cX7_best 11 = .ok (.iload_n 1, 1) := by decide +kernel
theorem dX7_best_12 : decode cX7_best 12 = .ok (.invokevirtual 197, 3) := by decide +kernel
theorem dX7_best_15 : decode cX7_best 15 = .ok (.goto 9, 3) := by decide +kernel
theorem dX7_best_18 : decode cX7_best 18 = .ok (.aload_n 0, 1) := by decide +kernel
theorem dX7_best_19 : decode cX7_best 19 = .ok (.bipush (-2), 2) := by decide +kernel
theorem dX7_best_21 : decode cX7_best 21 = .ok (.invokevirtual 81, 3) := by decide +kernel
theorem dX7_best_24 : decode cX7_best 24 = .ok (.ireturn, 1) := by decide +kernel
theorem dX7_extreme_0 : decode cX7_extreme 0 = .ok (.aload_n 0, 1) := by decide +kernel
theorem dX7_extreme_1 : decode cX7_extreme 1 = .ok (.invokevirtual 135, 3) := by decide +kernel
theorem dX7_extreme_4 : decode cX7_extreme 4 = .ok (.istore_n 3, 1) := by decide +kernel
theorem dX7_extreme_5 : decode cX7_extreme 5 = .ok (.iconst 0, 1) := by decide +kernel
theorem dX7_extreme_6 : decode cX7_extreme 6 = .ok (.istore 4, 2) := by decide +kernel
theorem dX7_extreme_8 : decode cX7_extreme 8 = .ok (.iconst (-1), 1) := by decide +kernel
theorem dX7_extreme_9 : decode cX7_extreme 9 = .ok (.istore 5, 2) := by decide +kernel
theorem dX7_extreme_11 : decode cX7_extreme 11 = .ok (.iconst 0, 1) := by decide +kernel
theorem dX7_extreme_12 : decode cX7_extreme 12 = .ok (.istore 6, 2) := by decide +kernel
theorem dX7_extreme_14 : decode cX7_extreme 14 = .ok (.iload 6, 2) := by decide +kernel
theorem dX7_extreme_16 : decode cX7_extreme 16 = .ok (.aload_n 0, 1) := by decide +kernel
theorem dX7_extreme_17 : decode cX7_extreme 17 = .ok (.invokevirtual 57, 3) := by decide +kernel
theorem dX7_extreme_20 : decode cX7_extreme 20 = .ok (.if_icmp .ge 74, 3) := by decide +kernel
theorem dX7_extreme_23 : decode cX7_extreme 23 = .ok (.iload_n 3, 1) := by decide +kernel
theorem dX7_extreme_24 : decode cX7_extreme 24 = .ok (.iload 6, 2) := by decide +kernel
theorem dX7_extreme_26 : decode cX7_extreme 26 = .ok (.ishr, 1) := by decide +kernel
theorem dX7_extreme_27 : decode cX7_extreme 27 = .ok (.iconst 1, 1) := by decide +kernel
theorem dX7_extreme_28 : decode cX7_extreme 28 = .ok (.iand, 1) := by decide +kernel
theorem dX7_extreme_29 : decode cX7_extreme 29 = .ok (.iload_n 1, 1) := by decide +kernel
theorem dX7_extreme_30 : decode cX7_extreme 30 = .ok (.ifCond .eq 7, 3) := by decide +kernel
theorem dX7_extreme_33 : decode cX7_extreme 33 = .ok (.iconst 1, 1) := by decide +kernel
theorem dX7_extreme_34 : decode cX7_extreme 34 = .ok (.goto 4, 3) := by decide +kernel
theorem dX7_extreme_37 : decode cX7_extreme 37 = .ok (.iconst 0, 1) := by decide +kernel
theorem dX7_extreme_38 : decode cX7_extreme 38 = .ok (.if_icmp .ne 50, 3) := by decide +kernel
theorem dX7_extreme_41 : decode cX7_extreme 41 = .ok (.aload_n 0, 1) := by decide +kernel
theorem dX7_extreme_42 : decode cX7_extreme 42 = .ok (.iload_n 3, 1) := by decide +kernel
theorem dX7_extreme_43 : decode cX7_extreme 43 = .ok (.iconst 1, 1) := by decide +kernel
theorem dX7_extreme_44 : decode cX7_extreme 44 = .ok (.iload 6, 2) := by decide +kernel
theorem dX7_extreme_46 : decode cX7_extreme 46 = .ok (.ishl, 1) := by decide +kernel
theorem dX7_extreme_47 : decode cX7_extreme 47 = .ok (.ixor, 1) := by decide +kernel
theorem dX7_extreme_48 : decode cX7_extreme 48 = .ok (.invokevirtual 168, 3) := by decide +kernel
theorem dX7_extreme_51 : decode cX7_extreme 51 = .ok (.istore 7, 2) := by decide +kernel
theorem dX7_extreme_53 : decode cX7_extreme 53 = .ok (.iload 5, 2) := by decide +kernel
theorem dX7_extreme_55 : decode cX7_extreme 55 = .ok (.iconst (-1), 1) := by decide +kernel
theorem dX7_extreme_56 : decode cX7_extreme 56 = .ok (.if_icmp .eq 24, 3) := by decide +kernel
theorem dX7_extreme_59 : decode cX7_extreme 59 = .ok (.iload_n 1, 1) := by decide +kernel
theorem dX7_extreme_60 : decode cX7_extreme 60 = .ok (.ifCond .eq 13, 3) := by decide +kernel
theorem dX7_extreme_63 : decode cX7_extreme 63 = .ok (.iload 7, 2) := by decide +kernel
theorem dX7_extreme_65 : decode cX7_extreme 65 = .ok (.iload 4, 2) := by decide +kernel
theorem dX7_extreme_67 : decode cX7_extreme 67 = .ok (.if_icmp .ge 21, 3) := by decide +kernel
theorem dX7_extreme_70 : decode cX7_extreme 70 = .ok (.goto 10, 3) := by decide +kernel
theorem dX7_extreme_73 : decode cX7_extreme 73 = .ok (.iload 7, 2) := by decide +kernel
theorem dX7_extreme_75 : decode cX7_extreme 75 = .ok (.iload 4, 2) := by decide +kernel
theorem dX7_extreme_77 : decode cX7_extreme 77 = .ok (.if_icmp .le 11, 3) := by decide +kernel
theorem dX7_extreme_80 : decode cX7_extreme 80 = .ok (.iload 7, 2) := by decide +kernel
theorem dX7_extreme_82 : decode cX7_extreme 82 = .ok (.istore 4, 2) := by decide +kernel
theorem dX7_extreme_84 : decode cX7_extreme 84 = .ok (.iload 6, 2) := by decide +kernel
theorem dX7_extreme_86 : decode cX7_extreme 86 = .ok (.istore 5, 2) := by decide +kernel
theorem dX7_extreme_88 : decode cX7_extreme 88 = .ok (.iinc 6 1, 3) := by decide +kernel
theorem dX7_extreme_91 : decode cX7_extreme 91 = .ok (.goto (-77), 3) := by decide +kernel
theorem dX7_extreme_94 : decode cX7_extreme 94 = .ok (.iload_n 2, 1) := by decide +kernel
theorem dX7_extreme_95 : decode cX7_extreme 95 = .ok (.ifCond .eq 9, 3) := by decide +kernel
theorem dX7_extreme_98 : decode cX7_extreme 98 = .ok (.iload 5, 2) := by decide +kernel
theorem dX7_extreme_100 : decode cX7_extreme 100 = .ok (.iconst (-1), 1) := by decide +kernel
theorem dX7_extreme_101 : decode cX7_extreme 101 = .ok (.if_icmp .ne 8, 3) := by decide +kernel
theorem dX7_extreme_104 : decode cX7_extreme 104 = .ok (.iload 5, 2) := by decide +kernel
theorem dX7_extreme_106 : decode cX7_extreme 106 = .ok (.goto 5, 3) := by decide +kernel
theorem dX7_extreme_109 : decode cX7_extreme 109 = .ok (.iload 4, 2) := by decide +kernel
theorem dX7_extreme_111 : decode cX7_extreme 111 = .ok (.ireturn, 1) := by decide +kernel
theorem dX7_depthOf_0 : decode cX7_depthOf 0 = .ok (.iconst 0, 1) := by decide +kernel
theorem dX7_depthOf_1 : decode cX7_depthOf 1 = .ok (.istore_n 2, 1) := by decide +kernel
theorem dX7_depthOf_2 : decode cX7_depthOf 2 = .ok (.iconst 0, 1) := by decide +kernel
theorem dX7_depthOf_3 : decode cX7_depthOf 3 = .ok (.istore_n 3, 1) := by decide +kernel
theorem dX7_depthOf_4 : decode cX7_depthOf 4 = .ok (.iload_n 3, 1) := by decide +kernel
theorem dX7_depthOf_5 : decode cX7_depthOf 5 = .ok (.iload_n 1, 1) := by decide +kernel
theorem dX7_depthOf_6 : decode cX7_depthOf 6 = .ok (.if_icmp .ge 39, 3) := by decide +kernel
theorem dX7_depthOf_9 : decode cX7_depthOf 9 = .ok (.aload_n 0, 1) := by decide +kernel
theorem dX7_depthOf_10 : decode cX7_depthOf 10 = .ok (.iload_n 1, 1) := by decide +kernel
theorem dX7_depthOf_11 : decode cX7_depthOf 11 = .ok (.iconst 2, 1) := by decide +kernel
theorem dX7_depthOf_12 : decode cX7_depthOf 12 = .ok (.invokevirtual 53, 3) := by decide +kernel
theorem dX7_depthOf_15 : decode cX7_depthOf 15 = .ok (.iload_n 3, 1) := by decide +kernel
theorem dX7_depthOf_16 : decode cX7_depthOf 16 = .ok (.ishr, 1) := by decide +kernel
theorem dX7_depthOf_17 : decode cX7_depthOf 17 = .ok (.iconst 1, 1) := by decide +kernel
theorem dX7_depthOf_18 : decode cX7_depthOf 18 = .ok (.iand, 1) := by decide +kernel
theorem dX7_depthOf_19 : decode cX7_depthOf 19 = .ok (.iconst 1, 1) := by decide +kernel
theorem dX7_depthOf_20 : decode cX7_depthOf 20 = .ok (.if_icmp .ne 17, 3) := by decide +kernel
theorem dX7_depthOf_23 : decode cX7_depthOf 23 = .ok (.iload_n 2, 1) := by decide +kernel
theorem dX7_depthOf_24 : decode cX7_depthOf 24 = .ok (.iconst 1, 1) := by decide +kernel
theorem dX7_depthOf_25 : decode cX7_depthOf 25 = .ok (.aload_n 0, 1) := by decide +kernel
theorem dX7_depthOf_26 : decode cX7_depthOf 26 = .ok (.iload_n 3, 1) := by decide +kernel
theorem dX7_depthOf_27 : decode cX7_depthOf 27 = .ok (.invokevirtual 201, 3) := by decide +kernel
theorem dX7_depthOf_30 : decode cX7_depthOf 30 = .ok (.iadd, 1) := by decide +kernel
theorem dX7_depthOf_31 : decode cX7_depthOf 31 = .ok (.invokestatic 146, 3) := by decide +kernel
theorem dX7_depthOf_34 : decode cX7_depthOf 34 = .ok (.goto 4, 3) := by decide +kernel
theorem dX7_depthOf_37 : decode cX7_depthOf 37 = .ok (.iload_n 2, 1) := by decide +kernel
theorem dX7_depthOf_38 : decode cX7_depthOf 38 = .ok (.istore_n 2, 1) := by decide +kernel
theorem dX7_depthOf_39 : decode cX7_depthOf 39 = .ok (.iinc 3 1, 3) := by decide +kernel
theorem dX7_depthOf_42 : decode cX7_depthOf 42 = .ok (.goto (-38), 3) := by decide +kernel
theorem dX7_depthOf_45 : decode cX7_depthOf 45 = .ok (.iload_n 2, 1) := by decide +kernel
theorem dX7_depthOf_46 : decode cX7_depthOf 46 = .ok (.ireturn, 1) := by decide +kernel
theorem dX7_depth_0 : decode cX7_depth 0 = .ok (.aload_n 0, 1) := by decide +kernel
theorem dX7_depth_1 : decode cX7_depth 1 = .ok (.iload_n 1, 1) := by decide +kernel
theorem dX7_depth_2 : decode cX7_depth 2 = .ok (.invokevirtual 90, 3) := by decide +kernel
theorem dX7_depth_5 : decode cX7_depth 5 = .ok (.ifCond .eq 11, 3) := by decide +kernel
theorem dX7_depth_8 : decode cX7_depth 8 = .ok (.aload_n 0, 1) := by decide +kernel
theorem dX7_depth_9 : decode cX7_depth 9 = .ok (.iload_n 1, 1) := by decide +kernel
theorem dX7_depth_10 : decode cX7_depth 10 = .ok (.invokevirtual 201, 3) := by decide +kernel
theorem dX7_depth_13 : decode cX7_depth 13 = .ok (.goto 9, 3) := by decide +kernel
theorem dX7_depth_16 : decode cX7_depth 16 = .ok (.aload_n 0, 1) := by decide +kernel
theorem dX7_depth_17 : decode cX7_depth 17 = .ok (.bipush (-2), 2) := by decide +kernel
theorem dX7_depth_19 : decode cX7_depth 19 = .ok (.invokevirtual 81, 3) := by decide +kernel
theorem dX7_depth_22 : decode cX7_depth 22 = .ok (.ireturn, 1) := by decide +kernel
theorem dX7_ends_0 : decode cX7_ends 0 = .ok (.iload_n 1, 1) := by decide +kernel
theorem dX7_ends_1 : decode cX7_ends 1 = .ok (.iconst 0, 1) := by decide +kernel
theorem dX7_ends_2 : decode cX7_ends 2 = .ok (.iconst 1, 1) := by decide +kernel
theorem dX7_ends_3 : decode cX7_ends 3 = .ok (.invokestatic 49, 3) := by decide +kernel
theorem dX7_ends_6 : decode cX7_ends 6 = .ok (.ifCond .ne 10, 3) := by decide +kernel
theorem dX7_ends_9 : decode cX7_ends 9 = .ok (.aload_n 0, 1) := by decide +kernel
theorem dX7_ends_10 : decode cX7_ends 10 = .ok (.bipush (-2), 2) := by decide +kernel
theorem dX7_ends_12 : decode cX7_ends 12 = .ok (.invokevirtual 81, 3) := by decide +kernel
theorem dX7_ends_15 : decode cX7_ends 15 = .ok (.ireturn, 1) := by decide +kernel
theorem dX7_ends_16 : decode cX7_ends 16 = .ok (.iconst 0, 1) := by decide +kernel
theorem dX7_ends_17 : decode cX7_ends 17 = .ok (.istore_n 2, 1) := by decide +kernel
theorem dX7_ends_18 : decode cX7_ends 18 = .ok (.iconst 0, 1) := by decide +kernel
theorem dX7_ends_19 : decode cX7_ends 19 = .ok (.istore_n 3, 1) := by decide +kernel
theorem dX7_ends_20 : decode cX7_ends 20 = .ok (.iconst 0, 1) := by decide +kernel
theorem dX7_ends_21 : decode cX7_ends 21 = .ok (.istore 4, 2) := by decide +kernel
theorem dX7_ends_23 : decode cX7_ends 23 = .ok (.iload 4, 2) := by decide +kernel
theorem dX7_ends_25 : decode cX7_ends 25 = .ok (.aload_n 0, 1) := by decide +kernel
theorem dX7_ends_26 : decode cX7_ends 26 = .ok (.invokevirtual 57, 3) := by decide +kernel
theorem dX7_ends_29 : decode cX7_ends 29 = .ok (.if_icmp .ge 40, 3) := by decide +kernel
theorem dX7_ends_32 : decode cX7_ends 32 = .ok (.iload_n 2, 1) := by decide +kernel
theorem dX7_ends_33 : decode cX7_ends 33 = .ok (.aload_n 0, 1) := by decide +kernel
theorem dX7_ends_34 : decode cX7_ends 34 = .ok (.iload 4, 2) := by decide +kernel
theorem dX7_ends_36 : decode cX7_ends 36 = .ok (.iconst 2, 1) := by decide +kernel
theorem dX7_ends_37 : decode cX7_ends 37 = .ok (.invokevirtual 53, 3) := by decide +kernel
theorem dX7_ends_40 : decode cX7_ends 40 = .ok (.ior, 1) := by decide +kernel
theorem dX7_ends_41 : decode cX7_ends 41 = .ok (.istore_n 2, 1) := by decide +kernel
theorem dX7_ends_42 : decode cX7_ends 42 = .ok (.iload_n 3, 1) := by decide +kernel
theorem dX7_ends_43 : decode cX7_ends 43 = .ok (.aload_n 0, 1) := by decide +kernel
theorem dX7_ends_44 : decode cX7_ends 44 = .ok (.iload 4, 2) := by decide +kernel
theorem dX7_ends_46 : decode cX7_ends 46 = .ok (.iconst 2, 1) := by decide +kernel
theorem dX7_ends_47 : decode cX7_ends 47 = .ok (.invokevirtual 53, 3) := by decide +kernel
theorem dX7_ends_50 : decode cX7_ends 50 = .ok (.ifCond .ne 10, 3) := by decide +kernel
theorem dX7_ends_53 : decode cX7_ends 53 = .ok (.iconst 1, 1) := by decide +kernel
theorem dX7_ends_54 : decode cX7_ends 54 = .ok (.iload 4, 2) := by decide +kernel
theorem dX7_ends_56 : decode cX7_ends 56 = .ok (.ishl, 1) := by decide +kernel
theorem dX7_ends_57 : decode cX7_ends 57 = .ok (.goto 4, 3) := by decide +kernel
theorem dX7_ends_60 : decode cX7_ends 60 = .ok (.iconst 0, 1) := by decide +kernel
theorem dX7_ends_61 : decode cX7_ends 61 = .ok (.ior, 1) := by decide +kernel
theorem dX7_ends_62 : decode cX7_ends 62 = .ok (.istore_n 3, 1) := by decide +kernel
theorem dX7_ends_63 : decode cX7_ends 63 = .ok (.iinc 4 1, 3) := by decide +kernel
theorem dX7_ends_66 : decode cX7_ends 66 = .ok (.goto (-43), 3) := by decide +kernel
theorem dX7_ends_69 : decode cX7_ends 69 = .ok (.iload_n 1, 1) := by decide +kernel
theorem dX7_ends_70 : decode cX7_ends 70 = .ok (.iconst 1, 1) := by decide +kernel
theorem dX7_ends_71 : decode cX7_ends 71 = .ok (.if_icmp .ne 7, 3) := by decide +kernel
theorem dX7_ends_74 : decode cX7_ends 74 = .ok (.iload_n 3, 1) := by decide +kernel
theorem dX7_ends_75 : decode cX7_ends 75 = .ok (.goto 15, 3) := by decide +kernel
theorem dX7_ends_78 : decode cX7_ends 78 = .ok (.iconst 1, 1) := by decide +kernel
theorem dX7_ends_79 : decode cX7_ends 79 = .ok (.aload_n 0, 1) := by decide +kernel
theorem dX7_ends_80 : decode cX7_ends 80 = .ok (.invokevirtual 57, 3) := by decide +kernel
theorem dX7_ends_83 : decode cX7_ends 83 = .ok (.ishl, 1) := by decide +kernel
theorem dX7_ends_84 : decode cX7_ends 84 = .ok (.iconst 1, 1) := by decide +kernel
theorem dX7_ends_85 : decode cX7_ends 85 = .ok (.isub, 1) := by decide +kernel
theorem dX7_ends_86 : decode cX7_ends 86 = .ok (.iload_n 2, 1) := by decide +kernel
theorem dX7_ends_87 : decode cX7_ends 87 = .ok (.iconst (-1), 1) := by decide +kernel
theorem dX7_ends_88 : decode cX7_ends 88 = .ok (.ixor, 1) := by decide +kernel
theorem dX7_ends_89 : decode cX7_ends 89 = .ok (.iand, 1) := by decide +kernel
theorem dX7_ends_90 : decode cX7_ends 90 = .ok (.ireturn, 1) := by decide +kernel
theorem dX7_common_0 : decode cX7_common 0 = .ok (.aload_n 0, 1) := by decide +kernel
theorem dX7_common_1 : decode cX7_common 1 = .ok (.iload_n 1, 1) := by decide +kernel
theorem dX7_common_2 : decode cX7_common 2 = .ok (.invokevirtual 90, 3) := by decide +kernel
theorem dX7_common_5 : decode cX7_common 5 = .ok (.ifCond .eq 25, 3) := by decide +kernel
theorem dX7_common_8 : decode cX7_common 8 = .ok (.aload_n 0, 1) := by decide +kernel
theorem dX7_common_9 : decode cX7_common 9 = .ok (.iload_n 2, 1) := by decide +kernel
theorem dX7_common_10 : decode cX7_common 10 = .ok (.invokevirtual 90, 3) := by decide +kernel
theorem dX7_common_13 : decode cX7_common 13 = .ok (.ifCond .eq 17, 3) := by decide +kernel
theorem dX7_common_16 : decode cX7_common 16 = .ok (.aload_n 0, 1) := by decide +kernel
theorem dX7_common_17 : decode cX7_common 17 = .ok (.iload_n 1, 1) := by decide +kernel
theorem dX7_common_18 : decode cX7_common 18 = .ok (.invokevirtual 177, 3) := by decide +kernel
theorem dX7_common_21 : decode cX7_common 21 = .ok (.aload_n 0, 1) := by decide +kernel
theorem dX7_common_22 : decode cX7_common 22 = .ok (.iload_n 2, 1) := by decide +kernel
theorem dX7_common_23 : decode cX7_common 23 = .ok (.invokevirtual 177, 3) := by decide +kernel
theorem dX7_common_26 : decode cX7_common 26 = .ok (.iand, 1) := by decide +kernel
theorem dX7_common_27 : decode cX7_common 27 = .ok (.goto 9, 3) := by decide +kernel
theorem dX7_common_30 : decode cX7_common 30 = .ok (.aload_n 0, 1) := by decide +kernel
theorem dX7_common_31 : decode cX7_common 31 = .ok (.bipush (-2), 2) := by decide +kernel
theorem dX7_common_33 : decode cX7_common 33 = .ok (.invokevirtual 81, 3) := by decide +kernel
theorem dX7_common_36 : decode cX7_common 36 = .ok (.ireturn, 1) := by decide +kernel
theorem dX7_weatherFor_0 : decode cX7_weatherFor 0 = .ok (.iload_n 1, 1) := by decide +kernel
theorem dX7_weatherFor_1 : decode cX7_weatherFor 1 = .ok (.iconst 0, 1) := by decide +kernel
theorem dX7_weatherFor_2 : decode cX7_weatherFor 2 = .ok (.iconst 1, 1) := by decide +kernel
theorem dX7_weatherFor_3 : decode cX7_weatherFor 3 = .ok (.invokestatic 49, 3) := by decide +kernel
theorem dX7_weatherFor_6 : decode cX7_weatherFor 6 = .ok (.ifCond .ne 10, 3) := by decide +kernel
theorem dX7_weatherFor_9 : decode cX7_weatherFor 9 = .ok (.aload_n 0, 1) := by decide +kernel
theorem dX7_weatherFor_10 : decode cX7_weatherFor 10 = .ok (.bipush (-2), 2) := by decide +kernel
theorem dX7_weatherFor_12 : decode cX7_weatherFor 12 = .ok (.invokevirtual 81, 3) := by decide +kernel
theorem dX7_weatherFor_15 : decode cX7_weatherFor 15 = .ok (.ireturn, 1) := by decide +kernel
theorem dX7_weatherFor_16 : decode cX7_weatherFor 16 = .ok (.iconst 0, 1) := by decide +kernel
theorem dX7_weatherFor_17 : decode cX7_weatherFor 17 = .ok (.istore_n 2, 1) := by decide +kernel
theorem dX7_weatherFor_18 : decode cX7_weatherFor 18 = .ok (.iconst (-1), 1) := by decide +kernel
theorem dX7_weatherFor_19 : decode cX7_weatherFor 19 = .ok (.istore_n 3, 1) := by decide +kernel
theorem dX7_weatherFor_20 : decode cX7_weatherFor 20 = .ok (.iconst 0, 1) := by decide +kernel
theorem dX7_weatherFor_21 : decode cX7_weatherFor 21 = .ok (.istore 4, 2) := by decide +kernel
theorem dX7_weatherFor_23 : decode cX7_weatherFor 23 = .ok (.iload 4, 2) := by decide +kernel
theorem dX7_weatherFor_25 : decode cX7_weatherFor 25 = .ok (.iconst 4, 1) := by decide +kernel
theorem dX7_weatherFor_26 : decode cX7_weatherFor 26 = .ok (.if_icmp .ge 92, 3) := by decide +kernel
theorem dX7_weatherFor_29 : decode cX7_weatherFor 29 = .ok (.iconst 0, 1) := by decide +kernel
theorem dX7_weatherFor_30 : decode cX7_weatherFor 30 = .ok (.istore 5, 2) := by decide +kernel
theorem dX7_weatherFor_32 : decode cX7_weatherFor 32 = .ok (.iconst 0, 1) := by decide +kernel
theorem dX7_weatherFor_33 : decode cX7_weatherFor 33 = .ok (.istore 6, 2) := by decide +kernel
theorem dX7_weatherFor_35 : decode cX7_weatherFor 35 = .ok (.iload 6, 2) := by decide +kernel
theorem dX7_weatherFor_37 : decode cX7_weatherFor 37 = .ok (.aload_n 0, 1) := by decide +kernel
theorem dX7_weatherFor_38 : decode cX7_weatherFor 38 = .ok (.invokevirtual 57, 3) := by decide +kernel
theorem dX7_weatherFor_41 : decode cX7_weatherFor 41 = .ok (.if_icmp .ge 51, 3) := by decide +kernel
theorem dX7_weatherFor_44 : decode cX7_weatherFor 44 = .ok (.iload 5, 2) := by decide +kernel
theorem dX7_weatherFor_46 : decode cX7_weatherFor 46 = .ok (.aload_n 0, 1) := by decide +kernel
theorem dX7_weatherFor_47 : decode cX7_weatherFor 47 = .ok (.iload 6, 2) := by decide +kernel
theorem dX7_weatherFor_49 : decode cX7_weatherFor 49 = .ok (.invokevirtual 61, 3) := by decide +kernel
theorem dX7_weatherFor_52 : decode cX7_weatherFor 52 = .ok (.ifCond .eq 30, 3) := by decide +kernel
theorem dX7_weatherFor_55 : decode cX7_weatherFor 55 = .ok (.aload_n 0, 1) := by decide +kernel
theorem dX7_weatherFor_56 : decode cX7_weatherFor 56 = .ok (.iload 6, 2) := by decide +kernel
theorem dX7_weatherFor_58 : decode cX7_weatherFor 58 = .ok (.iconst 3, 1) := by decide +kernel
theorem dX7_weatherFor_59 : decode cX7_weatherFor 59 = .ok (.invokevirtual 53, 3) := by decide +kernel
theorem dX7_weatherFor_62 : decode cX7_weatherFor 62 = .ok (.iconst 1, 1) := by decide +kernel
theorem dX7_weatherFor_63 : decode cX7_weatherFor 63 = .ok (.if_icmp .ne 19, 3) := by decide +kernel
theorem dX7_weatherFor_66 : decode cX7_weatherFor 66 = .ok (.aload_n 0, 1) := by decide +kernel
theorem dX7_weatherFor_67 : decode cX7_weatherFor 67 = .ok (.iload 6, 2) := by decide +kernel
theorem dX7_weatherFor_69 : decode cX7_weatherFor 69 = .ok (.iconst 1, 1) := by decide +kernel
theorem dX7_weatherFor_70 : decode cX7_weatherFor 70 = .ok (.invokevirtual 53, 3) := by decide +kernel
theorem dX7_weatherFor_73 : decode cX7_weatherFor 73 = .ok (.iload 4, 2) := by decide +kernel
theorem dX7_weatherFor_75 : decode cX7_weatherFor 75 = .ok (.if_icmp .ne 7, 3) := by decide +kernel
theorem dX7_weatherFor_78 : decode cX7_weatherFor 78 = .ok (.iconst 1, 1) := by decide +kernel
theorem dX7_weatherFor_79 : decode cX7_weatherFor 79 = .ok (.goto 4, 3) := by decide +kernel
theorem dX7_weatherFor_82 : decode cX7_weatherFor 82 = .ok (.iconst 0, 1) := by decide +kernel
theorem dX7_weatherFor_83 : decode cX7_weatherFor 83 = .ok (.iadd, 1) := by decide +kernel
theorem dX7_weatherFor_84 : decode cX7_weatherFor 84 = .ok (.istore 5, 2) := by decide +kernel
theorem dX7_weatherFor_86 : decode cX7_weatherFor 86 = .ok (.iinc 6 1, 3) := by decide +kernel
theorem dX7_weatherFor_89 : decode cX7_weatherFor 89 = .ok (.goto (-54), 3) := by decide +kernel
theorem dX7_weatherFor_92 : decode cX7_weatherFor 92 = .ok (.iload 5, 2) := by decide +kernel
theorem dX7_weatherFor_94 : decode cX7_weatherFor 94 = .ok (.iload_n 3, 1) := by decide +kernel
theorem dX7_weatherFor_95 : decode cX7_weatherFor 95 = .ok (.if_icmp .le 8, 3) := by decide +kernel
theorem dX7_weatherFor_98 : decode cX7_weatherFor 98 = .ok (.iload 4, 2) := by decide +kernel
theorem dX7_weatherFor_100 : decode cX7_weatherFor 100 = .ok (.goto 4, 3) := by decide +kernel
theorem dX7_weatherFor_103 : decode cX7_weatherFor 103 = .ok (.iload_n 2, 1) := by decide +kernel
theorem dX7_weatherFor_104 : decode cX7_weatherFor 104 = .ok (.istore_n 2, 1) := by decide +kernel
theorem dX7_weatherFor_105 : decode cX7_weatherFor 105 = .ok (.iload 5, 2) := by decide +kernel
theorem dX7_weatherFor_107 : decode cX7_weatherFor 107 = .ok (.iload_n 3, 1) := by decide +kernel
theorem dX7_weatherFor_108 : decode cX7_weatherFor 108 = .ok (.invokestatic 146, 3) := by decide +kernel
theorem dX7_weatherFor_111 : decode cX7_weatherFor 111 = .ok (.istore_n 3, 1) := by decide +kernel
theorem dX7_weatherFor_112 : decode cX7_weatherFor 112 = .ok (.iinc 4 1, 3) := by decide +kernel
theorem dX7_weatherFor_115 : decode cX7_weatherFor 115 = .ok (.goto (-92), 3) := by decide +kernel
end
section
theorem dX7_weatherFor_118 : decode cX7_weatherFor 118 = .ok (.iload_n 1, 1) := by decide +kernel
theorem dX7_weatherFor_119 : decode cX7_weatherFor 119 = .ok (.ifCond .ne 7, 3) := by decide +kernel
theorem dX7_weatherFor_122 : decode cX7_weatherFor 122 = .ok (.iload_n 2, 1) := by decide +kernel
theorem dX7_weatherFor_123 : decode cX7_weatherFor 123 = .ok (.goto 4, 3) := by decide +kernel
theorem dX7_weatherFor_126 : decode cX7_weatherFor 126 = .ok (.iload_n 3, 1) := by decide +kernel
theorem dX7_weatherFor_127 : decode cX7_weatherFor 127 = .ok (.ireturn, 1) := by decide +kernel
theorem dX7_bell_0 : decode cX7_bell 0 = .ok (.iload_n 1, 1) := by decide +kernel
theorem dX7_bell_1 : decode cX7_bell 1 = .ok (.iconst 0, 1) := by decide +kernel
theorem dX7_bell_2 : decode cX7_bell 2 = .ok (.iconst 1, 1) := by decide +kernel
theorem dX7_bell_3 : decode cX7_bell 3 = .ok (.invokestatic 49, 3) := by decide +kernel
theorem dX7_bell_6 : decode cX7_bell 6 = .ok (.ifCond .ne 10, 3) := by decide +kernel
theorem dX7_bell_9 : decode cX7_bell 9 = .ok (.aload_n 0, 1) := by decide +kernel
theorem dX7_bell_10 : decode cX7_bell 10 = .ok (.bipush (-2), 2) := by decide +kernel
theorem dX7_bell_12 : decode cX7_bell 12 = .ok (.invokevirtual 81, 3) := by decide +kernel
theorem dX7_bell_15 : decode cX7_bell 15 = .ok (.ireturn, 1) := by decide +kernel
theorem dX7_bell_16 : decode cX7_bell 16 = .ok (.iconst 0, 1) := by decide +kernel
theorem dX7_bell_17 : decode cX7_bell 17 = .ok (.istore_n 2, 1) := by decide +kernel
theorem dX7_bell_18 : decode cX7_bell 18 = .ok (.iconst (-1), 1) := by decide +kernel
theorem dX7_bell_19 : decode cX7_bell 19 = .ok (.istore_n 3, 1) := by decide +kernel
theorem dX7_bell_20 : decode cX7_bell 20 = .ok (.iconst 0, 1) := by decide +kernel
theorem dX7_bell_21 : decode cX7_bell 21 = .ok (.istore 4, 2) := by decide +kernel
theorem dX7_bell_23 : decode cX7_bell 23 = .ok (.iload 4, 2) := by decide +kernel
theorem dX7_bell_25 : decode cX7_bell 25 = .ok (.bipush 8, 2) := by decide +kernel
theorem dX7_bell_27 : decode cX7_bell 27 = .ok (.if_icmp .ge 70, 3) := by decide +kernel
theorem dX7_bell_30 : decode cX7_bell 30 = .ok (.iconst 0, 1) := by decide +kernel
theorem dX7_bell_31 : decode cX7_bell 31 = .ok (.istore 5, 2) := by decide +kernel
theorem dX7_bell_33 : decode cX7_bell 33 = .ok (.iload 4, 2) := by decide +kernel
theorem dX7_bell_35 : decode cX7_bell 35 = .ok (.istore 6, 2) := by decide +kernel
theorem dX7_bell_37 : decode cX7_bell 37 = .ok (.iload 6, 2) := by decide +kernel
theorem dX7_bell_39 : decode cX7_bell 39 = .ok (.aload_n 0, 1) := by decide +kernel
theorem dX7_bell_40 : decode cX7_bell 40 = .ok (.invokevirtual 57, 3) := by decide +kernel
theorem dX7_bell_43 : decode cX7_bell 43 = .ok (.if_icmp .ge 28, 3) := by decide +kernel
theorem dX7_bell_46 : decode cX7_bell 46 = .ok (.iload 5, 2) := by decide +kernel
theorem dX7_bell_48 : decode cX7_bell 48 = .ok (.aload_n 0, 1) := by decide +kernel
theorem dX7_bell_49 : decode cX7_bell 49 = .ok (.iload 6, 2) := by decide +kernel
theorem dX7_bell_51 : decode cX7_bell 51 = .ok (.invokevirtual 61, 3) := by decide +kernel
theorem dX7_bell_54 : decode cX7_bell 54 = .ok (.ifCond .eq 7, 3) := by decide +kernel
theorem dX7_bell_57 : decode cX7_bell 57 = .ok (.iconst 1, 1) := by decide +kernel
theorem dX7_bell_58 : decode cX7_bell 58 = .ok (.goto 4, 3) := by decide +kernel
theorem dX7_bell_61 : decode cX7_bell 61 = .ok (.iconst 0, 1) := by decide +kernel
theorem dX7_bell_62 : decode cX7_bell 62 = .ok (.iadd, 1) := by decide +kernel
theorem dX7_bell_63 : decode cX7_bell 63 = .ok (.istore 5, 2) := by decide +kernel
theorem dX7_bell_65 : decode cX7_bell 65 = .ok (.iinc 6 8, 3) := by decide +kernel
theorem dX7_bell_68 : decode cX7_bell 68 = .ok (.goto (-31), 3) := by decide +kernel
theorem dX7_bell_71 : decode cX7_bell 71 = .ok (.iload 5, 2) := by decide +kernel
theorem dX7_bell_73 : decode cX7_bell 73 = .ok (.iload_n 3, 1) := by decide +kernel
theorem dX7_bell_74 : decode cX7_bell 74 = .ok (.if_icmp .le 8, 3) := by decide +kernel
theorem dX7_bell_77 : decode cX7_bell 77 = .ok (.iload 4, 2) := by decide +kernel
theorem dX7_bell_79 : decode cX7_bell 79 = .ok (.goto 4, 3) := by decide +kernel
theorem dX7_bell_82 : decode cX7_bell 82 = .ok (.iload_n 2, 1) := by decide +kernel
theorem dX7_bell_83 : decode cX7_bell 83 = .ok (.istore_n 2, 1) := by decide +kernel
theorem dX7_bell_84 : decode cX7_bell 84 = .ok (.iload 5, 2) := by decide +kernel
theorem dX7_bell_86 : decode cX7_bell 86 = .ok (.iload_n 3, 1) := by decide +kernel
theorem dX7_bell_87 : decode cX7_bell 87 = .ok (.invokestatic 146, 3) := by decide +kernel
theorem dX7_bell_90 : decode cX7_bell 90 = .ok (.istore_n 3, 1) := by decide +kernel
theorem dX7_bell_91 : decode cX7_bell 91 = .ok (.iinc 4 1, 3) := by decide +kernel
theorem dX7_bell_94 : decode cX7_bell 94 = .ok (.goto (-71), 3) := by decide +kernel
theorem dX7_bell_97 : decode cX7_bell 97 = .ok (.iload_n 1, 1) := by decide +kernel
theorem dX7_bell_98 : decode cX7_bell 98 = .ok (.ifCond .ne 7, 3) := by decide +kernel
theorem dX7_bell_101 : decode cX7_bell 101 = .ok (.iload_n 2, 1) := by decide +kernel
theorem dX7_bell_102 : decode cX7_bell 102 = .ok (.goto 4, 3) := by decide +kernel
theorem dX7_bell_105 : decode cX7_bell 105 = .ok (.iload_n 3, 1) := by decide +kernel
theorem dX7_bell_106 : decode cX7_bell 106 = .ok (.ireturn, 1) := by decide +kernel
theorem dX7_pair_0 : decode cX7_pair 0 = .ok (.iload_n 1, 1) := by decide +kernel
theorem dX7_pair_1 : decode cX7_pair 1 = .ok (.iconst 0, 1) := by decide +kernel
theorem dX7_pair_2 : decode cX7_pair 2 = .ok (.iconst 1, 1) := by decide +kernel
theorem dX7_pair_3 : decode cX7_pair 3 = .ok (.invokestatic 49, 3) := by decide +kernel
theorem dX7_pair_6 : decode cX7_pair 6 = .ok (.ifCond .ne 10, 3) := by decide +kernel
theorem dX7_pair_9 : decode cX7_pair 9 = .ok (.aload_n 0, 1) := by decide +kernel
theorem dX7_pair_10 : decode cX7_pair 10 = .ok (.bipush (-2), 2) := by decide +kernel
theorem dX7_pair_12 : decode cX7_pair 12 = .ok (.invokevirtual 81, 3) := by decide +kernel
theorem dX7_pair_15 : decode cX7_pair 15 = .ok (.ireturn, 1) := by decide +kernel
theorem dX7_pair_16 : decode cX7_pair 16 = .ok (.aload_n 0, 1) := by decide +kernel
theorem dX7_pair_17 : decode cX7_pair 17 = .ok (.invokevirtual 135, 3) := by decide +kernel
theorem dX7_pair_20 : decode cX7_pair 20 = .ok (.istore_n 2, 1) := by decide +kernel
theorem dX7_pair_21 : decode cX7_pair 21 = .ok (.iconst (-1), 1) := by decide +kernel
theorem dX7_pair_22 : decode cX7_pair 22 = .ok (.istore_n 3, 1) := by decide +kernel
theorem dX7_pair_23 : decode cX7_pair 23 = .ok (.iconst 0, 1) := by decide +kernel
theorem dX7_pair_24 : decode cX7_pair 24 = .ok (.istore 4, 2) := by decide +kernel
theorem dX7_pair_26 : decode cX7_pair 26 = .ok (.iconst 0, 1) := by decide +kernel
theorem dX7_pair_27 : decode cX7_pair 27 = .ok (.istore 5, 2) := by decide +kernel
theorem dX7_pair_29 : decode cX7_pair 29 = .ok (.iload 5, 2) := by decide +kernel
theorem dX7_pair_31 : decode cX7_pair 31 = .ok (.aload_n 0, 1) := by decide +kernel
theorem dX7_pair_32 : decode cX7_pair 32 = .ok (.invokevirtual 57, 3) := by decide +kernel
theorem dX7_pair_35 : decode cX7_pair 35 = .ok (.if_icmp .ge 91, 3) := by decide +kernel
theorem dX7_pair_38 : decode cX7_pair 38 = .ok (.iload 5, 2) := by decide +kernel
theorem dX7_pair_40 : decode cX7_pair 40 = .ok (.iconst 1, 1) := by decide +kernel
theorem dX7_pair_41 : decode cX7_pair 41 = .ok (.iadd, 1) := by decide +kernel
theorem dX7_pair_42 : decode cX7_pair 42 = .ok (.istore 6, 2) := by decide +kernel
theorem dX7_pair_44 : decode cX7_pair 44 = .ok (.iload 6, 2) := by decide +kernel
theorem dX7_pair_46 : decode cX7_pair 46 = .ok (.aload_n 0, 1) := by decide +kernel
theorem dX7_pair_47 : decode cX7_pair 47 = .ok (.invokevirtual 57, 3) := by decide +kernel
theorem dX7_pair_50 : decode cX7_pair 50 = .ok (.if_icmp .ge 70, 3) := by decide +kernel
theorem dX7_pair_53 : decode cX7_pair 53 = .ok (.iload_n 2, 1) := by decide +kernel
theorem dX7_pair_54 : decode cX7_pair 54 = .ok (.iload 5, 2) := by decide +kernel
theorem dX7_pair_56 : decode cX7_pair 56 = .ok (.ishr, 1) := by decide +kernel
theorem dX7_pair_57 : decode cX7_pair 57 = .ok (.iload_n 2, 1) := by decide +kernel
theorem dX7_pair_58 : decode cX7_pair 58 = .ok (.iload 6, 2) := by decide +kernel
theorem dX7_pair_60 : decode cX7_pair 60 = .ok (.ishr, 1) := by decide +kernel
theorem dX7_pair_61 : decode cX7_pair 61 = .ok (.iand, 1) := by decide +kernel
theorem dX7_pair_62 : decode cX7_pair 62 = .ok (.iconst 1, 1) := by decide +kernel
theorem dX7_pair_63 : decode cX7_pair 63 = .ok (.iand, 1) := by decide +kernel
theorem dX7_pair_64 : decode cX7_pair 64 = .ok (.iconst 1, 1) := by decide +kernel
theorem dX7_pair_65 : decode cX7_pair 65 = .ok (.if_icmp .ne 49, 3) := by decide +kernel
theorem dX7_pair_68 : decode cX7_pair 68 = .ok (.aload_n 0, 1) := by decide +kernel
theorem dX7_pair_69 : decode cX7_pair 69 = .ok (.iload_n 2, 1) := by decide +kernel
theorem dX7_pair_70 : decode cX7_pair 70 = .ok (.iconst 1, 1) := by decide +kernel
theorem dX7_pair_71 : decode cX7_pair 71 = .ok (.iload 5, 2) := by decide +kernel
theorem dX7_pair_73 : decode cX7_pair 73 = .ok (.ishl, 1) := by decide +kernel
theorem dX7_pair_74 : decode cX7_pair 74 = .ok (.iconst (-1), 1) := by decide +kernel
theorem dX7_pair_75 : decode cX7_pair 75 = .ok (.ixor, 1) := by decide +kernel
theorem dX7_pair_76 : decode cX7_pair 76 = .ok (.iand, 1) := by decide +kernel
theorem dX7_pair_77 : decode cX7_pair 77 = .ok (.iconst 1, 1) := by decide +kernel
theorem dX7_pair_78 : decode cX7_pair 78 = .ok (.iload 6, 2) := by decide +kernel
theorem dX7_pair_80 : decode cX7_pair 80 = .ok (.ishl, 1) := by decide +kernel
theorem dX7_pair_81 : decode cX7_pair 81 = .ok (.iconst (-1), 1) := by decide +kernel
theorem dX7_pair_82 : decode cX7_pair 82 = .ok (.ixor, 1) := by decide +kernel
theorem dX7_pair_83 : decode cX7_pair 83 = .ok (.iand, 1) := by decide +kernel
theorem dX7_pair_84 : decode cX7_pair 84 = .ok (.invokevirtual 168, 3) := by decide +kernel
theorem dX7_pair_87 : decode cX7_pair 87 = .ok (.istore 7, 2) := by decide +kernel
theorem dX7_pair_89 : decode cX7_pair 89 = .ok (.iload_n 3, 1) := by decide +kernel
theorem dX7_pair_90 : decode cX7_pair 90 = .ok (.iconst (-1), 1) := by decide +kernel
theorem dX7_pair_91 : decode cX7_pair 91 = .ok (.if_icmp .eq 10, 3) := by decide +kernel
theorem dX7_pair_94 : decode cX7_pair 94 = .ok (.iload 7, 2) := by decide +kernel
theorem dX7_pair_96 : decode cX7_pair 96 = .ok (.iload 4, 2) := by decide +kernel
theorem dX7_pair_98 : decode cX7_pair 98 = .ok (.if_icmp .ge 16, 3) := by decide +kernel
theorem dX7_pair_101 : decode cX7_pair 101 = .ok (.bipush 10, 2) := by decide +kernel
theorem dX7_pair_103 : decode cX7_pair 103 = .ok (.iload 5, 2) := by decide +kernel
theorem dX7_pair_105 : decode cX7_pair 105 = .ok (.imul, 1) := by decide +kernel
theorem dX7_pair_106 : decode cX7_pair 106 = .ok (.iload 6, 2) := by decide +kernel
theorem dX7_pair_108 : decode cX7_pair 108 = .ok (.iadd, 1) := by decide +kernel
theorem dX7_pair_109 : decode cX7_pair 109 = .ok (.istore_n 3, 1) := by decide +kernel
theorem dX7_pair_110 : decode cX7_pair 110 = .ok (.iload 7, 2) := by decide +kernel
theorem dX7_pair_112 : decode cX7_pair 112 = .ok (.istore 4, 2) := by decide +kernel
theorem dX7_pair_114 : decode cX7_pair 114 = .ok (.iinc 6 1, 3) := by decide +kernel
theorem dX7_pair_117 : decode cX7_pair 117 = .ok (.goto (-73), 3) := by decide +kernel
theorem dX7_pair_120 : decode cX7_pair 120 = .ok (.iinc 5 1, 3) := by decide +kernel
theorem dX7_pair_123 : decode cX7_pair 123 = .ok (.goto (-94), 3) := by decide +kernel
theorem dX7_pair_126 : decode cX7_pair 126 = .ok (.iload_n 1, 1) := by decide +kernel
theorem dX7_pair_127 : decode cX7_pair 127 = .ok (.ifCond .eq 8, 3) := by decide +kernel
theorem dX7_pair_130 : decode cX7_pair 130 = .ok (.iload_n 3, 1) := by decide +kernel
theorem dX7_pair_131 : decode cX7_pair 131 = .ok (.iconst (-1), 1) := by decide +kernel
theorem dX7_pair_132 : decode cX7_pair 132 = .ok (.if_icmp .ne 7, 3) := by decide +kernel
theorem dX7_pair_135 : decode cX7_pair 135 = .ok (.iload_n 3, 1) := by decide +kernel
theorem dX7_pair_136 : decode cX7_pair 136 = .ok (.goto 5, 3) := by decide +kernel
theorem dX7_pair_139 : decode cX7_pair 139 = .ok (.iload 4, 2) := by decide +kernel
theorem dX7_pair_141 : decode cX7_pair 141 = .ok (.ireturn, 1) := by decide +kernel
theorem dX7_under_0 : decode cX7_under 0 = .ok (.iload_n 1, 1) := by decide +kernel
theorem dX7_under_1 : decode cX7_under 1 = .ok (.iconst 0, 1) := by decide +kernel
theorem dX7_under_2 : decode cX7_under 2 = .ok (.sipush 999, 3) := by decide +kernel
theorem dX7_under_5 : decode cX7_under 5 = .ok (.invokestatic 49, 3) := by decide +kernel
theorem dX7_under_8 : decode cX7_under 8 = .ok (.ifCond .ne 10, 3) := by decide +kernel
theorem dX7_under_11 : decode cX7_under 11 = .ok (.aload_n 0, 1) := by decide +kernel
theorem dX7_under_12 : decode cX7_under 12 = .ok (.bipush (-2), 2) := by decide +kernel
theorem dX7_under_14 : decode cX7_under 14 = .ok (.invokevirtual 81, 3) := by decide +kernel
theorem dX7_under_17 : decode cX7_under 17 = .ok (.ireturn, 1) := by decide +kernel
theorem dX7_under_18 : decode cX7_under 18 = .ok (.aload_n 0, 1) := by decide +kernel
theorem dX7_under_19 : decode cX7_under 19 = .ok (.invokevirtual 135, 3) := by decide +kernel
theorem dX7_under_22 : decode cX7_under 22 = .ok (.istore_n 2, 1) := by decide +kernel
theorem dX7_under_23 : decode cX7_under 23 = .ok (.iconst (-1), 1) := by decide +kernel
theorem dX7_under_24 : decode cX7_under 24 = .ok (.istore_n 3, 1) := by decide +kernel
theorem dX7_under_25 : decode cX7_under 25 = .ok (.iconst 0, 1) := by decide +kernel
theorem dX7_under_26 : decode cX7_under 26 = .ok (.istore 4, 2) := by decide +kernel
theorem dX7_under_28 : decode cX7_under 28 = .ok (.iload 4, 2) := by decide +kernel
theorem dX7_under_30 : decode cX7_under 30 = .ok (.iconst 1, 1) := by decide +kernel
theorem dX7_under_31 : decode cX7_under 31 = .ok (.aload_n 0, 1) := by decide +kernel
theorem dX7_under_32 : decode cX7_under 32 = .ok (.invokevirtual 57, 3) := by decide +kernel
theorem dX7_under_35 : decode cX7_under 35 = .ok (.ishl, 1) := by decide +kernel
theorem dX7_under_36 : decode cX7_under 36 = .ok (.if_icmp .ge 44, 3) := by decide +kernel
theorem dX7_under_39 : decode cX7_under 39 = .ok (.iload 4, 2) := by decide +kernel
theorem dX7_under_41 : decode cX7_under 41 = .ok (.iload_n 2, 1) := by decide +kernel
theorem dX7_under_42 : decode cX7_under 42 = .ok (.iconst (-1), 1) := by decide +kernel
theorem dX7_under_43 : decode cX7_under 43 = .ok (.ixor, 1) := by decide +kernel
theorem dX7_under_44 : decode cX7_under 44 = .ok (.iand, 1) := by decide +kernel
theorem dX7_under_45 : decode cX7_under 45 = .ok (.ifCond .ne 29, 3) := by decide +kernel
theorem dX7_under_48 : decode cX7_under 48 = .ok (.iload 4, 2) := by decide +kernel
theorem dX7_under_50 : decode cX7_under 50 = .ok (.iload_n 3, 1) := by decide +kernel
theorem dX7_under_51 : decode cX7_under 51 = .ok (.invokestatic 183, 3) := by decide +kernel
theorem dX7_under_54 : decode cX7_under 54 = .ok (.ifCond .eq 20, 3) := by decide +kernel
theorem dX7_under_57 : decode cX7_under 57 = .ok (.aload_n 0, 1) := by decide +kernel
theorem dX7_under_58 : decode cX7_under 58 = .ok (.iload_n 2, 1) := by decide +kernel
theorem dX7_under_59 : decode cX7_under 59 = .ok (.iload 4, 2) := by decide +kernel
theorem dX7_under_61 : decode cX7_under 61 = .ok (.iconst (-1), 1) := by decide +kernel
theorem dX7_under_62 : decode cX7_under 62 = .ok (.ixor, 1) := by decide +kernel
theorem dX7_under_63 : decode cX7_under 63 = .ok (.iand, 1) := by decide +kernel
theorem dX7_under_64 : decode cX7_under 64 = .ok (.invokevirtual 168, 3) := by decide +kernel
theorem dX7_under_67 : decode cX7_under 67 = .ok (.iload_n 1, 1) := by decide +kernel
theorem dX7_under_68 : decode cX7_under 68 = .ok (.if_icmp .gt 6, 3) := by decide +kernel
theorem dX7_under_71 : decode cX7_under 71 = .ok (.iload 4, 2) := by decide +kernel
theorem dX7_under_73 : decode cX7_under 73 = .ok (.istore_n 3, 1) := by decide +kernel
theorem dX7_under_74 : decode cX7_under 74 = .ok (.iinc 4 1, 3) := by decide +kernel
theorem dX7_under_77 : decode cX7_under 77 = .ok (.goto (-49), 3) := by decide +kernel
theorem dX7_under_80 : decode cX7_under 80 = .ok (.iload_n 3, 1) := by decide +kernel
theorem dX7_under_81 : decode cX7_under 81 = .ok (.ireturn, 1) := by decide +kernel
theorem dX7_pillar_0 : decode cX7_pillar 0 = .ok (.aload_n 0, 1) := by decide +kernel
theorem dX7_pillar_1 : decode cX7_pillar 1 = .ok (.invokevirtual 135, 3) := by decide +kernel
theorem dX7_pillar_4 : decode cX7_pillar 4 = .ok (.istore_n 1, 1) := by decide +kernel
theorem dX7_pillar_5 : decode cX7_pillar 5 = .ok (.aload_n 0, 1) := by decide +kernel
theorem dX7_pillar_6 : decode cX7_pillar 6 = .ok (.iload_n 1, 1) := by decide +kernel
theorem dX7_pillar_7 : decode cX7_pillar 7 = .ok (.invokevirtual 65, 3) := by decide +kernel
theorem dX7_pillar_10 : decode cX7_pillar 10 = .ok (.istore_n 2, 1) := by decide +kernel
theorem dX7_pillar_11 : decode cX7_pillar 11 = .ok (.iconst (-1), 1) := by decide +kernel
theorem dX7_pillar_12 : decode cX7_pillar 12 = .ok (.istore_n 3, 1) := by decide +kernel
theorem dX7_pillar_13 : decode cX7_pillar 13 = .ok (.iconst 0, 1) := by decide +kernel
theorem dX7_pillar_14 : decode cX7_pillar 14 = .ok (.istore 4, 2) := by decide +kernel
theorem dX7_pillar_16 : decode cX7_pillar 16 = .ok (.iconst 0, 1) := by decide +kernel
theorem dX7_pillar_17 : decode cX7_pillar 17 = .ok (.istore 5, 2) := by decide +kernel
theorem dX7_pillar_19 : decode cX7_pillar 19 = .ok (.iload 5, 2) := by decide +kernel
theorem dX7_pillar_21 : decode cX7_pillar 21 = .ok (.aload_n 0, 1) := by decide +kernel
theorem dX7_pillar_22 : decode cX7_pillar 22 = .ok (.invokevirtual 57, 3) := by decide +kernel
theorem dX7_pillar_25 : decode cX7_pillar 25 = .ok (.if_icmp .ge 52, 3) := by decide +kernel
theorem dX7_pillar_28 : decode cX7_pillar 28 = .ok (.iload_n 2, 1) := by decide +kernel
theorem dX7_pillar_29 : decode cX7_pillar 29 = .ok (.iload 5, 2) := by decide +kernel
theorem dX7_pillar_31 : decode cX7_pillar 31 = .ok (.ishr, 1) := by decide +kernel
theorem dX7_pillar_32 : decode cX7_pillar 32 = .ok (.iconst 1, 1) := by decide +kernel
theorem dX7_pillar_33 : decode cX7_pillar 33 = .ok (.iand, 1) := by decide +kernel
theorem dX7_pillar_34 : decode cX7_pillar 34 = .ok (.iconst 1, 1) := by decide +kernel
theorem dX7_pillar_35 : decode cX7_pillar 35 = .ok (.if_icmp .ne 36, 3) := by decide +kernel
theorem dX7_pillar_38 : decode cX7_pillar 38 = .ok (.aload_n 0, 1) := by decide +kernel
theorem dX7_pillar_39 : decode cX7_pillar 39 = .ok (.iload_n 1, 1) := by decide +kernel
theorem dX7_pillar_40 : decode cX7_pillar 40 = .ok (.iconst 1, 1) := by decide +kernel
theorem dX7_pillar_41 : decode cX7_pillar 41 = .ok (.iload 5, 2) := by decide +kernel
theorem dX7_pillar_43 : decode cX7_pillar 43 = .ok (.ishl, 1) := by decide +kernel
theorem dX7_pillar_44 : decode cX7_pillar 44 = .ok (.iconst (-1), 1) := by decide +kernel
theorem dX7_pillar_45 : decode cX7_pillar 45 = .ok (.ixor, 1) := by decide +kernel
theorem dX7_pillar_46 : decode cX7_pillar 46 = .ok (.iand, 1) := by decide +kernel
theorem dX7_pillar_47 : decode cX7_pillar 47 = .ok (.invokevirtual 168, 3) := by decide +kernel
theorem dX7_pillar_50 : decode cX7_pillar 50 = .ok (.istore 6, 2) := by decide +kernel
theorem dX7_pillar_52 : decode cX7_pillar 52 = .ok (.iload_n 3, 1) := by decide +kernel
theorem dX7_pillar_53 : decode cX7_pillar 53 = .ok (.iconst (-1), 1) := by decide +kernel
theorem dX7_pillar_54 : decode cX7_pillar 54 = .ok (.if_icmp .eq 10, 3) := by decide +kernel
theorem dX7_pillar_57 : decode cX7_pillar 57 = .ok (.iload 6, 2) := by decide +kernel
theorem dX7_pillar_59 : decode cX7_pillar 59 = .ok (.iload 4, 2) := by decide +kernel
theorem dX7_pillar_61 : decode cX7_pillar 61 = .ok (.if_icmp .ge 10, 3) := by decide +kernel
theorem dX7_pillar_64 : decode cX7_pillar 64 = .ok (.iload 5, 2) := by decide +kernel
theorem dX7_pillar_66 : decode cX7_pillar 66 = .ok (.istore_n 3, 1) := by decide +kernel
theorem dX7_pillar_67 : decode cX7_pillar 67 = .ok (.iload 6, 2) := by decide +kernel
theorem dX7_pillar_69 : decode cX7_pillar 69 = .ok (.istore 4, 2) := by decide +kernel
theorem dX7_pillar_71 : decode cX7_pillar 71 = .ok (.iinc 5 1, 3) := by decide +kernel
theorem dX7_pillar_74 : decode cX7_pillar 74 = .ok (.goto (-55), 3) := by decide +kernel
theorem dX7_pillar_77 : decode cX7_pillar 77 = .ok (.iload_n 3, 1) := by decide +kernel
theorem dX7_pillar_78 : decode cX7_pillar 78 = .ok (.ireturn, 1) := by decide +kernel
theorem dX7_ways_0 : decode cX7_ways 0 = .ok (.aload_n 0, 1) := by decide +kernel
theorem dX7_ways_1 : decode cX7_ways 1 = .ok (.iload_n 1, 1) := by decide +kernel
theorem dX7_ways_2 : decode cX7_ways 2 = .ok (.invokevirtual 180, 3) := by decide +kernel
theorem dX7_ways_5 : decode cX7_ways 5 = .ok (.ifCond .ne 10, 3) := by decide +kernel
theorem dX7_ways_8 : decode cX7_ways 8 = .ok (.aload_n 0, 1) := by decide +kernel
theorem dX7_ways_9 : decode cX7_ways 9 = .ok (.bipush (-2), 2) := by decide +kernel
theorem dX7_ways_11 : decode cX7_ways 11 = .ok (.invokevirtual 81, 3) := by decide +kernel
theorem dX7_ways_14 : decode cX7_ways 14 = .ok (.ireturn, 1) := by decide +kernel
theorem dX7_ways_15 : decode cX7_ways 15 = .ok (.iconst 0, 1) := by decide +kernel
theorem dX7_ways_16 : decode cX7_ways 16 = .ok (.istore_n 2, 1) := by decide +kernel
theorem dX7_ways_17 : decode cX7_ways 17 = .ok (.iconst 0, 1) := by decide +kernel
theorem dX7_ways_18 : decode cX7_ways 18 = .ok (.istore_n 3, 1) := by decide +kernel
theorem dX7_ways_19 : decode cX7_ways 19 = .ok (.iload_n 3, 1) := by decide +kernel
theorem dX7_ways_20 : decode cX7_ways 20 = .ok (.iconst 1, 1) := by decide +kernel
theorem dX7_ways_21 : decode cX7_ways 21 = .ok (.aload_n 0, 1) := by decide +kernel
theorem dX7_ways_22 : decode cX7_ways 22 = .ok (.invokevirtual 57, 3) := by decide +kernel
theorem dX7_ways_25 : decode cX7_ways 25 = .ok (.ishl, 1) := by decide +kernel
theorem dX7_ways_26 : decode cX7_ways 26 = .ok (.if_icmp .ge 26, 3) := by decide +kernel
theorem dX7_ways_29 : decode cX7_ways 29 = .ok (.iload_n 2, 1) := by decide +kernel
theorem dX7_ways_30 : decode cX7_ways 30 = .ok (.aload_n 0, 1) := by decide +kernel
theorem dX7_ways_31 : decode cX7_ways 31 = .ok (.iload_n 3, 1) := by decide +kernel
theorem dX7_ways_32 : decode cX7_ways 32 = .ok (.invokevirtual 65, 3) := by decide +kernel
theorem dX7_ways_35 : decode cX7_ways 35 = .ok (.iload_n 1, 1) := by decide +kernel
theorem dX7_ways_36 : decode cX7_ways 36 = .ok (.if_icmp .ne 7, 3) := by decide +kernel
theorem dX7_ways_39 : decode cX7_ways 39 = .ok (.iconst 1, 1) := by decide +kernel
theorem dX7_ways_40 : decode cX7_ways 40 = .ok (.goto 4, 3) := by decide +kernel
theorem dX7_ways_43 : decode cX7_ways 43 = .ok (.iconst 0, 1) := by decide +kernel
theorem dX7_ways_44 : decode cX7_ways 44 = .ok (.iadd, 1) := by decide +kernel
theorem dX7_ways_45 : decode cX7_ways 45 = .ok (.istore_n 2, 1) := by decide +kernel
theorem dX7_ways_46 : decode cX7_ways 46 = .ok (.iinc 3 1, 3) := by decide +kernel
theorem dX7_ways_49 : decode cX7_ways 49 = .ok (.goto (-30), 3) := by decide +kernel
theorem dX7_ways_52 : decode cX7_ways 52 = .ok (.iload_n 2, 1) := by decide +kernel
theorem dX7_ways_53 : decode cX7_ways 53 = .ok (.ireturn, 1) := by decide +kernel
theorem dX7_oldest_0 : decode cX7_oldest 0 = .ok (.iload_n 1, 1) := by decide +kernel
theorem dX7_oldest_1 : decode cX7_oldest 1 = .ok (.iconst 0, 1) := by decide +kernel
theorem dX7_oldest_2 : decode cX7_oldest 2 = .ok (.iconst 1, 1) := by decide +kernel
theorem dX7_oldest_3 : decode cX7_oldest 3 = .ok (.invokestatic 49, 3) := by decide +kernel
theorem dX7_oldest_6 : decode cX7_oldest 6 = .ok (.ifCond .ne 10, 3) := by decide +kernel
theorem dX7_oldest_9 : decode cX7_oldest 9 = .ok (.aload_n 0, 1) := by decide +kernel
theorem dX7_oldest_10 : decode cX7_oldest 10 = .ok (.bipush (-2), 2) := by decide +kernel
theorem dX7_oldest_12 : decode cX7_oldest 12 = .ok (.invokevirtual 81, 3) := by decide +kernel
theorem dX7_oldest_15 : decode cX7_oldest 15 = .ok (.ireturn, 1) := by decide +kernel
theorem dX7_oldest_16 : decode cX7_oldest 16 = .ok (.iconst (-1), 1) := by decide +kernel
theorem dX7_oldest_17 : decode cX7_oldest 17 = .ok (.istore_n 2, 1) := by decide +kernel
theorem dX7_oldest_18 : decode cX7_oldest 18 = .ok (.iconst 0, 1) := by decide +kernel
theorem dX7_oldest_19 : decode cX7_oldest 19 = .ok (.istore_n 3, 1) := by decide +kernel
theorem dX7_oldest_20 : decode cX7_oldest 20 = .ok (.iload_n 3, 1) := by decide +kernel
theorem dX7_oldest_21 : decode cX7_oldest 21 = .ok (.aload_n 0, 1) := by decide +kernel
theorem dX7_oldest_22 : decode cX7_oldest 22 = .ok (.invokevirtual 57, 3) := by decide +kernel
theorem dX7_oldest_25 : decode cX7_oldest 25 = .ok (.if_icmp .ge 79, 3) := by decide +kernel
theorem dX7_oldest_28 : decode cX7_oldest 28 = .ok (.aload_n 0, 1) := by decide +kernel
theorem dX7_oldest_29 : decode cX7_oldest 29 = .ok (.iload_n 3, 1) := by decide +kernel
theorem dX7_oldest_30 : decode cX7_oldest 30 = .ok (.iconst 3, 1) := by decide +kernel
theorem dX7_oldest_31 : decode cX7_oldest 31 = .ok (.invokevirtual 53, 3) := by decide +kernel
theorem dX7_oldest_34 : decode cX7_oldest 34 = .ok (.iconst 1, 1) := by decide +kernel
theorem dX7_oldest_35 : decode cX7_oldest 35 = .ok (.if_icmp .ne 63, 3) := by decide +kernel
theorem dX7_oldest_38 : decode cX7_oldest 38 = .ok (.iload_n 2, 1) := by decide +kernel
theorem dX7_oldest_39 : decode cX7_oldest 39 = .ok (.iconst (-1), 1) := by decide +kernel
theorem dX7_oldest_40 : decode cX7_oldest 40 = .ok (.if_icmp .eq 40, 3) := by decide +kernel
theorem dX7_oldest_43 : decode cX7_oldest 43 = .ok (.iload_n 1, 1) := by decide +kernel
theorem dX7_oldest_44 : decode cX7_oldest 44 = .ok (.ifCond .ne 21, 3) := by decide +kernel
theorem dX7_oldest_47 : decode cX7_oldest 47 = .ok (.aload_n 0, 1) := by decide +kernel
theorem dX7_oldest_48 : decode cX7_oldest 48 = .ok (.iload_n 3, 1) := by decide +kernel
theorem dX7_oldest_49 : decode cX7_oldest 49 = .ok (.iconst 4, 1) := by decide +kernel
theorem dX7_oldest_50 : decode cX7_oldest 50 = .ok (.invokevirtual 53, 3) := by decide +kernel
theorem dX7_oldest_53 : decode cX7_oldest 53 = .ok (.aload_n 0, 1) := by decide +kernel
theorem dX7_oldest_54 : decode cX7_oldest 54 = .ok (.iload_n 2, 1) := by decide +kernel
theorem dX7_oldest_55 : decode cX7_oldest 55 = .ok (.iconst 4, 1) := by decide +kernel
theorem dX7_oldest_56 : decode cX7_oldest 56 = .ok (.invokevirtual 53, 3) := by decide +kernel
theorem dX7_oldest_59 : decode cX7_oldest 59 = .ok (.if_icmp .le 25, 3) := by decide +kernel
theorem dX7_oldest_62 : decode cX7_oldest 62 = .ok (.goto 18, 3) := by decide +kernel
theorem dX7_oldest_65 : decode cX7_oldest 65 = .ok (.aload_n 0, 1) := by decide +kernel
theorem dX7_oldest_66 : decode cX7_oldest 66 = .ok (.iload_n 3, 1) := by decide +kernel
theorem dX7_oldest_67 : decode cX7_oldest 67 = .ok (.iconst 4, 1) := by decide +kernel
theorem dX7_oldest_68 : decode cX7_oldest 68 = .ok (.invokevirtual 53, 3) := by decide +kernel
theorem dX7_oldest_71 : decode cX7_oldest 71 = .ok (.aload_n 0, 1) := by decide +kernel
theorem dX7_oldest_72 : decode cX7_oldest 72 = .ok (.iload_n 2, 1) := by decide +kernel
theorem dX7_oldest_73 : decode cX7_oldest 73 = .ok (.iconst 4, 1) := by decide +kernel
theorem dX7_oldest_74 : decode cX7_oldest 74 = .ok (.invokevirtual 53, 3) := by decide +kernel
theorem dX7_oldest_77 : decode cX7_oldest 77 = .ok (.if_icmp .ge 7, 3) := by decide +kernel
theorem dX7_oldest_80 : decode cX7_oldest 80 = .ok (.iconst 1, 1) := by decide +kernel
theorem dX7_oldest_81 : decode cX7_oldest 81 = .ok (.goto 4, 3) := by decide +kernel
theorem dX7_oldest_84 : decode cX7_oldest 84 = .ok (.iconst 0, 1) := by decide +kernel
theorem dX7_oldest_85 : decode cX7_oldest 85 = .ok (.istore 4, 2) := by decide +kernel
theorem dX7_oldest_87 : decode cX7_oldest 87 = .ok (.iload 4, 2) := by decide +kernel
theorem dX7_oldest_89 : decode cX7_oldest 89 = .ok (.ifCond .eq 7, 3) := by decide +kernel
theorem dX7_oldest_92 : decode cX7_oldest 92 = .ok (.iload_n 3, 1) := by decide +kernel
theorem dX7_oldest_93 : decode cX7_oldest 93 = .ok (.goto 4, 3) := by decide +kernel
theorem dX7_oldest_96 : decode cX7_oldest 96 = .ok (.iload_n 2, 1) := by decide +kernel
theorem dX7_oldest_97 : decode cX7_oldest 97 = .ok (.istore_n 2, 1) := by decide +kernel
theorem dX7_oldest_98 : decode cX7_oldest 98 = .ok (.iinc 3 1, 3) := by decide +kernel
theorem dX7_oldest_101 : decode cX7_oldest 101 = .ok (.goto (-81), 3) := by decide +kernel
theorem dX7_oldest_104 : decode cX7_oldest 104 = .ok (.iload_n 2, 1) := by decide +kernel
theorem dX7_oldest_105 : decode cX7_oldest 105 = .ok (.ireturn, 1) := by decide +kernel
theorem dX7_free_0 : decode cX7_free 0 = .ok (.aload_n 0, 1) := by decide +kernel
theorem dX7_free_1 : decode cX7_free 1 = .ok (.iload_n 1, 1) := by decide +kernel
theorem dX7_free_2 : decode cX7_free 2 = .ok (.invokevirtual 90, 3) := by decide +kernel
theorem dX7_free_5 : decode cX7_free 5 = .ok (.ifCond .eq 13, 3) := by decide +kernel
theorem dX7_free_8 : decode cX7_free 8 = .ok (.aload_n 0, 1) := by decide +kernel
theorem dX7_free_9 : decode cX7_free 9 = .ok (.iload_n 1, 1) := by decide +kernel
theorem dX7_free_10 : decode cX7_free 10 = .ok (.iconst 2, 1) := by decide +kernel
theorem dX7_free_11 : decode cX7_free 11 = .ok (.iconst 0, 1) := by decide +kernel
theorem dX7_free_12 : decode cX7_free 12 = .ok (.invokevirtual 77, 3) := by decide +kernel
theorem dX7_free_15 : decode cX7_free 15 = .ok (.goto 9, 3) := by decide +kernel
theorem dX7_free_18 : decode cX7_free 18 = .ok (.aload_n 0, 1) := by decide +kernel
theorem dX7_free_19 : decode cX7_free 19 = .ok (.bipush (-2), 2) := by decide +kernel
theorem dX7_free_21 : decode cX7_free 21 = .ok (.invokevirtual 81, 3) := by decide +kernel
theorem dX7_free_24 : decode cX7_free 24 = .ok (.ireturn, 1) := by decide +kernel
theorem dX7_inWeather_0 : decode cX7_inWeather 0 = .ok (.iload_n 1, 1) := by decide +kernel
theorem dX7_inWeather_1 : decode cX7_inWeather 1 = .ok (.iconst 0, 1) := by decide +kernel
theorem dX7_inWeather_2 : decode cX7_inWeather 2 = .ok (.iconst 3, 1) := by decide +kernel
theorem dX7_inWeather_3 : decode cX7_inWeather 3 = .ok (.invokestatic 49, 3) := by decide +kernel
theorem dX7_inWeather_6 : decode cX7_inWeather 6 = .ok (.ifCond .ne 10, 3) := by decide +kernel
theorem dX7_inWeather_9 : decode cX7_inWeather 9 = .ok (.aload_n 0, 1) := by decide +kernel
theorem dX7_inWeather_10 : decode cX7_inWeather 10 = .ok (.bipush (-2), 2) := by decide +kernel
theorem dX7_inWeather_12 : decode cX7_inWeather 12 = .ok (.invokevirtual 81, 3) := by decide +kernel
theorem dX7_inWeather_15 : decode cX7_inWeather 15 = .ok (.ireturn, 1) := by decide +kernel
theorem dX7_inWeather_16 : decode cX7_inWeather 16 = .ok (.iconst 0, 1) := by decide +kernel
theorem dX7_inWeather_17 : decode cX7_inWeather 17 = .ok (.istore_n 2, 1) := by decide +kernel
theorem dX7_inWeather_18 : decode cX7_inWeather 18 = .ok (.iconst 0, 1) := by decide +kernel
theorem dX7_inWeather_19 : decode cX7_inWeather 19 = .ok (.istore_n 3, 1) := by decide +kernel
theorem dX7_inWeather_20 : decode cX7_inWeather 20 = .ok (.iload_n 3, 1) := by decide +kernel
theorem dX7_inWeather_21 : decode cX7_inWeather 21 = .ok (.aload_n 0, 1) := by decide +kernel
theorem dX7_inWeather_22 : decode cX7_inWeather 22 = .ok (.invokevirtual 57, 3) := by decide +kernel
theorem dX7_inWeather_25 : decode cX7_inWeather 25 = .ok (.if_icmp .ge 29, 3) := by decide +kernel
theorem dX7_inWeather_28 : decode cX7_inWeather 28 = .ok (.iload_n 2, 1) := by decide +kernel
theorem dX7_inWeather_29 : decode cX7_inWeather 29 = .ok (.aload_n 0, 1) := by decide +kernel
theorem dX7_inWeather_30 : decode cX7_inWeather 30 = .ok (.iload_n 3, 1) := by decide +kernel
theorem dX7_inWeather_31 : decode cX7_inWeather 31 = .ok (.iconst 1, 1) := by decide +kernel
theorem dX7_inWeather_32 : decode cX7_inWeather 32 = .ok (.invokevirtual 53, 3) := by decide +kernel
theorem dX7_inWeather_35 : decode cX7_inWeather 35 = .ok (.iload_n 1, 1) := by decide +kernel
theorem dX7_inWeather_36 : decode cX7_inWeather 36 = .ok (.if_icmp .ne 9, 3) := by decide +kernel
theorem dX7_inWeather_39 : decode cX7_inWeather 39 = .ok (.iconst 1, 1) := by decide +kernel
theorem dX7_inWeather_40 : decode cX7_inWeather 40 = .ok (.iload_n 3, 1) := by decide +kernel
theorem dX7_inWeather_41 : decode cX7_inWeather 41 = .ok (.ishl, 1) := by decide +kernel
theorem dX7_inWeather_42 : decode cX7_inWeather 42 = .ok (.goto 4, 3) := by decide +kernel
theorem dX7_inWeather_45 : decode cX7_inWeather 45 = .ok (.iconst 0, 1) := by decide +kernel
theorem dX7_inWeather_46 : decode cX7_inWeather 46 = .ok (.ior, 1) := by decide +kernel
theorem dX7_inWeather_47 : decode cX7_inWeather 47 = .ok (.istore_n 2, 1) := by decide +kernel
theorem dX7_inWeather_48 : decode cX7_inWeather 48 = .ok (.iinc 3 1, 3) := by decide +kernel
theorem dX7_inWeather_51 : decode cX7_inWeather 51 = .ok (.goto (-31), 3) := by decide +kernel
theorem dX7_inWeather_54 : decode cX7_inWeather 54 = .ok (.iload_n 2, 1) := by decide +kernel
theorem dX7_inWeather_55 : decode cX7_inWeather 55 = .ok (.ireturn, 1) := by decide +kernel
theorem dX7_chain_0 : decode cX7_chain 0 = .ok (.aload_n 0, 1) := by decide +kernel
theorem dX7_chain_1 : decode cX7_chain 1 = .ok (.iload_n 1, 1) := by decide +kernel
theorem dX7_chain_2 : decode cX7_chain 2 = .ok (.invokevirtual 90, 3) := by decide +kernel
theorem dX7_chain_5 : decode cX7_chain 5 = .ok (.ifCond .ne 10, 3) := by decide +kernel
theorem dX7_chain_8 : decode cX7_chain 8 = .ok (.aload_n 0, 1) := by decide +kernel
theorem dX7_chain_9 : decode cX7_chain 9 = .ok (.bipush (-2), 2) := by decide +kernel
theorem dX7_chain_11 : decode cX7_chain 11 = .ok (.invokevirtual 81, 3) := by decide +kernel
theorem dX7_chain_14 : decode cX7_chain 14 = .ok (.ireturn, 1) := by decide +kernel
theorem dX7_chain_15 : decode cX7_chain 15 = .ok (.iconst 1, 1) := by decide +kernel
theorem dX7_chain_16 : decode cX7_chain 16 = .ok (.iload_n 1, 1) := by decide +kernel
theorem dX7_chain_17 : decode cX7_chain 17 = .ok (.ishl, 1) := by decide +kernel
theorem dX7_chain_18 : decode cX7_chain 18 = .ok (.istore_n 2, 1) := by decide +kernel
theorem dX7_chain_19 : decode cX7_chain 19 = .ok (.iload_n 1, 1) := by decide +kernel
theorem dX7_chain_20 : decode cX7_chain 20 = .ok (.istore_n 3, 1) := by decide +kernel
theorem dX7_chain_21 : decode cX7_chain 21 = .ok (.aload_n 0, 1) := by decide +kernel
theorem dX7_chain_22 : decode cX7_chain 22 = .ok (.iload_n 1, 1) := by decide +kernel
theorem dX7_chain_23 : decode cX7_chain 23 = .ok (.invokevirtual 201, 3) := by decide +kernel
theorem dX7_chain_26 : decode cX7_chain 26 = .ok (.istore 4, 2) := by decide +kernel
theorem dX7_chain_28 : decode cX7_chain 28 = .ok (.iload 4, 2) := by decide +kernel
theorem dX7_chain_30 : decode cX7_chain 30 = .ok (.ifCond .le 54, 3) := by decide +kernel
theorem dX7_chain_33 : decode cX7_chain 33 = .ok (.iconst 0, 1) := by decide +kernel
theorem dX7_chain_34 : decode cX7_chain 34 = .ok (.istore 5, 2) := by decide +kernel
theorem dX7_chain_36 : decode cX7_chain 36 = .ok (.aload_n 0, 1) := by decide +kernel
theorem dX7_chain_37 : decode cX7_chain 37 = .ok (.iload_n 3, 1) := by decide +kernel
theorem dX7_chain_38 : decode cX7_chain 38 = .ok (.iconst 2, 1) := by decide +kernel
theorem dX7_chain_39 : decode cX7_chain 39 = .ok (.invokevirtual 53, 3) := by decide +kernel
theorem dX7_chain_42 : decode cX7_chain 42 = .ok (.iload 5, 2) := by decide +kernel
theorem dX7_chain_44 : decode cX7_chain 44 = .ok (.ishr, 1) := by decide +kernel
theorem dX7_chain_45 : decode cX7_chain 45 = .ok (.iconst 1, 1) := by decide +kernel
theorem dX7_chain_46 : decode cX7_chain 46 = .ok (.iand, 1) := by decide +kernel
theorem dX7_chain_47 : decode cX7_chain 47 = .ok (.ifCond .eq 16, 3) := by decide +kernel
theorem dX7_chain_50 : decode cX7_chain 50 = .ok (.aload_n 0, 1) := by decide +kernel
theorem dX7_chain_51 : decode cX7_chain 51 = .ok (.iload 5, 2) := by decide +kernel
theorem dX7_chain_53 : decode cX7_chain 53 = .ok (.invokevirtual 201, 3) := by decide +kernel
theorem dX7_chain_56 : decode cX7_chain 56 = .ok (.iload 4, 2) := by decide +kernel
theorem dX7_chain_58 : decode cX7_chain 58 = .ok (.iconst 1, 1) := by decide +kernel
theorem dX7_chain_59 : decode cX7_chain 59 = .ok (.isub, 1) := by decide +kernel
theorem dX7_chain_60 : decode cX7_chain 60 = .ok (.if_icmp .eq 9, 3) := by decide +kernel
theorem dX7_chain_63 : decode cX7_chain 63 = .ok (.iinc 5 1, 3) := by decide +kernel
theorem dX7_chain_66 : decode cX7_chain 66 = .ok (.goto (-30), 3) := by decide +kernel
theorem dX7_chain_69 : decode cX7_chain 69 = .ok (.iload 5, 2) := by decide +kernel
theorem dX7_chain_71 : decode cX7_chain 71 = .ok (.istore_n 3, 1) := by decide +kernel
theorem dX7_chain_72 : decode cX7_chain 72 = .ok (.iload_n 2, 1) := by decide +kernel
theorem dX7_chain_73 : decode cX7_chain 73 = .ok (.iconst 1, 1) := by decide +kernel
theorem dX7_chain_74 : decode cX7_chain 74 = .ok (.iload_n 3, 1) := by decide +kernel
theorem dX7_chain_75 : decode cX7_chain 75 = .ok (.ishl, 1) := by decide +kernel
theorem dX7_chain_76 : decode cX7_chain 76 = .ok (.ior, 1) := by decide +kernel
theorem dX7_chain_77 : decode cX7_chain 77 = .ok (.istore_n 2, 1) := by decide +kernel
theorem dX7_chain_78 : decode cX7_chain 78 = .ok (.iinc 4 (-1), 3) := by decide +kernel
theorem dX7_chain_81 : decode cX7_chain 81 = .ok (.goto (-53), 3) := by decide +kernel
theorem dX7_chain_84 : decode cX7_chain 84 = .ok (.iload_n 2, 1) := by decide +kernel
theorem dX7_chain_85 : decode cX7_chain 85 = .ok (.ireturn, 1) := by decide +kernel
theorem dX7_alone_0 : decode cX7_alone 0 = .ok (.aload_n 0, 1) := by decide +kernel
theorem dX7_alone_1 : decode cX7_alone 1 = .ok (.iload_n 1, 1) := by decide +kernel
theorem dX7_alone_2 : decode cX7_alone 2 = .ok (.invokevirtual 90, 3) := by decide +kernel
theorem dX7_alone_5 : decode cX7_alone 5 = .ok (.ifCond .eq 25, 3) := by decide +kernel
theorem dX7_alone_8 : decode cX7_alone 8 = .ok (.aload_n 0, 1) := by decide +kernel
theorem dX7_alone_9 : decode cX7_alone 9 = .ok (.iload_n 1, 1) := by decide +kernel
theorem dX7_alone_10 : decode cX7_alone 10 = .ok (.invokevirtual 174, 3) := by decide +kernel
theorem dX7_alone_13 : decode cX7_alone 13 = .ok (.iconst 1, 1) := by decide +kernel
theorem dX7_alone_14 : decode cX7_alone 14 = .ok (.iload_n 1, 1) := by decide +kernel
theorem dX7_alone_15 : decode cX7_alone 15 = .ok (.ishl, 1) := by decide +kernel
theorem dX7_alone_16 : decode cX7_alone 16 = .ok (.iconst (-1), 1) := by decide +kernel
theorem dX7_alone_17 : decode cX7_alone 17 = .ok (.ixor, 1) := by decide +kernel
theorem dX7_alone_18 : decode cX7_alone 18 = .ok (.iand, 1) := by decide +kernel
theorem dX7_alone_19 : decode cX7_alone 19 = .ok (.ifCond .ne 7, 3) := by decide +kernel
theorem dX7_alone_22 : decode cX7_alone 22 = .ok (.iconst 1, 1) := by decide +kernel
theorem dX7_alone_23 : decode cX7_alone 23 = .ok (.goto 13, 3) := by decide +kernel
theorem dX7_alone_26 : decode cX7_alone 26 = .ok (.iconst 0, 1) := by decide +kernel
theorem dX7_alone_27 : decode cX7_alone 27 = .ok (.goto 9, 3) := by decide +kernel
theorem dX7_alone_30 : decode cX7_alone 30 = .ok (.aload_n 0, 1) := by decide +kernel
theorem dX7_alone_31 : decode cX7_alone 31 = .ok (.bipush (-2), 2) := by decide +kernel
theorem dX7_alone_33 : decode cX7_alone 33 = .ok (.invokevirtual 81, 3) := by decide +kernel
theorem dX7_alone_36 : decode cX7_alone 36 = .ok (.ireturn, 1) := by decide +kernel
theorem dX7_ofKind_0 : decode cX7_ofKind 0 = .ok (.iload_n 1, 1) := by decide +kernel
theorem dX7_ofKind_1 : decode cX7_ofKind 1 = .ok (.iconst 0, 1) := by decide +kernel
theorem dX7_ofKind_2 : decode cX7_ofKind 2 = .ok (.iconst 5, 1) := by decide +kernel
theorem dX7_ofKind_3 : decode cX7_ofKind 3 = .ok (.invokestatic 49, 3) := by decide +kernel
theorem dX7_ofKind_6 : decode cX7_ofKind 6 = .ok (.ifCond .ne 10, 3) := by decide +kernel
theorem dX7_ofKind_9 : decode cX7_ofKind 9 = .ok (.aload_n 0, 1) := by decide +kernel
theorem dX7_ofKind_10 : decode cX7_ofKind 10 = .ok (.bipush (-2), 2) := by decide +kernel
theorem dX7_ofKind_12 : decode cX7_ofKind 12 = .ok (.invokevirtual 81, 3) := by decide +kernel
theorem dX7_ofKind_15 : decode cX7_ofKind 15 = .ok (.ireturn, 1) := by decide +kernel
theorem dX7_ofKind_16 : decode cX7_ofKind 16 = .ok (.iconst 0, 1) := by decide +kernel
theorem dX7_ofKind_17 : decode cX7_ofKind 17 = .ok (.istore_n 2, 1) := by decide +kernel
theorem dX7_ofKind_18 : decode cX7_ofKind 18 = .ok (.iconst 0, 1) := by decide +kernel
theorem dX7_ofKind_19 : decode cX7_ofKind 19 = .ok (.istore_n 3, 1) := by decide +kernel
theorem dX7_ofKind_20 : decode cX7_ofKind 20 = .ok (.iload_n 3, 1) := by decide +kernel
theorem dX7_ofKind_21 : decode cX7_ofKind 21 = .ok (.aload_n 0, 1) := by decide +kernel
theorem dX7_ofKind_22 : decode cX7_ofKind 22 = .ok (.getfield 13, 3) := by decide +kernel
theorem dX7_ofKind_25 : decode cX7_ofKind 25 = .ok (.bipush 69, 2) := by decide +kernel
theorem dX7_ofKind_27 : decode cX7_ofKind 27 = .ok (.iaload, 1) := by decide +kernel
theorem dX7_ofKind_28 : decode cX7_ofKind 28 = .ok (.if_icmp .ge 32, 3) := by decide +kernel
theorem dX7_ofKind_31 : decode cX7_ofKind 31 = .ok (.iload_n 2, 1) := by decide +kernel
theorem dX7_ofKind_32 : decode cX7_ofKind 32 = .ok (.aload_n 0, 1) := by decide +kernel
theorem dX7_ofKind_33 : decode cX7_ofKind 33 = .ok (.getfield 13, 3) := by decide +kernel
theorem dX7_ofKind_36 : decode cX7_ofKind 36 = .ok (.bipush 50, 2) := by decide +kernel
theorem dX7_ofKind_38 : decode cX7_ofKind 38 = .ok (.iconst 3, 1) := by decide +kernel
theorem dX7_ofKind_39 : decode cX7_ofKind 39 = .ok (.iload_n 3, 1) := by decide +kernel
theorem dX7_ofKind_40 : decode cX7_ofKind 40 = .ok (.imul, 1) := by decide +kernel
theorem dX7_ofKind_41 : decode cX7_ofKind 41 = .ok (.iadd, 1) := by decide +kernel
theorem dX7_ofKind_42 : decode cX7_ofKind 42 = .ok (.iaload, 1) := by decide +kernel
theorem dX7_ofKind_43 : decode cX7_ofKind 43 = .ok (.iload_n 1, 1) := by decide +kernel
theorem dX7_ofKind_44 : decode cX7_ofKind 44 = .ok (.if_icmp .ne 7, 3) := by decide +kernel
theorem dX7_ofKind_47 : decode cX7_ofKind 47 = .ok (.iconst 1, 1) := by decide +kernel
theorem dX7_ofKind_48 : decode cX7_ofKind 48 = .ok (.goto 4, 3) := by decide +kernel
theorem dX7_ofKind_51 : decode cX7_ofKind 51 = .ok (.iconst 0, 1) := by decide +kernel
theorem dX7_ofKind_52 : decode cX7_ofKind 52 = .ok (.iadd, 1) := by decide +kernel
theorem dX7_ofKind_53 : decode cX7_ofKind 53 = .ok (.istore_n 2, 1) := by decide +kernel
theorem dX7_ofKind_54 : decode cX7_ofKind 54 = .ok (.iinc 3 1, 3) := by decide +kernel
theorem dX7_ofKind_57 : decode cX7_ofKind 57 = .ok (.goto (-37), 3) := by decide +kernel
theorem dX7_ofKind_60 : decode cX7_ofKind 60 = .ok (.iload_n 2, 1) := by decide +kernel
theorem dX7_ofKind_61 : decode cX7_ofKind 61 = .ok (.ireturn, 1) := by decide +kernel
theorem dX7_isShelf_0 : decode cX7_isShelf 0 = .ok (.iload_n 0, 1) := by decide +kernel
theorem dX7_isShelf_1 : decode cX7_isShelf 1 = .ok (.iconst 0, 1) := by decide +kernel
theorem dX7_isShelf_2 : decode cX7_isShelf 2 = .ok (.bipush 7, 2) := by decide +kernel
theorem dX7_isShelf_4 : decode cX7_isShelf 4 = .ok (.invokestatic 49, 3) := by decide +kernel
theorem dX7_isShelf_7 : decode cX7_isShelf 7 = .ok (.ireturn, 1) := by decide +kernel
theorem dX7_row_0 : decode cX7_row 0 = .ok (.iload_n 1, 1) := by decide +kernel
theorem dX7_row_1 : decode cX7_row 1 = .ok (.invokestatic 204, 3) := by decide +kernel
theorem dX7_row_4 : decode cX7_row 4 = .ok (.ifCond .eq 22, 3) := by decide +kernel
theorem dX7_row_7 : decode cX7_row 7 = .ok (.iload_n 2, 1) := by decide +kernel
theorem dX7_row_8 : decode cX7_row 8 = .ok (.iconst 0, 1) := by decide +kernel
theorem dX7_row_9 : decode cX7_row 9 = .ok (.iconst 4, 1) := by decide +kernel
theorem dX7_row_10 : decode cX7_row 10 = .ok (.invokestatic 49, 3) := by decide +kernel
theorem dX7_row_13 : decode cX7_row 13 = .ok (.ifCond .eq 13, 3) := by decide +kernel
theorem dX7_row_16 : decode cX7_row 16 = .ok (.iload_n 3, 1) := by decide +kernel
theorem dX7_row_17 : decode cX7_row 17 = .ok (.iconst 0, 1) := by decide +kernel
theorem dX7_row_18 : decode cX7_row 18 = .ok (.bipush 40, 2) := by decide +kernel
theorem dX7_row_20 : decode cX7_row 20 = .ok (.invokestatic 49, 3) := by decide +kernel
theorem dX7_row_23 : decode cX7_row 23 = .ok (.ifCond .ne 10, 3) := by decide +kernel
theorem dX7_row_26 : decode cX7_row 26 = .ok (.aload_n 0, 1) := by decide +kernel
theorem dX7_row_27 : decode cX7_row 27 = .ok (.bipush (-2), 2) := by decide +kernel
theorem dX7_row_29 : decode cX7_row 29 = .ok (.invokevirtual 81, 3) := by decide +kernel
theorem dX7_row_32 : decode cX7_row 32 = .ok (.ireturn, 1) := by decide +kernel
theorem dX7_row_33 : decode cX7_row 33 = .ok (.aload_n 0, 1) := by decide +kernel
theorem dX7_row_34 : decode cX7_row 34 = .ok (.getfield 33, 3) := by decide +kernel
theorem dX7_row_37 : decode cX7_row 37 = .ok (.iload_n 1, 1) := by decide +kernel
theorem dX7_row_38 : decode cX7_row 38 = .ok (.iload_n 2, 1) := by decide +kernel
theorem dX7_row_39 : decode cX7_row 39 = .ok (.iastore, 1) := by decide +kernel
theorem dX7_row_40 : decode cX7_row 40 = .ok (.aload_n 0, 1) := by decide +kernel
theorem dX7_row_41 : decode cX7_row 41 = .ok (.getfield 36, 3) := by decide +kernel
theorem dX7_row_44 : decode cX7_row 44 = .ok (.iload_n 1, 1) := by decide +kernel
theorem dX7_row_45 : decode cX7_row 45 = .ok (.iload_n 3, 1) := by decide +kernel
theorem dX7_row_46 : decode cX7_row 46 = .ok (.iastore, 1) := by decide +kernel
theorem dX7_row_47 : decode cX7_row 47 = .ok (.iconst 0, 1) := by decide +kernel
theorem dX7_row_48 : decode cX7_row 48 = .ok (.istore 4, 2) := by decide +kernel
theorem dX7_row_50 : decode cX7_row 50 = .ok (.iload 4, 2) := by decide +kernel
theorem dX7_row_52 : decode cX7_row 52 = .ok (.bipush 40, 2) := by decide +kernel
theorem dX7_row_54 : decode cX7_row 54 = .ok (.if_icmp .ge 22, 3) := by decide +kernel
theorem dX7_row_57 : decode cX7_row 57 = .ok (.aload_n 0, 1) := by decide +kernel
theorem dX7_row_58 : decode cX7_row 58 = .ok (.getfield 39, 3) := by decide +kernel
theorem dX7_row_61 : decode cX7_row 61 = .ok (.bipush 40, 2) := by decide +kernel
theorem dX7_row_63 : decode cX7_row 63 = .ok (.iload_n 1, 1) := by decide +kernel
theorem dX7_row_64 : decode cX7_row 64 = .ok (.imul, 1) := by decide +kernel
theorem dX7_row_65 : decode cX7_row 65 = .ok (.iload 4, 2) := by decide +kernel
theorem dX7_row_67 : decode cX7_row 67 = .ok (.iadd, 1) := by decide +kernel
theorem dX7_row_68 : decode cX7_row 68 = .ok (.lconst 0, 1) := by decide +kernel
theorem dX7_row_69 : decode cX7_row 69 = .ok (.lastore, 1) := by decide +kernel
theorem dX7_row_70 : decode cX7_row 70 = .ok (.iinc 4 1, 3) := by decide +kernel
theorem dX7_row_73 : decode cX7_row 73 = .ok (.goto (-23), 3) := by decide +kernel
theorem dX7_row_76 : decode cX7_row 76 = .ok (.iconst 1, 1) := by decide +kernel
theorem dX7_row_77 : decode cX7_row 77 = .ok (.ireturn, 1) := by decide +kernel
theorem dX7_set_0 : decode cX7_set 0 = .ok (.iload_n 1, 1) := by decide +kernel
theorem dX7_set_1 : decode cX7_set 1 = .ok (.invokestatic 204, 3) := by decide +kernel
theorem dX7_set_4 : decode cX7_set 4 = .ok (.ifCond .ne 10, 3) := by decide +kernel
theorem dX7_set_7 : decode cX7_set 7 = .ok (.aload_n 0, 1) := by decide +kernel
theorem dX7_set_8 : decode cX7_set 8 = .ok (.bipush (-2), 2) := by decide +kernel
theorem dX7_set_10 : decode cX7_set 10 = .ok (.invokevirtual 81, 3) := by decide +kernel
theorem dX7_set_13 : decode cX7_set 13 = .ok (.ireturn, 1) := by decide +kernel
theorem dX7_set_14 : decode cX7_set 14 = .ok (.aload_n 0, 1) := by decide +kernel
theorem dX7_set_15 : decode cX7_set 15 = .ok (.getfield 33, 3) := by decide +kernel
theorem dX7_set_18 : decode cX7_set 18 = .ok (.iload_n 1, 1) := by decide +kernel
theorem dX7_set_19 : decode cX7_set 19 = .ok (.iaload, 1) := by decide +kernel
theorem dX7_set_20 : decode cX7_set 20 = .ok (.istore 5, 2) := by decide +kernel
theorem dX7_set_22 : decode cX7_set 22 = .ok (.iload 5, 2) := by decide +kernel
theorem dX7_set_24 : decode cX7_set 24 = .ok (.iconst 4, 1) := by decide +kernel
theorem dX7_set_25 : decode cX7_set 25 = .ok (.if_icmp .le 10, 3) := by decide +kernel
theorem dX7_set_28 : decode cX7_set 28 = .ok (.aload_n 0, 1) := by decide +kernel
theorem dX7_set_29 : decode cX7_set 29 = .ok (.bipush (-3), 2) := by decide +kernel
theorem dX7_set_31 : decode cX7_set 31 = .ok (.invokevirtual 81, 3) := by decide +kernel
theorem dX7_set_34 : decode cX7_set 34 = .ok (.ireturn, 1) := by decide +kernel
theorem dX7_set_35 : decode cX7_set 35 = .ok (.iload 5, 2) := by decide +kernel
theorem dX7_set_37 : decode cX7_set 37 = .ok (.iconst (-1), 1) := by decide +kernel
theorem dX7_set_38 : decode cX7_set 38 = .ok (.if_icmp .ne 10, 3) := by decide +kernel
theorem dX7_set_41 : decode cX7_set 41 = .ok (.aload_n 0, 1) := by decide +kernel
theorem dX7_set_42 : decode cX7_set 42 = .ok (.bipush (-4), 2) := by decide +kernel
theorem dX7_set_44 : decode cX7_set 44 = .ok (.invokevirtual 81, 3) := by decide +kernel
theorem dX7_set_47 : decode cX7_set 47 = .ok (.ireturn, 1) := by decide +kernel
theorem dX7_set_48 : decode cX7_set 48 = .ok (.iload_n 2, 1) := by decide +kernel
theorem dX7_set_49 : decode cX7_set 49 = .ok (.iconst 0, 1) := by decide +kernel
theorem dX7_set_50 : decode cX7_set 50 = .ok (.aload_n 0, 1) := by decide +kernel
theorem dX7_set_51 : decode cX7_set 51 = .ok (.getfield 36, 3) := by decide +kernel
theorem dX7_set_54 : decode cX7_set 54 = .ok (.iload_n 1, 1) := by decide +kernel
theorem dX7_set_55 : decode cX7_set 55 = .ok (.iaload, 1) := by decide +kernel
theorem dX7_set_56 : decode cX7_set 56 = .ok (.iconst 1, 1) := by decide +kernel
theorem dX7_set_57 : decode cX7_set 57 = .ok (.isub, 1) := by decide +kernel
theorem dX7_set_58 : decode cX7_set 58 = .ok (.invokestatic 49, 3) := by decide +kernel
theorem dX7_set_61 : decode cX7_set 61 = .ok (.ifCond .ne 10, 3) := by decide +kernel
theorem dX7_set_64 : decode cX7_set 64 = .ok (.aload_n 0, 1) := by decide +kernel
theorem dX7_set_65 : decode cX7_set 65 = .ok (.bipush (-2), 2) := by decide +kernel
theorem dX7_set_67 : decode cX7_set 67 = .ok (.invokevirtual 81, 3) := by decide +kernel
theorem dX7_set_70 : decode cX7_set 70 = .ok (.ireturn, 1) := by decide +kernel
theorem dX7_set_71 : decode cX7_set 71 = .ok (.aload_n 0, 1) := by decide +kernel
theorem dX7_set_72 : decode cX7_set 72 = .ok (.getfield 39, 3) := by decide +kernel
theorem dX7_set_75 : decode cX7_set 75 = .ok (.bipush 40, 2) := by decide +kernel
theorem dX7_set_77 : decode cX7_set 77 = .ok (.iload_n 1, 1) := by decide +kernel
theorem dX7_set_78 : decode cX7_set 78 = .ok (.imul, 1) := by decide +kernel
theorem dX7_set_79 : decode cX7_set 79 = .ok (.iload_n 2, 1) := by decide +kernel
theorem dX7_set_80 : decode cX7_set 80 = .ok (.iadd, 1) := by decide +kernel
theorem dX7_set_81 : decode cX7_set 81 = .ok (.iload 5, 2) := by decide +kernel
theorem dX7_set_83 : decode cX7_set 83 = .ok (.ifCond .ne 10, 3) := by decide +kernel
theorem dX7_set_86 : decode cX7_set 86 = .ok (.lload_n 3, 1) := by decide +kernel
theorem dX7_set_87 : decode cX7_set 87 = .ok (.l2i, 1) := by decide +kernel
theorem dX7_set_88 : decode cX7_set 88 = .ok (.i2b, 1) := by decide +kernel
theorem dX7_set_89 : decode cX7_set 89 = .ok (.i2l, 1) := by decide +kernel
theorem dX7_set_90 : decode cX7_set 90 = .ok (.goto 49, 3) := by decide +kernel
theorem dX7_set_93 : decode cX7_set 93 = .ok (.iload 5, 2) := by decide +kernel
theorem dX7_set_95 : decode cX7_set 95 = .ok (.iconst 1, 1) := by decide +kernel
theorem dX7_set_96 : decode cX7_set 96 = .ok (.if_icmp .ne 10, 3) := by decide +kernel
theorem dX7_set_99 : decode cX7_set 99 = .ok (.lload_n 3, 1) := by decide +kernel
theorem dX7_set_100 : decode cX7_set 100 = .ok (.l2i, 1) := by decide +kernel
theorem dX7_set_101 : decode cX7_set 101 = .ok (.i2s, 1) := by decide +kernel
theorem dX7_set_102 : decode cX7_set 102 = .ok (.i2l, 1) := by decide +kernel
theorem dX7_set_103 : decode cX7_set 103 = .ok (.goto 36, 3) := by decide +kernel
theorem dX7_set_106 : decode cX7_set 106 = .ok (.iload 5, 2) := by decide +kernel
theorem dX7_set_108 : decode cX7_set 108 = .ok (.iconst 2, 1) := by decide +kernel
theorem dX7_set_109 : decode cX7_set 109 = .ok (.if_icmp .ne 9, 3) := by decide +kernel
theorem dX7_set_112 : decode cX7_set 112 = .ok (.lload_n 3, 1) := by decide +kernel
theorem dX7_set_113 : decode cX7_set 113 = .ok (.l2i, 1) := by decide +kernel
theorem dX7_set_114 : decode cX7_set 114 = .ok (.i2l, 1) := by decide +kernel
theorem dX7_set_115 : decode cX7_set 115 = .ok (.goto 24, 3) := by decide +kernel
theorem dX7_set_118 : decode cX7_set 118 = .ok (.iload 5, 2) := by decide +kernel
theorem dX7_set_120 : decode cX7_set 120 = .ok (.iconst 3, 1) := by decide +kernel
theorem dX7_set_121 : decode cX7_set 121 = .ok (.if_icmp .ne 7, 3) := by decide +kernel
theorem dX7_set_124 : decode cX7_set 124 = .ok (.lload_n 3, 1) := by decide +kernel
theorem dX7_set_125 : decode cX7_set 125 = .ok (.goto 14, 3) := by decide +kernel
theorem dX7_set_128 : decode cX7_set 128 = .ok (.lload_n 3, 1) := by decide +kernel
theorem dX7_set_129 : decode cX7_set 129 = .ok (.lconst 0, 1) := by decide +kernel
theorem dX7_set_130 : decode cX7_set 130 = .ok (.lcmp, 1) := by decide +kernel
theorem dX7_set_131 : decode cX7_set 131 = .ok (.ifCond .eq 7, 3) := by decide +kernel
theorem dX7_set_134 : decode cX7_set 134 = .ok (.lconst 1, 1) := by decide +kernel
theorem dX7_set_135 : decode cX7_set 135 = .ok (.goto 4, 3) := by decide +kernel
theorem dX7_set_138 : decode cX7_set 138 = .ok (.lconst 0, 1) := by decide +kernel
theorem dX7_set_139 : decode cX7_set 139 = .ok (.lastore, 1) := by decide +kernel
theorem dX7_set_140 : decode cX7_set 140 = .ok (.iconst 1, 1) := by decide +kernel
theorem dX7_set_141 : decode cX7_set 141 = .ok (.ireturn, 1) := by decide +kernel
theorem dX7_copy_0 : decode cX7_copy 0 = .ok (.iload_n 1, 1) := by decide +kernel
theorem dX7_copy_1 : decode cX7_copy 1 = .ok (.invokestatic 204, 3) := by decide +kernel
theorem dX7_copy_4 : decode cX7_copy 4 = .ok (.ifCond .eq 10, 3) := by decide +kernel
theorem dX7_copy_7 : decode cX7_copy 7 = .ok (.iload_n 2, 1) := by decide +kernel
theorem dX7_copy_8 : decode cX7_copy 8 = .ok (.invokestatic 204, 3) := by decide +kernel
theorem dX7_copy_11 : decode cX7_copy 11 = .ok (.ifCond .ne 10, 3) := by decide +kernel
theorem dX7_copy_14 : decode cX7_copy 14 = .ok (.aload_n 0, 1) := by decide +kernel
theorem dX7_copy_15 : decode cX7_copy 15 = .ok (.bipush (-2), 2) := by decide +kernel
theorem dX7_copy_17 : decode cX7_copy 17 = .ok (.invokevirtual 81, 3) := by decide +kernel
theorem dX7_copy_20 : decode cX7_copy 20 = .ok (.ireturn, 1) := by decide +kernel
theorem dX7_copy_21 : decode cX7_copy 21 = .ok (.aload_n 0, 1) := by decide +kernel
theorem dX7_copy_22 : decode cX7_copy 22 = .ok (.getfield 33, 3) := by decide +kernel
theorem dX7_copy_25 : decode cX7_copy 25 = .ok (.iload_n 1, 1) := by decide +kernel
theorem dX7_copy_26 : decode cX7_copy 26 = .ok (.iaload, 1) := by decide +kernel
theorem dX7_copy_27 : decode cX7_copy 27 = .ok (.iconst 4, 1) := by decide +kernel
theorem dX7_copy_28 : decode cX7_copy 28 = .ok (.if_icmp .gt 48, 3) := by decide +kernel
theorem dX7_copy_31 : decode cX7_copy 31 = .ok (.aload_n 0, 1) := by decide +kernel
theorem dX7_copy_32 : decode cX7_copy 32 = .ok (.getfield 33, 3) := by decide +kernel
theorem dX7_copy_35 : decode cX7_copy 35 = .ok (.iload_n 2, 1) := by decide +kernel
theorem dX7_copy_36 : decode cX7_copy 36 = .ok (.iaload, 1) := by decide +kernel
theorem dX7_copy_37 : decode cX7_copy 37 = .ok (.iconst 4, 1) := by decide +kernel
theorem dX7_copy_38 : decode cX7_copy 38 = .ok (.if_icmp .gt 38, 3) := by decide +kernel
theorem dX7_copy_41 : decode cX7_copy 41 = .ok (.aload_n 0, 1) := by decide +kernel
theorem dX7_copy_42 : decode cX7_copy 42 = .ok (.getfield 33, 3) := by decide +kernel
theorem dX7_copy_45 : decode cX7_copy 45 = .ok (.iload_n 1, 1) := by decide +kernel
theorem dX7_copy_46 : decode cX7_copy 46 = .ok (.iaload, 1) := by decide +kernel
theorem dX7_copy_47 : decode cX7_copy 47 = .ok (.iconst (-1), 1) := by decide +kernel
theorem dX7_copy_48 : decode cX7_copy 48 = .ok (.if_icmp .eq 35, 3) := by decide +kernel
theorem dX7_copy_51 : decode cX7_copy 51 = .ok (.aload_n 0, 1) := by decide +kernel
theorem dX7_copy_52 : decode cX7_copy 52 = .ok (.getfield 33, 3) := by decide +kernel
theorem dX7_copy_55 : decode cX7_copy 55 = .ok (.iload_n 2, 1) := by decide +kernel
theorem dX7_copy_56 : decode cX7_copy 56 = .ok (.iaload, 1) := by decide +kernel
theorem dX7_copy_57 : decode cX7_copy 57 = .ok (.iconst (-1), 1) := by decide +kernel
theorem dX7_copy_58 : decode cX7_copy 58 = .ok (.if_icmp .eq 25, 3) := by decide +kernel
theorem dX7_copy_61 : decode cX7_copy 61 = .ok (.aload_n 0, 1) := by decide +kernel
theorem dX7_copy_62 : decode cX7_copy 62 = .ok (.getfield 33, 3) := by decide +kernel
theorem dX7_copy_65 : decode cX7_copy 65 = .ok (.iload_n 1, 1) := by decide +kernel
theorem dX7_copy_66 : decode cX7_copy 66 = .ok (.iaload, 1) := by decide +kernel
theorem dX7_copy_67 : decode cX7_copy 67 = .ok (.aload_n 0, 1) := by decide +kernel
theorem dX7_copy_68 : decode cX7_copy 68 = .ok (.getfield 33, 3) := by decide +kernel
theorem dX7_copy_71 : decode cX7_copy 71 = .ok (.iload_n 2, 1) := by decide +kernel
theorem dX7_copy_72 : decode cX7_copy 72 = .ok (.iaload, 1) := by decide +kernel
theorem dX7_copy_73 : decode cX7_copy 73 = .ok (.if_icmp .eq 10, 3) := by decide +kernel
theorem dX7_copy_76 : decode cX7_copy 76 = .ok (.aload_n 0, 1) := by decide +kernel
theorem dX7_copy_77 : decode cX7_copy 77 = .ok (.bipush (-3), 2) := by decide +kernel
theorem dX7_copy_79 : decode cX7_copy 79 = .ok (.invokevirtual 81, 3) := by decide +kernel
theorem dX7_copy_82 : decode cX7_copy 82 = .ok (.ireturn, 1) := by decide +kernel
theorem dX7_copy_83 : decode cX7_copy 83 = .ok (.aload_n 0, 1) := by decide +kernel
theorem dX7_copy_84 : decode cX7_copy 84 = .ok (.getfield 33, 3) := by decide +kernel
theorem dX7_copy_87 : decode cX7_copy 87 = .ok (.iload_n 1, 1) := by decide +kernel
theorem dX7_copy_88 : decode cX7_copy 88 = .ok (.iaload, 1) := by decide +kernel
theorem dX7_copy_89 : decode cX7_copy 89 = .ok (.iconst (-1), 1) := by decide +kernel
theorem dX7_copy_90 : decode cX7_copy 90 = .ok (.if_icmp .eq 13, 3) := by decide +kernel
theorem dX7_copy_93 : decode cX7_copy 93 = .ok (.aload_n 0, 1) := by decide +kernel
theorem dX7_copy_94 : decode cX7_copy 94 = .ok (.getfield 33, 3) := by decide +kernel
theorem dX7_copy_97 : decode cX7_copy 97 = .ok (.iload_n 2, 1) := by decide +kernel
theorem dX7_copy_98 : decode cX7_copy 98 = .ok (.iaload, 1) := by decide +kernel
theorem dX7_copy_99 : decode cX7_copy 99 = .ok (.iconst (-1), 1) := by decide +kernel
theorem dX7_copy_100 : decode cX7_copy 100 = .ok (.if_icmp .ne 10, 3) := by decide +kernel
theorem dX7_copy_103 : decode cX7_copy 103 = .ok (.aload_n 0, 1) := by decide +kernel
theorem dX7_copy_104 : decode cX7_copy 104 = .ok (.bipush (-4), 2) := by decide +kernel
theorem dX7_copy_106 : decode cX7_copy 106 = .ok (.invokevirtual 81, 3) := by decide +kernel
theorem dX7_copy_109 : decode cX7_copy 109 = .ok (.ireturn, 1) := by decide +kernel
theorem dX7_copy_110 : decode cX7_copy 110 = .ok (.iload 5, 2) := by decide +kernel
theorem dX7_copy_112 : decode cX7_copy 112 = .ok (.ifCond .lt 39, 3) := by decide +kernel
theorem dX7_copy_115 : decode cX7_copy 115 = .ok (.iload_n 3, 1) := by decide +kernel
theorem dX7_copy_116 : decode cX7_copy 116 = .ok (.ifCond .lt 35, 3) := by decide +kernel
theorem dX7_copy_119 : decode cX7_copy 119 = .ok (.iload 4, 2) := by decide +kernel
theorem dX7_copy_121 : decode cX7_copy 121 = .ok (.ifCond .lt 30, 3) := by decide +kernel
theorem dX7_copy_124 : decode cX7_copy 124 = .ok (.iload 5, 2) := by decide +kernel
theorem dX7_copy_126 : decode cX7_copy 126 = .ok (.aload_n 0, 1) := by decide +kernel
theorem dX7_copy_127 : decode cX7_copy 127 = .ok (.getfield 36, 3) := by decide +kernel
theorem dX7_copy_130 : decode cX7_copy 130 = .ok (.iload_n 1, 1) := by decide +kernel
theorem dX7_copy_131 : decode cX7_copy 131 = .ok (.iaload, 1) := by decide +kernel
theorem dX7_copy_132 : decode cX7_copy 132 = .ok (.iload_n 3, 1) := by decide +kernel
theorem dX7_copy_133 : decode cX7_copy 133 = .ok (.isub, 1) := by decide +kernel
theorem dX7_copy_134 : decode cX7_copy 134 = .ok (.if_icmp .gt 17, 3) := by decide +kernel
theorem dX7_copy_137 : decode cX7_copy 137 = .ok (.iload 5, 2) := by decide +kernel
theorem dX7_copy_139 : decode cX7_copy 139 = .ok (.aload_n 0, 1) := by decide +kernel
theorem dX7_copy_140 : decode cX7_copy 140 = .ok (.getfield 36, 3) := by decide +kernel
theorem dX7_copy_143 : decode cX7_copy 143 = .ok (.iload_n 2, 1) := by decide +kernel
theorem dX7_copy_144 : decode cX7_copy 144 = .ok (.iaload, 1) := by decide +kernel
theorem dX7_copy_145 : decode cX7_copy 145 = .ok (.iload 4, 2) := by decide +kernel
theorem dX7_copy_147 : decode cX7_copy 147 = .ok (.isub, 1) := by decide +kernel
theorem dX7_copy_148 : decode cX7_copy 148 = .ok (.if_icmp .le 10, 3) := by decide +kernel
theorem dX7_copy_151 : decode cX7_copy 151 = .ok (.aload_n 0, 1) := by decide +kernel
theorem dX7_copy_152 : decode cX7_copy 152 = .ok (.bipush (-2), 2) := by decide +kernel
theorem dX7_copy_154 : decode cX7_copy 154 = .ok (.invokevirtual 81, 3) := by decide +kernel
theorem dX7_copy_157 : decode cX7_copy 157 = .ok (.ireturn, 1) := by decide +kernel
theorem dX7_copy_158 : decode cX7_copy 158 = .ok (.iconst 0, 1) := by decide +kernel
theorem dX7_copy_159 : decode cX7_copy 159 = .ok (.istore 6, 2) := by decide +kernel
theorem dX7_copy_161 : decode cX7_copy 161 = .ok (.iload 6, 2) := by decide +kernel
theorem dX7_copy_163 : decode cX7_copy 163 = .ok (.iload 5, 2) := by decide +kernel
theorem dX7_copy_165 : decode cX7_copy 165 = .ok (.if_icmp .ge 30, 3) := by decide +kernel
theorem dX7_copy_168 : decode cX7_copy 168 = .ok (.aload_n 0, 1) := by decide +kernel
theorem dX7_copy_169 : decode cX7_copy 169 = .ok (.getfield 43, 3) := by decide +kernel
theorem dX7_copy_172 : decode cX7_copy 172 = .ok (.iload 6, 2) := by decide +kernel
theorem dX7_copy_174 : decode cX7_copy 174 = .ok (.aload_n 0, 1) := by decide +kernel
theorem dX7_copy_175 : decode cX7_copy 175 = .ok (.getfield 39, 3) := by decide +kernel
theorem dX7_copy_178 : decode cX7_copy 178 = .ok (.bipush 40, 2) := by decide +kernel
theorem dX7_copy_180 : decode cX7_copy 180 = .ok (.iload_n 1, 1) := by decide +kernel
theorem dX7_copy_181 : decode cX7_copy 181 = .ok (.imul, 1) := by decide +kernel
theorem dX7_copy_182 : decode cX7_copy 182 = .ok (.iload_n 3, 1) := by decide +kernel
theorem dX7_copy_183 : decode cX7_copy 183 = .ok (.iadd, 1) := by decide +kernel
theorem dX7_copy_184 : decode cX7_copy 184 = .ok (.iload 6, 2) := by decide +kernel
theorem dX7_copy_186 : decode cX7_copy 186 = .ok (.iadd, 1) := by decide +kernel
theorem dX7_copy_187 : decode cX7_copy 187 = .ok (.laload, 1) := by decide +kernel
theorem dX7_copy_188 : decode cX7_copy 188 = .ok (.lastore, 1) := by decide +kernel
theorem dX7_copy_189 : decode cX7_copy 189 = .ok (.iinc 6 1, 3) := by decide +kernel
theorem dX7_copy_192 : decode cX7_copy 192 = .ok (.goto (-31), 3) := by decide +kernel
theorem dX7_copy_195 : decode cX7_copy 195 = .ok (.iconst 0, 1) := by decide +kernel
theorem dX7_copy_196 : decode cX7_copy 196 = .ok (.istore 6, 2) := by decide +kernel
theorem dX7_copy_198 : decode cX7_copy 198 = .ok (.iload 6, 2) := by decide +kernel
theorem dX7_copy_200 : decode cX7_copy 200 = .ok (.iload 5, 2) := by decide +kernel
theorem dX7_copy_202 : decode cX7_copy 202 = .ok (.if_icmp .ge 31, 3) := by decide +kernel
theorem dX7_copy_205 : decode cX7_copy 205 = .ok (.aload_n 0, 1) := by decide +kernel
theorem dX7_copy_206 : decode cX7_copy 206 = .ok (.getfield 39, 3) := by decide +kernel
theorem dX7_copy_209 : decode cX7_copy 209 = .ok (.bipush 40, 2) := by decide +kernel
theorem dX7_copy_211 : decode cX7_copy 211 = .ok (.iload_n 2, 1) := by decide +kernel
theorem dX7_copy_212 : decode cX7_copy 212 = .ok (.imul, 1) := by decide +kernel
theorem dX7_copy_213 : decode cX7_copy 213 = .ok (.iload 4, 2) := by decide +kernel
theorem dX7_copy_215 : decode cX7_copy 215 = .ok (.iadd, 1) := by decide +kernel
theorem dX7_copy_216 : decode cX7_copy 216 = .ok (.iload 6, 2) := by decide +kernel
theorem dX7_copy_218 : decode cX7_copy 218 = .ok (.iadd, 1) := by decide +kernel
theorem dX7_copy_219 : decode cX7_copy 219 = .ok (.aload_n 0, 1) := by decide +kernel
theorem dX7_copy_220 : decode cX7_copy 220 = .ok (.getfield 43, 3) := by decide +kernel
theorem dX7_copy_223 : decode cX7_copy 223 = .ok (.iload 6, 2) := by decide +kernel
theorem dX7_copy_225 : decode cX7_copy 225 = .ok (.laload, 1) := by decide +kernel
theorem dX7_copy_226 : decode cX7_copy 226 = .ok (.lastore, 1) := by decide +kernel
theorem dX7_copy_227 : decode cX7_copy 227 = .ok (.iinc 6 1, 3) := by decide +kernel
theorem dX7_copy_230 : decode cX7_copy 230 = .ok (.goto (-32), 3) := by decide +kernel
theorem dX7_copy_233 : decode cX7_copy 233 = .ok (.iload 5, 2) := by decide +kernel
theorem dX7_copy_235 : decode cX7_copy 235 = .ok (.ireturn, 1) := by decide +kernel
theorem dX7_element_0 : decode cX7_element 0 = .ok (.iload_n 1, 1) := by decide +kernel
theorem dX7_element_1 : decode cX7_element 1 = .ok (.invokestatic 204, 3) := by decide +kernel
theorem dX7_element_4 : decode cX7_element 4 = .ok (.ifCond .eq 47, 3) := by decide +kernel
theorem dX7_element_7 : decode cX7_element 7 = .ok (.aload_n 0, 1) := by decide +kernel
theorem dX7_element_8 : decode cX7_element 8 = .ok (.getfield 33, 3) := by decide +kernel
theorem dX7_element_11 : decode cX7_element 11 = .ok (.iload_n 1, 1) := by decide +kernel
theorem dX7_element_12 : decode cX7_element 12 = .ok (.iaload, 1) := by decide +kernel
theorem dX7_element_13 : decode cX7_element 13 = .ok (.iconst 0, 1) := by decide +kernel
theorem dX7_element_14 : decode cX7_element 14 = .ok (.iconst 4, 1) := by decide +kernel
theorem dX7_element_15 : decode cX7_element 15 = .ok (.invokestatic 49, 3) := by decide +kernel
theorem dX7_element_18 : decode cX7_element 18 = .ok (.ifCond .eq 33, 3) := by decide +kernel
theorem dX7_element_21 : decode cX7_element 21 = .ok (.iload_n 2, 1) := by decide +kernel
theorem dX7_element_22 : decode cX7_element 22 = .ok (.iconst 0, 1) := by decide +kernel
theorem dX7_element_23 : decode cX7_element 23 = .ok (.aload_n 0, 1) := by decide +kernel
theorem dX7_element_24 : decode cX7_element 24 = .ok (.getfield 36, 3) := by decide +kernel
theorem dX7_element_27 : decode cX7_element 27 = .ok (.iload_n 1, 1) := by decide +kernel
theorem dX7_element_28 : decode cX7_element 28 = .ok (.iaload, 1) := by decide +kernel
theorem dX7_element_29 : decode cX7_element 29 = .ok (.iconst 1, 1) := by decide +kernel
theorem dX7_element_30 : decode cX7_element 30 = .ok (.isub, 1) := by decide +kernel
theorem dX7_element_31 : decode cX7_element 31 = .ok (.invokestatic 49, 3) := by decide +kernel
theorem dX7_element_34 : decode cX7_element 34 = .ok (.ifCond .eq 17, 3) := by decide +kernel
theorem dX7_element_37 : decode cX7_element 37 = .ok (.aload_n 0, 1) := by decide +kernel
theorem dX7_element_38 : decode cX7_element 38 = .ok (.getfield 39, 3) := by decide +kernel
theorem dX7_element_41 : decode cX7_element 41 = .ok (.bipush 40, 2) := by decide +kernel
theorem dX7_element_43 : decode cX7_element 43 = .ok (.iload_n 1, 1) := by decide +kernel
theorem dX7_element_44 : decode cX7_element 44 = .ok (.imul, 1) := by decide +kernel
theorem dX7_element_45 : decode cX7_element 45 = .ok (.iload_n 2, 1) := by decide +kernel
theorem dX7_element_46 : decode cX7_element 46 = .ok (.iadd, 1) := by decide +kernel
theorem dX7_element_47 : decode cX7_element 47 = .ok (.laload, 1) := by decide +kernel
theorem dX7_element_48 : decode cX7_element 48 = .ok (.goto 4, 3) := by decide +kernel
theorem dX7_element_51 : decode cX7_element 51 = .ok (.lconst 0, 1) := by decide +kernel
theorem dX7_element_52 : decode cX7_element 52 = .ok (.lreturn, 1) := by decide +kernel
theorem dX7_holds_0 : decode cX7_holds 0 = .ok (.iload_n 1, 1) := by decide +kernel
theorem dX7_holds_1 : decode cX7_holds 1 = .ok (.invokestatic 204, 3) := by decide +kernel
theorem dX7_holds_4 : decode cX7_holds 4 = .ok (.ifCond .eq 12, 3) := by decide +kernel
theorem dX7_holds_7 : decode cX7_holds 7 = .ok (.aload_n 0, 1) := by decide +kernel
theorem dX7_holds_8 : decode cX7_holds 8 = .ok (.getfield 33, 3) := by decide +kernel
theorem dX7_holds_11 : decode cX7_holds 11 = .ok (.iload_n 1, 1) := by decide +kernel
theorem dX7_holds_12 : decode cX7_holds 12 = .ok (.iaload, 1) := by decide +kernel
theorem dX7_holds_13 : decode cX7_holds 13 = .ok (.goto 4, 3) := by decide +kernel
theorem dX7_holds_16 : decode cX7_holds 16 = .ok (.iconst (-1), 1) := by decide +kernel
theorem dX7_holds_17 : decode cX7_holds 17 = .ok (.ireturn, 1) := by decide +kernel
theorem dX7_show_0 : decode cX7_show 0 = .ok (.iload_n 1, 1) := by decide +kernel
theorem dX7_show_1 : decode cX7_show 1 = .ok (.invokestatic 204, 3) := by decide +kernel
theorem dX7_show_4 : decode cX7_show 4 = .ok (.ifCond .eq 16, 3) := by decide +kernel
theorem dX7_show_7 : decode cX7_show 7 = .ok (.iload_n 2, 1) := by decide +kernel
theorem dX7_show_8 : decode cX7_show 8 = .ok (.iconst (-1), 1) := by decide +kernel
theorem dX7_show_9 : decode cX7_show 9 = .ok (.if_icmp .eq 18, 3) := by decide +kernel
theorem dX7_show_12 : decode cX7_show 12 = .ok (.aload_n 0, 1) := by decide +kernel
theorem dX7_show_13 : decode cX7_show 13 = .ok (.iload_n 2, 1) := by decide +kernel
theorem dX7_show_14 : decode cX7_show 14 = .ok (.invokevirtual 155, 3) := by decide +kernel
theorem dX7_show_17 : decode cX7_show 17 = .ok (.ifCond .ne 10, 3) := by decide +kernel
theorem dX7_show_20 : decode cX7_show 20 = .ok (.aload_n 0, 1) := by decide +kernel
theorem dX7_show_21 : decode cX7_show 21 = .ok (.bipush (-2), 2) := by decide +kernel
theorem dX7_show_23 : decode cX7_show 23 = .ok (.invokevirtual 81, 3) := by decide +kernel
theorem dX7_show_26 : decode cX7_show 26 = .ok (.ireturn, 1) := by decide +kernel
theorem dX7_show_27 : decode cX7_show 27 = .ok (.aload_n 0, 1) := by decide +kernel
theorem dX7_show_28 : decode cX7_show 28 = .ok (.getfield 33, 3) := by decide +kernel
theorem dX7_show_31 : decode cX7_show 31 = .ok (.iload_n 1, 1) := by decide +kernel
theorem dX7_show_32 : decode cX7_show 32 = .ok (.iload_n 2, 1) := by decide +kernel
theorem dX7_show_33 : decode cX7_show 33 = .ok (.iconst (-1), 1) := by decide +kernel
theorem dX7_show_34 : decode cX7_show 34 = .ok (.if_icmp .ne 7, 3) := by decide +kernel
theorem dX7_show_37 : decode cX7_show 37 = .ok (.iconst (-1), 1) := by decide +kernel
theorem dX7_show_38 : decode cX7_show 38 = .ok (.goto 7, 3) := by decide +kernel
theorem dX7_show_41 : decode cX7_show 41 = .ok (.bipush 10, 2) := by decide +kernel
theorem dX7_show_43 : decode cX7_show 43 = .ok (.iload_n 2, 1) := by decide +kernel
theorem dX7_show_44 : decode cX7_show 44 = .ok (.iadd, 1) := by decide +kernel
theorem dX7_show_45 : decode cX7_show 45 = .ok (.iastore, 1) := by decide +kernel
theorem dX7_show_46 : decode cX7_show 46 = .ok (.iconst 1, 1) := by decide +kernel
theorem dX7_show_47 : decode cX7_show 47 = .ok (.ireturn, 1) := by decide +kernel
theorem dX7_says_0 : decode cX7_says 0 = .ok (.iload_n 1, 1) := by decide +kernel
theorem dX7_says_1 : decode cX7_says 1 = .ok (.invokestatic 204, 3) := by decide +kernel
theorem dX7_says_4 : decode cX7_says 4 = .ok (.ifCond .eq 12, 3) := by decide +kernel
theorem dX7_says_7 : decode cX7_says 7 = .ok (.iload_n 2, 1) := by decide +kernel
theorem dX7_says_8 : decode cX7_says 8 = .ok (.iconst 0, 1) := by decide +kernel
theorem dX7_says_9 : decode cX7_says 9 = .ok (.iconst 5, 1) := by decide +kernel
theorem dX7_says_10 : decode cX7_says 10 = .ok (.invokestatic 49, 3) := by decide +kernel
theorem dX7_says_13 : decode cX7_says 13 = .ok (.ifCond .ne 10, 3) := by decide +kernel
theorem dX7_says_16 : decode cX7_says 16 = .ok (.aload_n 0, 1) := by decide +kernel
theorem dX7_says_17 : decode cX7_says 17 = .ok (.bipush (-2), 2) := by decide +kernel
theorem dX7_says_19 : decode cX7_says 19 = .ok (.invokevirtual 81, 3) := by decide +kernel
theorem dX7_says_22 : decode cX7_says 22 = .ok (.ireturn, 1) := by decide +kernel
theorem dX7_says_23 : decode cX7_says 23 = .ok (.aload_n 0, 1) := by decide +kernel
theorem dX7_says_24 : decode cX7_says 24 = .ok (.getfield 33, 3) := by decide +kernel
theorem dX7_says_27 : decode cX7_says 27 = .ok (.iload_n 1, 1) := by decide +kernel
theorem dX7_says_28 : decode cX7_says 28 = .ok (.iaload, 1) := by decide +kernel
theorem dX7_says_29 : decode cX7_says 29 = .ok (.iconst (-1), 1) := by decide +kernel
theorem dX7_says_30 : decode cX7_says 30 = .ok (.if_icmp .ne 10, 3) := by decide +kernel
theorem dX7_says_33 : decode cX7_says 33 = .ok (.aload_n 0, 1) := by decide +kernel
theorem dX7_says_34 : decode cX7_says 34 = .ok (.bipush (-4), 2) := by decide +kernel
theorem dX7_says_36 : decode cX7_says 36 = .ok (.invokevirtual 81, 3) := by decide +kernel
theorem dX7_says_39 : decode cX7_says 39 = .ok (.ireturn, 1) := by decide +kernel
theorem dX7_says_40 : decode cX7_says 40 = .ok (.aload_n 0, 1) := by decide +kernel
theorem dX7_says_41 : decode cX7_says 41 = .ok (.getfield 33, 3) := by decide +kernel
theorem dX7_says_44 : decode cX7_says 44 = .ok (.iload_n 1, 1) := by decide +kernel
theorem dX7_says_45 : decode cX7_says 45 = .ok (.iaload, 1) := by decide +kernel
theorem dX7_says_46 : decode cX7_says 46 = .ok (.bipush 10, 2) := by decide +kernel
theorem dX7_says_48 : decode cX7_says 48 = .ok (.if_icmp .ge 10, 3) := by decide +kernel
theorem dX7_says_51 : decode cX7_says 51 = .ok (.aload_n 0, 1) := by decide +kernel
theorem dX7_says_52 : decode cX7_says 52 = .ok (.bipush (-3), 2) := by decide +kernel
theorem dX7_says_54 : decode cX7_says 54 = .ok (.invokevirtual 81, 3) := by decide +kernel
theorem dX7_says_57 : decode cX7_says 57 = .ok (.ireturn, 1) := by decide +kernel
theorem dX7_says_58 : decode cX7_says 58 = .ok (.aload_n 0, 1) := by decide +kernel
theorem dX7_says_59 : decode cX7_says 59 = .ok (.getfield 33, 3) := by decide +kernel
theorem dX7_says_62 : decode cX7_says 62 = .ok (.iload_n 1, 1) := by decide +kernel
theorem dX7_says_63 : decode cX7_says 63 = .ok (.iaload, 1) := by decide +kernel
theorem dX7_says_64 : decode cX7_says 64 = .ok (.bipush 10, 2) := by decide +kernel
theorem dX7_says_66 : decode cX7_says 66 = .ok (.isub, 1) := by decide +kernel
theorem dX7_says_67 : decode cX7_says 67 = .ok (.istore_n 3, 1) := by decide +kernel
theorem dX7_says_68 : decode cX7_says 68 = .ok (.aload_n 0, 1) := by decide +kernel
theorem dX7_says_69 : decode cX7_says 69 = .ok (.getfield 13, 3) := by decide +kernel
theorem dX7_says_72 : decode cX7_says 72 = .ok (.bipush 50, 2) := by decide +kernel
theorem dX7_says_74 : decode cX7_says 74 = .ok (.iconst 3, 1) := by decide +kernel
theorem dX7_says_75 : decode cX7_says 75 = .ok (.iload_n 3, 1) := by decide +kernel
theorem dX7_says_76 : decode cX7_says 76 = .ok (.imul, 1) := by decide +kernel
theorem dX7_says_77 : decode cX7_says 77 = .ok (.iadd, 1) := by decide +kernel
theorem dX7_says_78 : decode cX7_says 78 = .ok (.iaload, 1) := by decide +kernel
theorem dX7_says_79 : decode cX7_says 79 = .ok (.istore 4, 2) := by decide +kernel
theorem dX7_says_81 : decode cX7_says 81 = .ok (.iload 4, 2) := by decide +kernel
theorem dX7_says_83 : decode cX7_says 83 = .ok (.iconst (-1), 1) := by decide +kernel
theorem dX7_says_84 : decode cX7_says 84 = .ok (.if_icmp .eq 21, 3) := by decide +kernel
theorem dX7_says_87 : decode cX7_says 87 = .ok (.iload 4, 2) := by decide +kernel
theorem dX7_says_89 : decode cX7_says 89 = .ok (.iload_n 2, 1) := by decide +kernel
theorem dX7_says_90 : decode cX7_says 90 = .ok (.if_icmp .eq 15, 3) := by decide +kernel
theorem dX7_says_93 : decode cX7_says 93 = .ok (.aload_n 0, 1) := by decide +kernel
theorem dX7_says_94 : decode cX7_says 94 = .ok (.getfield 46, 3) := by decide +kernel
theorem dX7_says_97 : decode cX7_says 97 = .ok (.iload 4, 2) := by decide +kernel
theorem dX7_says_99 : decode cX7_says 99 = .ok (.iaload, 1) := by decide +kernel
theorem dX7_says_100 : decode cX7_says 100 = .ok (.istore 4, 2) := by decide +kernel
theorem dX7_says_102 : decode cX7_says 102 = .ok (.goto (-21), 3) := by decide +kernel
theorem dX7_says_105 : decode cX7_says 105 = .ok (.iload 4, 2) := by decide +kernel
theorem dX7_says_107 : decode cX7_says 107 = .ok (.iconst (-1), 1) := by decide +kernel
theorem dX7_says_108 : decode cX7_says 108 = .ok (.if_icmp .ne 12, 3) := by decide +kernel
theorem dX7_says_111 : decode cX7_says 111 = .ok (.aload_n 0, 1) := by decide +kernel
theorem dX7_says_112 : decode cX7_says 112 = .ok (.bipush (-3), 2) := by decide +kernel
theorem dX7_says_114 : decode cX7_says 114 = .ok (.invokevirtual 81, 3) := by decide +kernel
theorem dX7_says_117 : decode cX7_says 117 = .ok (.goto 28, 3) := by decide +kernel
theorem dX7_says_120 : decode cX7_says 120 = .ok (.iload_n 2, 1) := by decide +kernel
theorem dX7_says_121 : decode cX7_says 121 = .ok (.ifCond .ne 19, 3) := by decide +kernel
theorem dX7_says_124 : decode cX7_says 124 = .ok (.aload_n 0, 1) := by decide +kernel
theorem dX7_says_125 : decode cX7_says 125 = .ok (.getfield 13, 3) := by decide +kernel
theorem dX7_says_128 : decode cX7_says 128 = .ok (.bipush 50, 2) := by decide +kernel
theorem dX7_says_130 : decode cX7_says 130 = .ok (.iconst 3, 1) := by decide +kernel
theorem dX7_says_131 : decode cX7_says 131 = .ok (.iload_n 3, 1) := by decide +kernel
theorem dX7_says_132 : decode cX7_says 132 = .ok (.imul, 1) := by decide +kernel
theorem dX7_says_133 : decode cX7_says 133 = .ok (.iadd, 1) := by decide +kernel
theorem dX7_says_134 : decode cX7_says 134 = .ok (.iconst 2, 1) := by decide +kernel
theorem dX7_says_135 : decode cX7_says 135 = .ok (.iadd, 1) := by decide +kernel
theorem dX7_says_136 : decode cX7_says 136 = .ok (.iaload, 1) := by decide +kernel
theorem dX7_says_137 : decode cX7_says 137 = .ok (.goto 8, 3) := by decide +kernel
theorem dX7_says_140 : decode cX7_says 140 = .ok (.aload_n 0, 1) := by decide +kernel
theorem dX7_says_141 : decode cX7_says 141 = .ok (.iload_n 3, 1) := by decide +kernel
theorem dX7_says_142 : decode cX7_says 142 = .ok (.invokevirtual 158, 3) := by decide +kernel
theorem dX7_says_145 : decode cX7_says 145 = .ok (.ireturn, 1) := by decide +kernel
theorem dX7_rings_0 : decode cX7_rings 0 = .ok (.aload_n 0, 1) := by decide +kernel
theorem dX7_rings_1 : decode cX7_rings 1 = .ok (.iload_n 1, 1) := by decide +kernel
theorem dX7_rings_2 : decode cX7_rings 2 = .ok (.iconst 3, 1) := by decide +kernel
theorem dX7_rings_3 : decode cX7_rings 3 = .ok (.invokevirtual 53, 3) := by decide +kernel
theorem dX7_rings_6 : decode cX7_rings 6 = .ok (.iconst 1, 1) := by decide +kernel
theorem dX7_rings_7 : decode cX7_rings 7 = .ok (.if_icmp .ne 14, 3) := by decide +kernel
theorem dX7_rings_10 : decode cX7_rings 10 = .ok (.aload_n 0, 1) := by decide +kernel
theorem dX7_rings_11 : decode cX7_rings 11 = .ok (.iload_n 1, 1) := by decide +kernel
theorem dX7_rings_12 : decode cX7_rings 12 = .ok (.iconst 3, 1) := by decide +kernel
theorem dX7_rings_13 : decode cX7_rings 13 = .ok (.iconst 0, 1) := by decide +kernel
theorem dX7_rings_14 : decode cX7_rings 14 = .ok (.invokevirtual 77, 3) := by decide +kernel
theorem dX7_rings_17 : decode cX7_rings 17 = .ok (.pop, 1) := by decide +kernel
theorem dX7_rings_18 : decode cX7_rings 18 = .ok (.goto 44, 3) := by decide +kernel
theorem dX7_rings_21 : decode cX7_rings 21 = .ok (.aload_n 0, 1) := by decide +kernel
theorem dX7_rings_22 : decode cX7_rings 22 = .ok (.iload_n 1, 1) := by decide +kernel
theorem dX7_rings_23 : decode cX7_rings 23 = .ok (.iconst 3, 1) := by decide +kernel
theorem dX7_rings_24 : decode cX7_rings 24 = .ok (.iconst 1, 1) := by decide +kernel
theorem dX7_rings_25 : decode cX7_rings 25 = .ok (.invokevirtual 77, 3) := by decide +kernel
theorem dX7_rings_28 : decode cX7_rings 28 = .ok (.pop, 1) := by decide +kernel
theorem dX7_rings_29 : decode cX7_rings 29 = .ok (.aload_n 0, 1) := by decide +kernel
theorem dX7_rings_30 : decode cX7_rings 30 = .ok (.iload_n 1, 1) := by decide +kernel
theorem dX7_rings_31 : decode cX7_rings 31 = .ok (.iconst 1, 1) := by decide +kernel
theorem dX7_rings_32 : decode cX7_rings 32 = .ok (.aload_n 0, 1) := by decide +kernel
theorem dX7_rings_33 : decode cX7_rings 33 = .ok (.getfield 13, 3) := by decide +kernel
theorem dX7_rings_36 : decode cX7_rings 36 = .ok (.bipush 70, 2) := by decide +kernel
theorem dX7_rings_38 : decode cX7_rings 38 = .ok (.iaload, 1) := by decide +kernel
theorem dX7_rings_39 : decode cX7_rings 39 = .ok (.invokevirtual 77, 3) := by decide +kernel
theorem dX7_rings_42 : decode cX7_rings 42 = .ok (.pop, 1) := by decide +kernel
theorem dX7_rings_43 : decode cX7_rings 43 = .ok (.aload_n 0, 1) := by decide +kernel
theorem dX7_rings_44 : decode cX7_rings 44 = .ok (.iload_n 1, 1) := by decide +kernel
theorem dX7_rings_45 : decode cX7_rings 45 = .ok (.iconst 4, 1) := by decide +kernel
theorem dX7_rings_46 : decode cX7_rings 46 = .ok (.iconst 0, 1) := by decide +kernel
theorem dX7_rings_47 : decode cX7_rings 47 = .ok (.aload_n 0, 1) := by decide +kernel
theorem dX7_rings_48 : decode cX7_rings 48 = .ok (.iload_n 1, 1) := by decide +kernel
theorem dX7_rings_49 : decode cX7_rings 49 = .ok (.iconst 4, 1) := by decide +kernel
theorem dX7_rings_50 : decode cX7_rings 50 = .ok (.invokevirtual 53, 3) := by decide +kernel
theorem dX7_rings_53 : decode cX7_rings 53 = .ok (.iconst 1, 1) := by decide +kernel
theorem dX7_rings_54 : decode cX7_rings 54 = .ok (.isub, 1) := by decide +kernel
theorem dX7_rings_55 : decode cX7_rings 55 = .ok (.invokestatic 146, 3) := by decide +kernel
theorem dX7_rings_58 : decode cX7_rings 58 = .ok (.invokevirtual 77, 3) := by decide +kernel
theorem dX7_rings_61 : decode cX7_rings 61 = .ok (.pop, 1) := by decide +kernel
theorem dX7_rings_62 : decode cX7_rings 62 = .ok (.return_, 1) := by decide +kernel
theorem dX7_peal_0 : decode cX7_peal 0 = .ok (.aload_n 0, 1) := by decide +kernel
theorem dX7_peal_1 : decode cX7_peal 1 = .ok (.getfield 33, 3) := by decide +kernel
theorem dX7_peal_4 : decode cX7_peal 4 = .ok (.iload_n 1, 1) := by decide +kernel
theorem dX7_peal_5 : decode cX7_peal 5 = .ok (.iaload, 1) := by decide +kernel
theorem dX7_peal_6 : decode cX7_peal 6 = .ok (.iconst 4, 1) := by decide +kernel
theorem dX7_peal_7 : decode cX7_peal 7 = .ok (.if_icmp .le 8, 3) := by decide +kernel
theorem dX7_peal_10 : decode cX7_peal 10 = .ok (.bipush (-3), 2) := by decide +kernel
theorem dX7_peal_12 : decode cX7_peal 12 = .ok (.goto 34, 3) := by decide +kernel
theorem dX7_peal_15 : decode cX7_peal 15 = .ok (.aload_n 0, 1) := by decide +kernel
theorem dX7_peal_16 : decode cX7_peal 16 = .ok (.getfield 33, 3) := by decide +kernel
theorem dX7_peal_19 : decode cX7_peal 19 = .ok (.iload_n 1, 1) := by decide +kernel
theorem dX7_peal_20 : decode cX7_peal 20 = .ok (.iaload, 1) := by decide +kernel
theorem dX7_peal_21 : decode cX7_peal 21 = .ok (.iconst (-1), 1) := by decide +kernel
theorem dX7_peal_22 : decode cX7_peal 22 = .ok (.if_icmp .ne 8, 3) := by decide +kernel
theorem dX7_peal_25 : decode cX7_peal 25 = .ok (.bipush (-4), 2) := by decide +kernel
theorem dX7_peal_27 : decode cX7_peal 27 = .ok (.goto 19, 3) := by decide +kernel
theorem dX7_peal_30 : decode cX7_peal 30 = .ok (.aload_n 0, 1) := by decide +kernel
theorem dX7_peal_31 : decode cX7_peal 31 = .ok (.getfield 36, 3) := by decide +kernel
theorem dX7_peal_34 : decode cX7_peal 34 = .ok (.iload_n 1, 1) := by decide +kernel
theorem dX7_peal_35 : decode cX7_peal 35 = .ok (.iaload, 1) := by decide +kernel
theorem dX7_peal_36 : decode cX7_peal 36 = .ok (.iload_n 2, 1) := by decide +kernel
theorem dX7_peal_37 : decode cX7_peal 37 = .ok (.if_icmp .ge 8, 3) := by decide +kernel
theorem dX7_peal_40 : decode cX7_peal 40 = .ok (.bipush (-2), 2) := by decide +kernel
theorem dX7_peal_42 : decode cX7_peal 42 = .ok (.goto 4, 3) := by decide +kernel
theorem dX7_peal_45 : decode cX7_peal 45 = .ok (.iconst 1, 1) := by decide +kernel
theorem dX7_peal_46 : decode cX7_peal 46 = .ok (.ireturn, 1) := by decide +kernel
theorem dX7_pealed_0 : decode cX7_pealed 0 = .ok (.iconst 0, 1) := by decide +kernel
theorem dX7_pealed_1 : decode cX7_pealed 1 = .ok (.istore_n 3, 1) := by decide +kernel
theorem dX7_pealed_2 : decode cX7_pealed 2 = .ok (.iload_n 3, 1) := by decide +kernel
theorem dX7_pealed_3 : decode cX7_pealed 3 = .ok (.iload_n 2, 1) := by decide +kernel
theorem dX7_pealed_4 : decode cX7_pealed 4 = .ok (.if_icmp .ge 59, 3) := by decide +kernel
theorem dX7_pealed_7 : decode cX7_pealed 7 = .ok (.aload_n 0, 1) := by decide +kernel
theorem dX7_pealed_8 : decode cX7_pealed 8 = .ok (.getfield 39, 3) := by decide +kernel
theorem dX7_pealed_11 : decode cX7_pealed 11 = .ok (.bipush 40, 2) := by decide +kernel
theorem dX7_pealed_13 : decode cX7_pealed 13 = .ok (.iload_n 1, 1) := by decide +kernel
theorem dX7_pealed_14 : decode cX7_pealed 14 = .ok (.imul, 1) := by decide +kernel
theorem dX7_pealed_15 : decode cX7_pealed 15 = .ok (.iload_n 3, 1) := by decide +kernel
theorem dX7_pealed_16 : decode cX7_pealed 16 = .ok (.iadd, 1) := by decide +kernel
theorem dX7_pealed_17 : decode cX7_pealed 17 = .ok (.laload, 1) := by decide +kernel
theorem dX7_pealed_18 : decode cX7_pealed 18 = .ok (.lstore 4, 2) := by decide +kernel
theorem dX7_pealed_20 : decode cX7_pealed 20 = .ok (.lload 4, 2) := by decide +kernel
theorem dX7_pealed_22 : decode cX7_pealed 22 = .ok (.lconst 0, 1) := by decide +kernel
theorem dX7_pealed_23 : decode cX7_pealed 23 = .ok (.lcmp, 1) := by decide +kernel
theorem dX7_pealed_24 : decode cX7_pealed 24 = .ok (.ifCond .lt 24, 3) := by decide +kernel
theorem dX7_pealed_27 : decode cX7_pealed 27 = .ok (.lload 4, 2) := by decide +kernel
theorem dX7_pealed_29 : decode cX7_pealed 29 = .ok (.aload_n 0, 1) := by decide +kernel
theorem dX7_pealed_30 : decode cX7_pealed 30 = .ok (.invokevirtual 57, 3) := by decide +kernel
theorem dX7_pealed_33 : decode cX7_pealed 33 = .ok (.i2l, 1) := by decide +kernel
theorem dX7_pealed_34 : decode cX7_pealed 34 = .ok (.lcmp, 1) := by decide +kernel
theorem dX7_pealed_35 : decode cX7_pealed 35 = .ok (.ifCond .ge 13, 3) := by decide +kernel
theorem dX7_pealed_38 : decode cX7_pealed 38 = .ok (.aload_n 0, 1) := by decide +kernel
theorem dX7_pealed_39 : decode cX7_pealed 39 = .ok (.lload 4, 2) := by decide +kernel
theorem dX7_pealed_41 : decode cX7_pealed 41 = .ok (.l2i, 1) := by decide +kernel
theorem dX7_pealed_42 : decode cX7_pealed 42 = .ok (.invokevirtual 138, 3) := by decide +kernel
theorem dX7_pealed_45 : decode cX7_pealed 45 = .ok (.ifCond .ne 5, 3) := by decide +kernel
theorem dX7_pealed_48 : decode cX7_pealed 48 = .ok (.iload_n 3, 1) := by decide +kernel
theorem dX7_pealed_49 : decode cX7_pealed 49 = .ok (.ireturn, 1) := by decide +kernel
theorem dX7_pealed_50 : decode cX7_pealed 50 = .ok (.aload_n 0, 1) := by decide +kernel
theorem dX7_pealed_51 : decode cX7_pealed 51 = .ok (.lload 4, 2) := by decide +kernel
theorem dX7_pealed_53 : decode cX7_pealed 53 = .ok (.l2i, 1) := by decide +kernel
theorem dX7_pealed_54 : decode cX7_pealed 54 = .ok (.invokevirtual 207, 3) := by decide +kernel
theorem dX7_pealed_57 : decode cX7_pealed 57 = .ok (.iinc 3 1, 3) := by decide +kernel
theorem dX7_pealed_60 : decode cX7_pealed 60 = .ok (.goto (-58), 3) := by decide +kernel
theorem dX7_pealed_63 : decode cX7_pealed 63 = .ok (.iconst (-1), 1) := by decide +kernel
theorem dX7_pealed_64 : decode cX7_pealed 64 = .ok (.ireturn, 1) := by decide +kernel
theorem dX7_judge_0 : decode cX7_judge 0 = .ok (.iload_n 1, 1) := by decide +kernel
theorem dX7_judge_1 : decode cX7_judge 1 = .ok (.invokestatic 204, 3) := by decide +kernel
theorem dX7_judge_4 : decode cX7_judge 4 = .ok (.ifCond .eq 13, 3) := by decide +kernel
theorem dX7_judge_7 : decode cX7_judge 7 = .ok (.iload_n 2, 1) := by decide +kernel
theorem dX7_judge_8 : decode cX7_judge 8 = .ok (.iconst 0, 1) := by decide +kernel
theorem dX7_judge_9 : decode cX7_judge 9 = .ok (.bipush 40, 2) := by decide +kernel
theorem dX7_judge_11 : decode cX7_judge 11 = .ok (.invokestatic 49, 3) := by decide +kernel
theorem dX7_judge_14 : decode cX7_judge 14 = .ok (.ifCond .ne 10, 3) := by decide +kernel
theorem dX7_judge_17 : decode cX7_judge 17 = .ok (.aload_n 0, 1) := by decide +kernel
theorem dX7_judge_18 : decode cX7_judge 18 = .ok (.bipush (-2), 2) := by decide +kernel
theorem dX7_judge_20 : decode cX7_judge 20 = .ok (.invokevirtual 81, 3) := by decide +kernel
theorem dX7_judge_23 : decode cX7_judge 23 = .ok (.ireturn, 1) := by decide +kernel
theorem dX7_judge_24 : decode cX7_judge 24 = .ok (.aload_n 0, 1) := by decide +kernel
theorem dX7_judge_25 : decode cX7_judge 25 = .ok (.iload_n 1, 1) := by decide +kernel
theorem dX7_judge_26 : decode cX7_judge 26 = .ok (.iload_n 2, 1) := by decide +kernel
theorem dX7_judge_27 : decode cX7_judge 27 = .ok (.invokevirtual 211, 3) := by decide +kernel
theorem dX7_judge_30 : decode cX7_judge 30 = .ok (.iconst 1, 1) := by decide +kernel
theorem dX7_judge_31 : decode cX7_judge 31 = .ok (.if_icmp .eq 14, 3) := by decide +kernel
theorem dX7_judge_34 : decode cX7_judge 34 = .ok (.aload_n 0, 1) := by decide +kernel
theorem dX7_judge_35 : decode cX7_judge 35 = .ok (.aload_n 0, 1) := by decide +kernel
theorem dX7_judge_36 : decode cX7_judge 36 = .ok (.iload_n 1, 1) := by decide +kernel
theorem dX7_judge_37 : decode cX7_judge 37 = .ok (.iload_n 2, 1) := by decide +kernel
theorem dX7_judge_38 : decode cX7_judge 38 = .ok (.invokevirtual 211, 3) := by decide +kernel
theorem dX7_judge_41 : decode cX7_judge 41 = .ok (.invokevirtual 81, 3) := by decide +kernel
theorem dX7_judge_44 : decode cX7_judge 44 = .ok (.ireturn, 1) := by decide +kernel
theorem dX7_judge_45 : decode cX7_judge 45 = .ok (.aload_n 0, 1) := by decide +kernel
theorem dX7_judge_46 : decode cX7_judge 46 = .ok (.getfield 13, 3) := by decide +kernel
theorem dX7_judge_49 : decode cX7_judge 49 = .ok (.aload_n 0, 1) := by decide +kernel
theorem dX7_judge_50 : decode cX7_judge 50 = .ok (.getfield 17, 3) := by decide +kernel
theorem dX7_judge_53 : decode cX7_judge 53 = .ok (.invokestatic 128, 3) := by decide +kernel
theorem dX7_judge_56 : decode cX7_judge 56 = .ok (.aload_n 0, 1) := by decide +kernel
theorem dX7_judge_57 : decode cX7_judge 57 = .ok (.iload_n 1, 1) := by decide +kernel
theorem dX7_judge_58 : decode cX7_judge 58 = .ok (.iload_n 2, 1) := by decide +kernel
theorem dX7_judge_59 : decode cX7_judge 59 = .ok (.invokevirtual 214, 3) := by decide +kernel
theorem dX7_judge_62 : decode cX7_judge 62 = .ok (.istore_n 3, 1) := by decide +kernel
theorem dX7_judge_63 : decode cX7_judge 63 = .ok (.aload_n 0, 1) := by decide +kernel
theorem dX7_judge_64 : decode cX7_judge 64 = .ok (.getfield 17, 3) := by decide +kernel
theorem dX7_judge_67 : decode cX7_judge 67 = .ok (.aload_n 0, 1) := by decide +kernel
theorem dX7_judge_68 : decode cX7_judge 68 = .ok (.getfield 13, 3) := by decide +kernel
theorem dX7_judge_71 : decode cX7_judge 71 = .ok (.invokestatic 128, 3) := by decide +kernel
theorem dX7_judge_74 : decode cX7_judge 74 = .ok (.iload_n 3, 1) := by decide +kernel
theorem dX7_judge_75 : decode cX7_judge 75 = .ok (.ireturn, 1) := by decide +kernel
theorem dX7_behind_0 : decode cX7_behind 0 = .ok (.iload_n 1, 1) := by decide +kernel
theorem dX7_behind_1 : decode cX7_behind 1 = .ok (.invokestatic 204, 3) := by decide +kernel
theorem dX7_behind_4 : decode cX7_behind 4 = .ok (.ifCond .eq 22, 3) := by decide +kernel
theorem dX7_behind_7 : decode cX7_behind 7 = .ok (.iload_n 2, 1) := by decide +kernel
theorem dX7_behind_8 : decode cX7_behind 8 = .ok (.iconst 0, 1) := by decide +kernel
theorem dX7_behind_9 : decode cX7_behind 9 = .ok (.bipush 40, 2) := by decide +kernel
theorem dX7_behind_11 : decode cX7_behind 11 = .ok (.invokestatic 49, 3) := by decide +kernel
theorem dX7_behind_14 : decode cX7_behind 14 = .ok (.ifCond .eq 12, 3) := by decide +kernel
theorem dX7_behind_17 : decode cX7_behind 17 = .ok (.iload_n 3, 1) := by decide +kernel
theorem dX7_behind_18 : decode cX7_behind 18 = .ok (.iconst 0, 1) := by decide +kernel
theorem dX7_behind_19 : decode cX7_behind 19 = .ok (.iconst 1, 1) := by decide +kernel
theorem dX7_behind_20 : decode cX7_behind 20 = .ok (.invokestatic 49, 3) := by decide +kernel
theorem dX7_behind_23 : decode cX7_behind 23 = .ok (.ifCond .ne 10, 3) := by decide +kernel
theorem dX7_behind_26 : decode cX7_behind 26 = .ok (.aload_n 0, 1) := by decide +kernel
theorem dX7_behind_27 : decode cX7_behind 27 = .ok (.bipush (-2), 2) := by decide +kernel
theorem dX7_behind_29 : decode cX7_behind 29 = .ok (.invokevirtual 81, 3) := by decide +kernel
theorem dX7_behind_32 : decode cX7_behind 32 = .ok (.ireturn, 1) := by decide +kernel
theorem dX7_behind_33 : decode cX7_behind 33 = .ok (.aload_n 0, 1) := by decide +kernel
theorem dX7_behind_34 : decode cX7_behind 34 = .ok (.iload_n 1, 1) := by decide +kernel
theorem dX7_behind_35 : decode cX7_behind 35 = .ok (.iload_n 2, 1) := by decide +kernel
theorem dX7_behind_36 : decode cX7_behind 36 = .ok (.invokevirtual 211, 3) := by decide +kernel
theorem dX7_behind_39 : decode cX7_behind 39 = .ok (.iconst 1, 1) := by decide +kernel
theorem dX7_behind_40 : decode cX7_behind 40 = .ok (.if_icmp .eq 14, 3) := by decide +kernel
theorem dX7_behind_43 : decode cX7_behind 43 = .ok (.aload_n 0, 1) := by decide +kernel
theorem dX7_behind_44 : decode cX7_behind 44 = .ok (.aload_n 0, 1) := by decide +kernel
theorem dX7_behind_45 : decode cX7_behind 45 = .ok (.iload_n 1, 1) := by decide +kernel
theorem dX7_behind_46 : decode cX7_behind 46 = .ok (.iload_n 2, 1) := by decide +kernel
theorem dX7_behind_47 : decode cX7_behind 47 = .ok (.invokevirtual 211, 3) := by decide +kernel
theorem dX7_behind_50 : decode cX7_behind 50 = .ok (.invokevirtual 81, 3) := by decide +kernel
theorem dX7_behind_53 : decode cX7_behind 53 = .ok (.ireturn, 1) := by decide +kernel
theorem dX7_behind_54 : decode cX7_behind 54 = .ok (.aload_n 0, 1) := by decide +kernel
theorem dX7_behind_55 : decode cX7_behind 55 = .ok (.getfield 13, 3) := by decide +kernel
theorem dX7_behind_58 : decode cX7_behind 58 = .ok (.aload_n 0, 1) := by decide +kernel
theorem dX7_behind_59 : decode cX7_behind 59 = .ok (.getfield 17, 3) := by decide +kernel
theorem dX7_behind_62 : decode cX7_behind 62 = .ok (.invokestatic 128, 3) := by decide +kernel
theorem dX7_behind_65 : decode cX7_behind 65 = .ok (.aload_n 0, 1) := by decide +kernel
theorem dX7_behind_66 : decode cX7_behind 66 = .ok (.iload_n 1, 1) := by decide +kernel
theorem dX7_behind_67 : decode cX7_behind 67 = .ok (.iload_n 2, 1) := by decide +kernel
theorem dX7_behind_68 : decode cX7_behind 68 = .ok (.invokevirtual 214, 3) := by decide +kernel
theorem dX7_behind_71 : decode cX7_behind 71 = .ok (.istore 4, 2) := by decide +kernel
theorem dX7_behind_73 : decode cX7_behind 73 = .ok (.iload_n 3, 1) := by decide +kernel
theorem dX7_behind_74 : decode cX7_behind 74 = .ok (.ifCond .ne 14, 3) := by decide +kernel
theorem dX7_behind_77 : decode cX7_behind 77 = .ok (.aload_n 0, 1) := by decide +kernel
theorem dX7_behind_78 : decode cX7_behind 78 = .ok (.aload_n 0, 1) := by decide +kernel
theorem dX7_behind_79 : decode cX7_behind 79 = .ok (.invokevirtual 135, 3) := by decide +kernel
theorem dX7_behind_82 : decode cX7_behind 82 = .ok (.invokevirtual 65, 3) := by decide +kernel
theorem dX7_behind_85 : decode cX7_behind 85 = .ok (.goto 11, 3) := by decide +kernel
theorem dX7_behind_88 : decode cX7_behind 88 = .ok (.aload_n 0, 1) := by decide +kernel
theorem dX7_behind_89 : decode cX7_behind 89 = .ok (.aload_n 0, 1) := by decide +kernel
theorem dX7_behind_90 : decode cX7_behind 90 = .ok (.invokevirtual 135, 3) := by decide +kernel
theorem dX7_behind_93 : decode cX7_behind 93 = .ok (.invokevirtual 168, 3) := by decide +kernel
theorem dX7_behind_96 : decode cX7_behind 96 = .ok (.istore 5, 2) := by decide +kernel
theorem dX7_behind_98 : decode cX7_behind 98 = .ok (.aload_n 0, 1) := by decide +kernel
theorem dX7_behind_99 : decode cX7_behind 99 = .ok (.getfield 17, 3) := by decide +kernel
theorem dX7_behind_102 : decode cX7_behind 102 = .ok (.aload_n 0, 1) := by decide +kernel
theorem dX7_behind_103 : decode cX7_behind 103 = .ok (.getfield 13, 3) := by decide +kernel
theorem dX7_behind_106 : decode cX7_behind 106 = .ok (.invokestatic 128, 3) := by decide +kernel
theorem dX7_behind_109 : decode cX7_behind 109 = .ok (.iload 4, 2) := by decide +kernel
theorem dX7_behind_111 : decode cX7_behind 111 = .ok (.iconst (-1), 1) := by decide +kernel
theorem dX7_behind_112 : decode cX7_behind 112 = .ok (.if_icmp .ne 8, 3) := by decide +kernel
theorem dX7_behind_115 : decode cX7_behind 115 = .ok (.iload 5, 2) := by decide +kernel
theorem dX7_behind_117 : decode cX7_behind 117 = .ok (.goto 9, 3) := by decide +kernel
theorem dX7_behind_120 : decode cX7_behind 120 = .ok (.aload_n 0, 1) := by decide +kernel
theorem dX7_behind_121 : decode cX7_behind 121 = .ok (.bipush (-5), 2) := by decide +kernel
theorem dX7_behind_123 : decode cX7_behind 123 = .ok (.invokevirtual 81, 3) := by decide +kernel
theorem dX7_behind_126 : decode cX7_behind 126 = .ok (.ireturn, 1) := by decide +kernel
theorem dX7_ring_0 : decode cX7_ring 0 = .ok (.aload_n 0, 1) := by decide +kernel
theorem dX7_ring_1 : decode cX7_ring 1 = .ok (.iload_n 1, 1) := by decide +kernel
theorem dX7_ring_2 : decode cX7_ring 2 = .ok (.invokevirtual 90, 3) := by decide +kernel
theorem dX7_ring_5 : decode cX7_ring 5 = .ok (.ifCond .ne 10, 3) := by decide +kernel
theorem dX7_ring_8 : decode cX7_ring 8 = .ok (.aload_n 0, 1) := by decide +kernel
theorem dX7_ring_9 : decode cX7_ring 9 = .ok (.bipush (-2), 2) := by decide +kernel
theorem dX7_ring_11 : decode cX7_ring 11 = .ok (.invokevirtual 81, 3) := by decide +kernel
theorem dX7_ring_14 : decode cX7_ring 14 = .ok (.ireturn, 1) := by decide +kernel
theorem dX7_ring_15 : decode cX7_ring 15 = .ok (.aload_n 0, 1) := by decide +kernel
theorem dX7_ring_16 : decode cX7_ring 16 = .ok (.iload_n 1, 1) := by decide +kernel
theorem dX7_ring_17 : decode cX7_ring 17 = .ok (.invokevirtual 138, 3) := by decide +kernel
theorem dX7_ring_20 : decode cX7_ring 20 = .ok (.ifCond .ne 10, 3) := by decide +kernel
theorem dX7_ring_23 : decode cX7_ring 23 = .ok (.aload_n 0, 1) := by decide +kernel
theorem dX7_ring_24 : decode cX7_ring 24 = .ok (.bipush (-5), 2) := by decide +kernel
theorem dX7_ring_26 : decode cX7_ring 26 = .ok (.invokevirtual 81, 3) := by decide +kernel
theorem dX7_ring_29 : decode cX7_ring 29 = .ok (.ireturn, 1) := by decide +kernel
theorem dX7_ring_30 : decode cX7_ring 30 = .ok (.aload_n 0, 1) := by decide +kernel
theorem dX7_ring_31 : decode cX7_ring 31 = .ok (.iload_n 1, 1) := by decide +kernel
theorem dX7_ring_32 : decode cX7_ring 32 = .ok (.invokevirtual 207, 3) := by decide +kernel
theorem dX7_ring_35 : decode cX7_ring 35 = .ok (.aload_n 0, 1) := by decide +kernel
theorem dX7_ring_36 : decode cX7_ring 36 = .ok (.aload_n 0, 1) := by decide +kernel
theorem dX7_ring_37 : decode cX7_ring 37 = .ok (.invokevirtual 135, 3) := by decide +kernel
theorem dX7_ring_40 : decode cX7_ring 40 = .ok (.invokevirtual 168, 3) := by decide +kernel
theorem dX7_ring_43 : decode cX7_ring 43 = .ok (.ireturn, 1) := by decide +kernel
theorem dX7_day_0 : decode cX7_day 0 = .ok (.aload_n 0, 1) := by decide +kernel
theorem dX7_day_1 : decode cX7_day 1 = .ok (.getfield 13, 3) := by decide +kernel
theorem dX7_day_4 : decode cX7_day 4 = .ok (.bipush 70, 2) := by decide +kernel
theorem dX7_day_6 : decode cX7_day 6 = .ok (.aload_n 0, 1) := by decide +kernel
theorem dX7_day_7 : decode cX7_day 7 = .ok (.getfield 13, 3) := by decide +kernel
theorem dX7_day_10 : decode cX7_day 10 = .ok (.bipush 70, 2) := by decide +kernel
theorem dX7_day_12 : decode cX7_day 12 = .ok (.iaload, 1) := by decide +kernel
theorem dX7_day_13 : decode cX7_day 13 = .ok (.iconst 1, 1) := by decide +kernel
theorem dX7_day_14 : decode cX7_day 14 = .ok (.iadd, 1) := by decide +kernel
theorem dX7_day_15 : decode cX7_day 15 = .ok (.iconst 4, 1) := by decide +kernel
theorem dX7_day_16 : decode cX7_day 16 = .ok (.irem, 1) := by decide +kernel
theorem dX7_day_17 : decode cX7_day 17 = .ok (.iastore, 1) := by decide +kernel
theorem dX7_day_18 : decode cX7_day 18 = .ok (.aload_n 0, 1) := by decide +kernel
theorem dX7_day_19 : decode cX7_day 19 = .ok (.getfield 13, 3) := by decide +kernel
theorem dX7_day_22 : decode cX7_day 22 = .ok (.bipush 70, 2) := by decide +kernel
theorem dX7_day_24 : decode cX7_day 24 = .ok (.iaload, 1) := by decide +kernel
theorem dX7_day_25 : decode cX7_day 25 = .ok (.ireturn, 1) := by decide +kernel
theorem dX7_draw_0 : decode cX7_draw 0 = .ok (.aload_n 0, 1) := by decide +kernel
theorem dX7_draw_1 : decode cX7_draw 1 = .ok (.getfield 13, 3) := by decide +kernel
theorem dX7_draw_4 : decode cX7_draw 4 = .ok (.bipush 73, 2) := by decide +kernel
theorem dX7_draw_6 : decode cX7_draw 6 = .ok (.aload_n 0, 1) := by decide +kernel
theorem dX7_draw_7 : decode cX7_draw 7 = .ok (.getfield 13, 3) := by decide +kernel
theorem dX7_draw_10 : decode cX7_draw 10 = .ok (.bipush 73, 2) := by decide +kernel
theorem dX7_draw_12 : decode cX7_draw 12 = .ok (.iaload, 1) := by decide +kernel
theorem dX7_draw_13 : decode cX7_draw 13 = .ok (.ldc 217, 2) := by decide +kernel
theorem dX7_draw_15 : decode cX7_draw 15 = .ok (.imul, 1) := by decide +kernel
theorem dX7_draw_16 : decode cX7_draw 16 = .ok (.sipush 12345, 3) := by decide +kernel
theorem dX7_draw_19 : decode cX7_draw 19 = .ok (.iadd, 1) := by decide +kernel
theorem dX7_draw_20 : decode cX7_draw 20 = .ok (.iastore, 1) := by decide +kernel
theorem dX7_draw_21 : decode cX7_draw 21 = .ok (.aload_n 0, 1) := by decide +kernel
theorem dX7_draw_22 : decode cX7_draw 22 = .ok (.getfield 13, 3) := by decide +kernel
theorem dX7_draw_25 : decode cX7_draw 25 = .ok (.bipush 73, 2) := by decide +kernel
theorem dX7_draw_27 : decode cX7_draw 27 = .ok (.iaload, 1) := by decide +kernel
theorem dX7_draw_28 : decode cX7_draw 28 = .ok (.bipush 16, 2) := by decide +kernel
theorem dX7_draw_30 : decode cX7_draw 30 = .ok (.iushr, 1) := by decide +kernel
theorem dX7_draw_31 : decode cX7_draw 31 = .ok (.iload_n 1, 1) := by decide +kernel
theorem dX7_draw_32 : decode cX7_draw 32 = .ok (.irem, 1) := by decide +kernel
theorem dX7_draw_33 : decode cX7_draw 33 = .ok (.ireturn, 1) := by decide +kernel
theorem dX7_year_0 : decode cX7_year 0 = .ok (.aload_n 0, 1) := by decide +kernel
theorem dX7_year_1 : decode cX7_year 1 = .ok (.getfield 13, 3) := by decide +kernel
theorem dX7_year_4 : decode cX7_year 4 = .ok (.bipush 71, 2) := by decide +kernel
theorem dX7_year_6 : decode cX7_year 6 = .ok (.sipush 999, 3) := by decide +kernel
theorem dX7_year_9 : decode cX7_year 9 = .ok (.aload_n 0, 1) := by decide +kernel
theorem dX7_year_10 : decode cX7_year 10 = .ok (.getfield 13, 3) := by decide +kernel
theorem dX7_year_13 : decode cX7_year 13 = .ok (.bipush 71, 2) := by decide +kernel
theorem dX7_year_15 : decode cX7_year 15 = .ok (.iaload, 1) := by decide +kernel
theorem dX7_year_16 : decode cX7_year 16 = .ok (.iconst 1, 1) := by decide +kernel
theorem dX7_year_17 : decode cX7_year 17 = .ok (.iadd, 1) := by decide +kernel
theorem dX7_year_18 : decode cX7_year 18 = .ok (.invokestatic 141, 3) := by decide +kernel
theorem dX7_year_21 : decode cX7_year 21 = .ok (.iastore, 1) := by decide +kernel
theorem dX7_year_22 : decode cX7_year 22 = .ok (.iconst 0, 1) := by decide +kernel
theorem dX7_year_23 : decode cX7_year 23 = .ok (.istore_n 1, 1) := by decide +kernel
theorem dX7_year_24 : decode cX7_year 24 = .ok (.iload_n 1, 1) := by decide +kernel
theorem dX7_year_25 : decode cX7_year 25 = .ok (.aload_n 0, 1) := by decide +kernel
theorem dX7_year_26 : decode cX7_year 26 = .ok (.invokevirtual 57, 3) := by decide +kernel
theorem dX7_year_29 : decode cX7_year 29 = .ok (.if_icmp .ge 34, 3) := by decide +kernel
theorem dX7_year_32 : decode cX7_year 32 = .ok (.aload_n 0, 1) := by decide +kernel
theorem dX7_year_33 : decode cX7_year 33 = .ok (.iload_n 1, 1) := by decide +kernel
theorem dX7_year_34 : decode cX7_year 34 = .ok (.iconst 4, 1) := by decide +kernel
theorem dX7_year_35 : decode cX7_year 35 = .ok (.bipush 99, 2) := by decide +kernel
theorem dX7_year_37 : decode cX7_year 37 = .ok (.aload_n 0, 1) := by decide +kernel
theorem dX7_year_38 : decode cX7_year 38 = .ok (.iload_n 1, 1) := by decide +kernel
theorem dX7_year_39 : decode cX7_year 39 = .ok (.iconst 4, 1) := by decide +kernel
theorem dX7_year_40 : decode cX7_year 40 = .ok (.invokevirtual 53, 3) := by decide +kernel
theorem dX7_year_43 : decode cX7_year 43 = .ok (.aload_n 0, 1) := by decide +kernel
theorem dX7_year_44 : decode cX7_year 44 = .ok (.iload_n 1, 1) := by decide +kernel
theorem dX7_year_45 : decode cX7_year 45 = .ok (.iconst 3, 1) := by decide +kernel
theorem dX7_year_46 : decode cX7_year 46 = .ok (.invokevirtual 53, 3) := by decide +kernel
theorem dX7_year_49 : decode cX7_year 49 = .ok (.iadd, 1) := by decide +kernel
theorem dX7_year_50 : decode cX7_year 50 = .ok (.invokestatic 141, 3) := by decide +kernel
theorem dX7_year_53 : decode cX7_year 53 = .ok (.invokevirtual 77, 3) := by decide +kernel
theorem dX7_year_56 : decode cX7_year 56 = .ok (.pop, 1) := by decide +kernel
theorem dX7_year_57 : decode cX7_year 57 = .ok (.iinc 1 1, 3) := by decide +kernel
theorem dX7_year_60 : decode cX7_year 60 = .ok (.goto (-36), 3) := by decide +kernel
theorem dX7_year_63 : decode cX7_year 63 = .ok (.aload_n 0, 1) := by decide +kernel
theorem dX7_year_64 : decode cX7_year 64 = .ok (.getfield 13, 3) := by decide +kernel
theorem dX7_year_67 : decode cX7_year 67 = .ok (.bipush 70, 2) := by decide +kernel
theorem dX7_year_69 : decode cX7_year 69 = .ok (.aload_n 0, 1) := by decide +kernel
theorem dX7_year_70 : decode cX7_year 70 = .ok (.iconst 4, 1) := by decide +kernel
theorem dX7_year_71 : decode cX7_year 71 = .ok (.invokevirtual 218, 3) := by decide +kernel
theorem dX7_year_74 : decode cX7_year 74 = .ok (.iastore, 1) := by decide +kernel
theorem dX7_year_75 : decode cX7_year 75 = .ok (.aload_n 0, 1) := by decide +kernel
theorem dX7_year_76 : decode cX7_year 76 = .ok (.aload_n 0, 1) := by decide +kernel
theorem dX7_year_77 : decode cX7_year 77 = .ok (.invokevirtual 57, 3) := by decide +kernel
theorem dX7_year_80 : decode cX7_year 80 = .ok (.invokevirtual 218, 3) := by decide +kernel
theorem dX7_year_83 : decode cX7_year 83 = .ok (.istore_n 1, 1) := by decide +kernel
theorem dX7_year_84 : decode cX7_year 84 = .ok (.iconst 0, 1) := by decide +kernel
theorem dX7_year_85 : decode cX7_year 85 = .ok (.istore_n 2, 1) := by decide +kernel
theorem dX7_year_86 : decode cX7_year 86 = .ok (.aload_n 0, 1) := by decide +kernel
theorem dX7_year_87 : decode cX7_year 87 = .ok (.getfield 13, 3) := by decide +kernel
theorem dX7_year_90 : decode cX7_year 90 = .ok (.bipush 69, 2) := by decide +kernel
theorem dX7_year_92 : decode cX7_year 92 = .ok (.iaload, 1) := by decide +kernel
theorem dX7_year_93 : decode cX7_year 93 = .ok (.ifCond .le 35, 3) := by decide +kernel
theorem dX7_year_96 : decode cX7_year 96 = .ok (.aload_n 0, 1) := by decide +kernel
theorem dX7_year_97 : decode cX7_year 97 = .ok (.aload_n 0, 1) := by decide +kernel
theorem dX7_year_98 : decode cX7_year 98 = .ok (.getfield 13, 3) := by decide +kernel
theorem dX7_year_101 : decode cX7_year 101 = .ok (.bipush 69, 2) := by decide +kernel
theorem dX7_year_103 : decode cX7_year 103 = .ok (.iaload, 1) := by decide +kernel
theorem dX7_year_104 : decode cX7_year 104 = .ok (.invokevirtual 218, 3) := by decide +kernel
theorem dX7_year_107 : decode cX7_year 107 = .ok (.istore_n 3, 1) := by decide +kernel
theorem dX7_year_108 : decode cX7_year 108 = .ok (.aload_n 0, 1) := by decide +kernel
theorem dX7_year_109 : decode cX7_year 109 = .ok (.bipush 100, 2) := by decide +kernel
theorem dX7_year_111 : decode cX7_year 111 = .ok (.invokevirtual 218, 3) := by decide +kernel
theorem dX7_year_114 : decode cX7_year 114 = .ok (.aload_n 0, 1) := by decide +kernel
theorem dX7_year_115 : decode cX7_year 115 = .ok (.iload_n 3, 1) := by decide +kernel
theorem dX7_year_116 : decode cX7_year 116 = .ok (.invokevirtual 158, 3) := by decide +kernel
theorem dX7_year_119 : decode cX7_year 119 = .ok (.if_icmp .ge 7, 3) := by decide +kernel
theorem dX7_year_122 : decode cX7_year 122 = .ok (.iconst 1, 1) := by decide +kernel
theorem dX7_year_123 : decode cX7_year 123 = .ok (.goto 4, 3) := by decide +kernel
theorem dX7_year_126 : decode cX7_year 126 = .ok (.iconst 0, 1) := by decide +kernel
theorem dX7_year_127 : decode cX7_year 127 = .ok (.istore_n 2, 1) := by decide +kernel
theorem dX7_year_128 : decode cX7_year 128 = .ok (.iload_n 2, 1) := by decide +kernel
theorem dX7_year_129 : decode cX7_year 129 = .ok (.ifCond .eq 14, 3) := by decide +kernel
theorem dX7_year_132 : decode cX7_year 132 = .ok (.iload_n 1, 1) := by decide +kernel
theorem dX7_year_133 : decode cX7_year 133 = .ok (.iconst 1, 1) := by decide +kernel
theorem dX7_year_134 : decode cX7_year 134 = .ok (.iadd, 1) := by decide +kernel
theorem dX7_year_135 : decode cX7_year 135 = .ok (.aload_n 0, 1) := by decide +kernel
theorem dX7_year_136 : decode cX7_year 136 = .ok (.invokevirtual 57, 3) := by decide +kernel
theorem dX7_year_139 : decode cX7_year 139 = .ok (.irem, 1) := by decide +kernel
theorem dX7_year_140 : decode cX7_year 140 = .ok (.goto 4, 3) := by decide +kernel
theorem dX7_year_143 : decode cX7_year 143 = .ok (.iload_n 1, 1) := by decide +kernel
theorem dX7_year_144 : decode cX7_year 144 = .ok (.istore_n 3, 1) := by decide +kernel
theorem dX7_year_145 : decode cX7_year 145 = .ok (.aload_n 0, 1) := by decide +kernel
theorem dX7_year_146 : decode cX7_year 146 = .ok (.iload_n 3, 1) := by decide +kernel
theorem dX7_year_147 : decode cX7_year 147 = .ok (.invokevirtual 138, 3) := by decide +kernel
theorem dX7_year_150 : decode cX7_year 150 = .ok (.ifCond .ne 7, 3) := by decide +kernel
theorem dX7_year_153 : decode cX7_year 153 = .ok (.iconst 0, 1) := by decide +kernel
theorem dX7_year_154 : decode cX7_year 154 = .ok (.goto 4, 3) := by decide +kernel
theorem dX7_year_157 : decode cX7_year 157 = .ok (.iconst 1, 1) := by decide +kernel
theorem dX7_year_158 : decode cX7_year 158 = .ok (.istore 4, 2) := by decide +kernel
theorem dX7_year_160 : decode cX7_year 160 = .ok (.iload 4, 2) := by decide +kernel
theorem dX7_year_162 : decode cX7_year 162 = .ok (.iconst 1, 1) := by decide +kernel
theorem dX7_year_163 : decode cX7_year 163 = .ok (.if_icmp .ne 8, 3) := by decide +kernel
theorem dX7_year_166 : decode cX7_year 166 = .ok (.aload_n 0, 1) := by decide +kernel
theorem dX7_year_167 : decode cX7_year 167 = .ok (.iload_n 3, 1) := by decide +kernel
theorem dX7_year_168 : decode cX7_year 168 = .ok (.invokevirtual 207, 3) := by decide +kernel
theorem dX7_year_171 : decode cX7_year 171 = .ok (.aload_n 0, 1) := by decide +kernel
theorem dX7_year_172 : decode cX7_year 172 = .ok (.bipush 8, 2) := by decide +kernel
theorem dX7_year_174 : decode cX7_year 174 = .ok (.invokevirtual 218, 3) := by decide +kernel
theorem dX7_year_177 : decode cX7_year 177 = .ok (.istore 5, 2) := by decide +kernel
theorem dX7_year_179 : decode cX7_year 179 = .ok (.aload_n 0, 1) := by decide +kernel
theorem dX7_year_180 : decode cX7_year 180 = .ok (.getfield 13, 3) := by decide +kernel
theorem dX7_year_183 : decode cX7_year 183 = .ok (.bipush 72, 2) := by decide +kernel
theorem dX7_year_185 : decode cX7_year 185 = .ok (.dup2, 1) := by decide +kernel
theorem dX7_year_186 : decode cX7_year 186 = .ok (.iaload, 1) := by decide +kernel
theorem dX7_year_187 : decode cX7_year 187 = .ok (.aload_n 0, 1) := by decide +kernel
theorem dX7_year_188 : decode cX7_year 188 = .ok (.bipush 10, 2) := by decide +kernel
theorem dX7_year_190 : decode cX7_year 190 = .ok (.invokevirtual 218, 3) := by decide +kernel
theorem dX7_year_193 : decode cX7_year 193 = .ok (.ifCond .ne 10, 3) := by decide +kernel
theorem dX7_year_196 : decode cX7_year 196 = .ok (.iconst 1, 1) := by decide +kernel
theorem dX7_year_197 : decode cX7_year 197 = .ok (.iload 5, 2) := by decide +kernel
theorem dX7_year_199 : decode cX7_year 199 = .ok (.ishl, 1) := by decide +kernel
theorem dX7_year_200 : decode cX7_year 200 = .ok (.goto 4, 3) := by decide +kernel
theorem dX7_year_203 : decode cX7_year 203 = .ok (.iconst 0, 1) := by decide +kernel
theorem dX7_year_204 : decode cX7_year 204 = .ok (.ior, 1) := by decide +kernel
theorem dX7_year_205 : decode cX7_year 205 = .ok (.iastore, 1) := by decide +kernel
theorem dX7_year_206 : decode cX7_year 206 = .ok (.iload 4, 2) := by decide +kernel
theorem dX7_year_208 : decode cX7_year 208 = .ok (.ireturn, 1) := by decide +kernel
theorem dX7_years_0 : decode cX7_years 0 = .ok (.iload_n 1, 1) := by decide +kernel
theorem dX7_years_1 : decode cX7_years 1 = .ok (.iconst 1, 1) := by decide +kernel
theorem dX7_years_2 : decode cX7_years 2 = .ok (.bipush 60, 2) := by decide +kernel
theorem dX7_years_4 : decode cX7_years 4 = .ok (.invokestatic 49, 3) := by decide +kernel
theorem dX7_years_7 : decode cX7_years 7 = .ok (.ifCond .ne 10, 3) := by decide +kernel
theorem dX7_years_10 : decode cX7_years 10 = .ok (.aload_n 0, 1) := by decide +kernel
theorem dX7_years_11 : decode cX7_years 11 = .ok (.bipush (-2), 2) := by decide +kernel
theorem dX7_years_13 : decode cX7_years 13 = .ok (.invokevirtual 81, 3) := by decide +kernel
theorem dX7_years_16 : decode cX7_years 16 = .ok (.ireturn, 1) := by decide +kernel
theorem dX7_years_17 : decode cX7_years 17 = .ok (.aload_n 0, 1) := by decide +kernel
theorem dX7_years_18 : decode cX7_years 18 = .ok (.invokevirtual 57, 3) := by decide +kernel
theorem dX7_years_21 : decode cX7_years 21 = .ok (.ifCond .ne 10, 3) := by decide +kernel
theorem dX7_years_24 : decode cX7_years 24 = .ok (.aload_n 0, 1) := by decide +kernel
theorem dX7_years_25 : decode cX7_years 25 = .ok (.bipush (-5), 2) := by decide +kernel
theorem dX7_years_27 : decode cX7_years 27 = .ok (.invokevirtual 81, 3) := by decide +kernel
theorem dX7_years_30 : decode cX7_years 30 = .ok (.ireturn, 1) := by decide +kernel
theorem dX7_years_31 : decode cX7_years 31 = .ok (.iconst 0, 1) := by decide +kernel
theorem dX7_years_32 : decode cX7_years 32 = .ok (.istore_n 2, 1) := by decide +kernel
theorem dX7_years_33 : decode cX7_years 33 = .ok (.iconst 0, 1) := by decide +kernel
theorem dX7_years_34 : decode cX7_years 34 = .ok (.istore_n 3, 1) := by decide +kernel
theorem dX7_years_35 : decode cX7_years 35 = .ok (.iload_n 3, 1) := by decide +kernel
theorem dX7_years_36 : decode cX7_years 36 = .ok (.iload_n 1, 1) := by decide +kernel
theorem dX7_years_37 : decode cX7_years 37 = .ok (.if_icmp .ge 16, 3) := by decide +kernel
theorem dX7_years_40 : decode cX7_years 40 = .ok (.iload_n 2, 1) := by decide +kernel
theorem dX7_years_41 : decode cX7_years 41 = .ok (.aload_n 0, 1) := by decide +kernel
theorem dX7_years_42 : decode cX7_years 42 = .ok (.invokevirtual 221, 3) := by decide +kernel
theorem dX7_years_45 : decode cX7_years 45 = .ok (.iadd, 1) := by decide +kernel
theorem dX7_years_46 : decode cX7_years 46 = .ok (.istore_n 2, 1) := by decide +kernel
theorem dX7_years_47 : decode cX7_years 47 = .ok (.iinc 3 1, 3) := by decide +kernel
theorem dX7_years_50 : decode cX7_years 50 = .ok (.goto (-15), 3) := by decide +kernel
theorem dX7_years_53 : decode cX7_years 53 = .ok (.iload_n 2, 1) := by decide +kernel
theorem dX7_years_54 : decode cX7_years 54 = .ok (.ireturn, 1) := by decide +kernel
theorem dX7_seed_0 : decode cX7_seed 0 = .ok (.aload_n 0, 1) := by decide +kernel
theorem dX7_seed_1 : decode cX7_seed 1 = .ok (.getfield 13, 3) := by decide +kernel
theorem dX7_seed_4 : decode cX7_seed 4 = .ok (.bipush 73, 2) := by decide +kernel
theorem dX7_seed_6 : decode cX7_seed 6 = .ok (.iaload, 1) := by decide +kernel
theorem dX7_seed_7 : decode cX7_seed 7 = .ok (.istore_n 2, 1) := by decide +kernel
theorem dX7_seed_8 : decode cX7_seed 8 = .ok (.aload_n 0, 1) := by decide +kernel
theorem dX7_seed_9 : decode cX7_seed 9 = .ok (.getfield 13, 3) := by decide +kernel
theorem dX7_seed_12 : decode cX7_seed 12 = .ok (.bipush 73, 2) := by decide +kernel
theorem dX7_seed_14 : decode cX7_seed 14 = .ok (.iload_n 1, 1) := by decide +kernel
theorem dX7_seed_15 : decode cX7_seed 15 = .ok (.iastore, 1) := by decide +kernel
theorem dX7_seed_16 : decode cX7_seed 16 = .ok (.iload_n 2, 1) := by decide +kernel
theorem dX7_seed_17 : decode cX7_seed 17 = .ok (.ireturn, 1) := by decide +kernel
theorem dX7_image_0 : decode cX7_image 0 = .ok (.aload_n 0, 1) := by decide +kernel
theorem dX7_image_1 : decode cX7_image 1 = .ok (.getfield 13, 3) := by decide +kernel
theorem dX7_image_4 : decode cX7_image 4 = .ok (.aload_n 0, 1) := by decide +kernel
theorem dX7_image_5 : decode cX7_image 5 = .ok (.getfield 20, 3) := by decide +kernel
theorem dX7_image_8 : decode cX7_image 8 = .ok (.invokestatic 128, 3) := by decide +kernel
theorem dX7_image_11 : decode cX7_image 11 = .ok (.aload_n 0, 1) := by decide +kernel
theorem dX7_image_12 : decode cX7_image 12 = .ok (.iconst 1, 1) := by decide +kernel
theorem dX7_image_13 : decode cX7_image 13 = .ok (.putfield 224, 3) := by decide +kernel
theorem dX7_image_16 : decode cX7_image 16 = .ok (.iconst 1, 1) := by decide +kernel
theorem dX7_image_17 : decode cX7_image 17 = .ok (.ireturn, 1) := by decide +kernel
theorem dX7_back_0 : decode cX7_back 0 = .ok (.aload_n 0, 1) := by decide +kernel
theorem dX7_back_1 : decode cX7_back 1 = .ok (.getfield 224, 3) := by decide +kernel
theorem dX7_back_4 : decode cX7_back 4 = .ok (.ifCond .ne 10, 3) := by decide +kernel
theorem dX7_back_7 : decode cX7_back 7 = .ok (.aload_n 0, 1) := by decide +kernel
theorem dX7_back_8 : decode cX7_back 8 = .ok (.bipush (-5), 2) := by decide +kernel
theorem dX7_back_10 : decode cX7_back 10 = .ok (.invokevirtual 81, 3) := by decide +kernel
theorem dX7_back_13 : decode cX7_back 13 = .ok (.ireturn, 1) := by decide +kernel
theorem dX7_back_14 : decode cX7_back 14 = .ok (.aload_n 0, 1) := by decide +kernel
theorem dX7_back_15 : decode cX7_back 15 = .ok (.getfield 20, 3) := by decide +kernel
theorem dX7_back_18 : decode cX7_back 18 = .ok (.aload_n 0, 1) := by decide +kernel
theorem dX7_back_19 : decode cX7_back 19 = .ok (.getfield 13, 3) := by decide +kernel
theorem dX7_back_22 : decode cX7_back 22 = .ok (.invokestatic 128, 3) := by decide +kernel
theorem dX7_back_25 : decode cX7_back 25 = .ok (.iconst 0, 1) := by decide +kernel
theorem dX7_back_26 : decode cX7_back 26 = .ok (.istore_n 1, 1) := by decide +kernel
theorem dX7_back_27 : decode cX7_back 27 = .ok (.iload_n 1, 1) := by decide +kernel
theorem dX7_back_28 : decode cX7_back 28 = .ok (.bipush 8, 2) := by decide +kernel
theorem dX7_back_30 : decode cX7_back 30 = .ok (.if_icmp .ge 44, 3) := by decide +kernel
theorem dX7_back_33 : decode cX7_back 33 = .ok (.aload_n 0, 1) := by decide +kernel
theorem dX7_back_34 : decode cX7_back 34 = .ok (.getfield 33, 3) := by decide +kernel
theorem dX7_back_37 : decode cX7_back 37 = .ok (.iload_n 1, 1) := by decide +kernel
theorem dX7_back_38 : decode cX7_back 38 = .ok (.aload_n 0, 1) := by decide +kernel
theorem dX7_back_39 : decode cX7_back 39 = .ok (.getfield 33, 3) := by decide +kernel
theorem dX7_back_42 : decode cX7_back 42 = .ok (.iload_n 1, 1) := by decide +kernel
theorem dX7_back_43 : decode cX7_back 43 = .ok (.iaload, 1) := by decide +kernel
theorem dX7_back_44 : decode cX7_back 44 = .ok (.bipush 10, 2) := by decide +kernel
theorem dX7_back_46 : decode cX7_back 46 = .ok (.aload_n 0, 1) := by decide +kernel
theorem dX7_back_47 : decode cX7_back 47 = .ok (.getfield 13, 3) := by decide +kernel
theorem dX7_back_50 : decode cX7_back 50 = .ok (.bipush 69, 2) := by decide +kernel
theorem dX7_back_52 : decode cX7_back 52 = .ok (.iaload, 1) := by decide +kernel
theorem dX7_back_53 : decode cX7_back 53 = .ok (.iadd, 1) := by decide +kernel
theorem dX7_back_54 : decode cX7_back 54 = .ok (.if_icmp .lt 7, 3) := by decide +kernel
theorem dX7_back_57 : decode cX7_back 57 = .ok (.iconst (-1), 1) := by decide +kernel
theorem dX7_back_58 : decode cX7_back 58 = .ok (.goto 9, 3) := by decide +kernel
theorem dX7_back_61 : decode cX7_back 61 = .ok (.aload_n 0, 1) := by decide +kernel
theorem dX7_back_62 : decode cX7_back 62 = .ok (.getfield 33, 3) := by decide +kernel
theorem dX7_back_65 : decode cX7_back 65 = .ok (.iload_n 1, 1) := by decide +kernel
theorem dX7_back_66 : decode cX7_back 66 = .ok (.iaload, 1) := by decide +kernel
theorem dX7_back_67 : decode cX7_back 67 = .ok (.iastore, 1) := by decide +kernel
theorem dX7_back_68 : decode cX7_back 68 = .ok (.iinc 1 1, 3) := by decide +kernel
theorem dX7_back_71 : decode cX7_back 71 = .ok (.goto (-44), 3) := by decide +kernel
theorem dX7_back_74 : decode cX7_back 74 = .ok (.iconst 1, 1) := by decide +kernel
theorem dX7_back_75 : decode cX7_back 75 = .ok (.ireturn, 1) := by decide +kernel
theorem dX7_status_0 : decode cX7_status 0 = .ok (.iconst 0, 1) := by decide +kernel
theorem dX7_status_1 : decode cX7_status 1 = .ok (.istore_n 2, 1) := by decide +kernel
theorem dX7_status_2 : decode cX7_status 2 = .ok (.iload_n 1, 1) := by decide +kernel
theorem dX7_status_3 : decode cX7_status 3 = .ok (.tableswitch 130 0 8 #[49, 54, 62, 62, 62, 74, 83, 88, 96], 49) := by decide +kernel
theorem dX7_status_52 : decode cX7_status 52 = .ok (.aload_n 0, 1) := by decide +kernel
theorem dX7_status_53 : decode cX7_status 53 = .ok (.invokevirtual 57, 3) := by decide +kernel
theorem dX7_status_56 : decode cX7_status 56 = .ok (.ireturn, 1) := by decide +kernel
theorem dX7_status_57 : decode cX7_status 57 = .ok (.aload_n 0, 1) := by decide +kernel
theorem dX7_status_58 : decode cX7_status 58 = .ok (.getfield 13, 3) := by decide +kernel
theorem dX7_status_61 : decode cX7_status 61 = .ok (.bipush 69, 2) := by decide +kernel
theorem dX7_status_63 : decode cX7_status 63 = .ok (.iaload, 1) := by decide +kernel
theorem dX7_status_64 : decode cX7_status 64 = .ok (.ireturn, 1) := by decide +kernel
theorem dX7_status_65 : decode cX7_status 65 = .ok (.aload_n 0, 1) := by decide +kernel
theorem dX7_status_66 : decode cX7_status 66 = .ok (.getfield 13, 3) := by decide +kernel
theorem dX7_status_69 : decode cX7_status 69 = .ok (.bipush 70, 2) := by decide +kernel
theorem dX7_status_71 : decode cX7_status 71 = .ok (.iload_n 1, 1) := by decide +kernel
theorem dX7_status_72 : decode cX7_status 72 = .ok (.iadd, 1) := by decide +kernel
theorem dX7_status_73 : decode cX7_status 73 = .ok (.iconst 2, 1) := by decide +kernel
theorem dX7_status_74 : decode cX7_status 74 = .ok (.isub, 1) := by decide +kernel
theorem dX7_status_75 : decode cX7_status 75 = .ok (.iaload, 1) := by decide +kernel
theorem dX7_status_76 : decode cX7_status 76 = .ok (.ireturn, 1) := by decide +kernel
theorem dX7_status_77 : decode cX7_status 77 = .ok (.aload_n 0, 1) := by decide +kernel
theorem dX7_status_78 : decode cX7_status 78 = .ok (.aload_n 0, 1) := by decide +kernel
theorem dX7_status_79 : decode cX7_status 79 = .ok (.invokevirtual 135, 3) := by decide +kernel
theorem dX7_status_82 : decode cX7_status 82 = .ok (.invokevirtual 168, 3) := by decide +kernel
theorem dX7_status_85 : decode cX7_status 85 = .ok (.ireturn, 1) := by decide +kernel
theorem dX7_status_86 : decode cX7_status 86 = .ok (.aload_n 0, 1) := by decide +kernel
theorem dX7_status_87 : decode cX7_status 87 = .ok (.getfield 93, 3) := by decide +kernel
theorem dX7_status_90 : decode cX7_status 90 = .ok (.ireturn, 1) := by decide +kernel
theorem dX7_status_91 : decode cX7_status 91 = .ok (.aload_n 0, 1) := by decide +kernel
theorem dX7_status_92 : decode cX7_status 92 = .ok (.getfield 13, 3) := by decide +kernel
theorem dX7_status_95 : decode cX7_status 95 = .ok (.bipush 73, 2) := by decide +kernel
theorem dX7_status_97 : decode cX7_status 97 = .ok (.iaload, 1) := by decide +kernel
theorem dX7_status_98 : decode cX7_status 98 = .ok (.ireturn, 1) := by decide +kernel
theorem dX7_status_99 : decode cX7_status 99 = .ok (.iconst 0, 1) := by decide +kernel
theorem dX7_status_100 : decode cX7_status 100 = .ok (.istore_n 3, 1) := by decide +kernel
theorem dX7_status_101 : decode cX7_status 101 = .ok (.iload_n 3, 1) := by decide +kernel
theorem dX7_status_102 : decode cX7_status 102 = .ok (.bipush 8, 2) := by decide +kernel
theorem dX7_status_104 : decode cX7_status 104 = .ok (.if_icmp .ge 27, 3) := by decide +kernel
theorem dX7_status_107 : decode cX7_status 107 = .ok (.iload_n 2, 1) := by decide +kernel
theorem dX7_status_108 : decode cX7_status 108 = .ok (.aload_n 0, 1) := by decide +kernel
theorem dX7_status_109 : decode cX7_status 109 = .ok (.getfield 33, 3) := by decide +kernel
theorem dX7_status_112 : decode cX7_status 112 = .ok (.iload_n 3, 1) := by decide +kernel
theorem dX7_status_113 : decode cX7_status 113 = .ok (.iaload, 1) := by decide +kernel
theorem dX7_status_114 : decode cX7_status 114 = .ok (.iconst (-1), 1) := by decide +kernel
theorem dX7_status_115 : decode cX7_status 115 = .ok (.if_icmp .ne 7, 3) := by decide +kernel
theorem dX7_status_118 : decode cX7_status 118 = .ok (.iconst 0, 1) := by decide +kernel
theorem dX7_status_119 : decode cX7_status 119 = .ok (.goto 4, 3) := by decide +kernel
theorem dX7_status_122 : decode cX7_status 122 = .ok (.iconst 1, 1) := by decide +kernel
theorem dX7_status_123 : decode cX7_status 123 = .ok (.iadd, 1) := by decide +kernel
theorem dX7_status_124 : decode cX7_status 124 = .ok (.istore_n 2, 1) := by decide +kernel
theorem dX7_status_125 : decode cX7_status 125 = .ok (.iinc 3 1, 3) := by decide +kernel
theorem dX7_status_128 : decode cX7_status 128 = .ok (.goto (-27), 3) := by decide +kernel
theorem dX7_status_131 : decode cX7_status 131 = .ok (.iload_n 2, 1) := by decide +kernel
theorem dX7_status_132 : decode cX7_status 132 = .ok (.ireturn, 1) := by decide +kernel
theorem dX7_status_133 : decode cX7_status 133 = .ok (.iload_n 1, 1) := by decide +kernel
theorem dX7_status_134 : decode cX7_status 134 = .ok (.bipush 12, 2) := by decide +kernel
theorem dX7_status_136 : decode cX7_status 136 = .ok (.bipush 16, 2) := by decide +kernel
theorem dX7_status_138 : decode cX7_status 138 = .ok (.invokestatic 49, 3) := by decide +kernel
theorem dX7_status_141 : decode cX7_status 141 = .ok (.ifCond .eq 15, 3) := by decide +kernel
theorem dX7_status_144 : decode cX7_status 144 = .ok (.aload_n 0, 1) := by decide +kernel
theorem dX7_status_145 : decode cX7_status 145 = .ok (.getfield 23, 3) := by decide +kernel
theorem dX7_status_148 : decode cX7_status 148 = .ok (.iload_n 1, 1) := by decide +kernel
theorem dX7_status_149 : decode cX7_status 149 = .ok (.bipush 10, 2) := by decide +kernel
theorem dX7_status_151 : decode cX7_status 151 = .ok (.isub, 1) := by decide +kernel
theorem dX7_status_152 : decode cX7_status 152 = .ok (.iaload, 1) := by decide +kernel
theorem dX7_status_153 : decode cX7_status 153 = .ok (.goto 4, 3) := by decide +kernel
theorem dX7_status_156 : decode cX7_status 156 = .ok (.iconst (-1), 1) := by decide +kernel
theorem dX7_status_157 : decode cX7_status 157 = .ok (.ireturn, 1) := by decide +kernel
theorem dJ6_bitCount_0f7a4_0 : decode cJ6_bitCount_0f7a4 0 = .ok (.iload_n 0, 1) := by decide +kernel
theorem dJ6_bitCount_0f7a4_1 : decode cJ6_bitCount_0f7a4 1 = .ok (.iload_n 0, 1) := by decide +kernel
theorem dJ6_bitCount_0f7a4_2 : decode cJ6_bitCount_0f7a4 2 = .ok (.iconst 1, 1) := by decide +kernel
theorem dJ6_bitCount_0f7a4_3 : decode cJ6_bitCount_0f7a4 3 = .ok (.iushr, 1) := by decide +kernel
theorem dJ6_bitCount_0f7a4_4 : decode cJ6_bitCount_0f7a4 4 = .ok (.ldc_w 265, 3) := by decide +kernel
theorem dJ6_bitCount_0f7a4_7 : decode cJ6_bitCount_0f7a4 7 = .ok (.iand, 1) := by decide +kernel
theorem dJ6_bitCount_0f7a4_8 : decode cJ6_bitCount_0f7a4 8 = .ok (.isub, 1) := by decide +kernel
theorem dJ6_bitCount_0f7a4_9 : decode cJ6_bitCount_0f7a4 9 = .ok (.istore_n 0, 1) := by decide +kernel
theorem dJ6_bitCount_0f7a4_10 : decode cJ6_bitCount_0f7a4 10 = .ok (.iload_n 0, 1) := by decide +kernel
theorem dJ6_bitCount_0f7a4_11 : decode cJ6_bitCount_0f7a4 11 = .ok (.ldc_w 266, 3) := by decide +kernel
theorem dJ6_bitCount_0f7a4_14 : decode cJ6_bitCount_0f7a4 14 = .ok (.iand, 1) := by decide +kernel
theorem dJ6_bitCount_0f7a4_15 : decode cJ6_bitCount_0f7a4 15 = .ok (.iload_n 0, 1) := by decide +kernel
theorem dJ6_bitCount_0f7a4_16 : decode cJ6_bitCount_0f7a4 16 = .ok (.iconst 2, 1) := by decide +kernel
theorem dJ6_bitCount_0f7a4_17 : decode cJ6_bitCount_0f7a4 17 = .ok (.iushr, 1) := by decide +kernel
theorem dJ6_bitCount_0f7a4_18 : decode cJ6_bitCount_0f7a4 18 = .ok (.ldc_w 266, 3) := by decide +kernel
theorem dJ6_bitCount_0f7a4_21 : decode cJ6_bitCount_0f7a4 21 = .ok (.iand, 1) := by decide +kernel
theorem dJ6_bitCount_0f7a4_22 : decode cJ6_bitCount_0f7a4 22 = .ok (.iadd, 1) := by decide +kernel
theorem dJ6_bitCount_0f7a4_23 : decode cJ6_bitCount_0f7a4 23 = .ok (.istore_n 0, 1) := by decide +kernel
theorem dJ6_bitCount_0f7a4_24 : decode cJ6_bitCount_0f7a4 24 = .ok (.iload_n 0, 1) := by decide +kernel
theorem dJ6_bitCount_0f7a4_25 : decode cJ6_bitCount_0f7a4 25 = .ok (.iload_n 0, 1) := by decide +kernel
theorem dJ6_bitCount_0f7a4_26 : decode cJ6_bitCount_0f7a4 26 = .ok (.iconst 4, 1) := by decide +kernel
theorem dJ6_bitCount_0f7a4_27 : decode cJ6_bitCount_0f7a4 27 = .ok (.iushr, 1) := by decide +kernel
theorem dJ6_bitCount_0f7a4_28 : decode cJ6_bitCount_0f7a4 28 = .ok (.iadd, 1) := by decide +kernel
theorem dJ6_bitCount_0f7a4_29 : decode cJ6_bitCount_0f7a4 29 = .ok (.ldc_w 267, 3) := by decide +kernel
theorem dJ6_bitCount_0f7a4_32 : decode cJ6_bitCount_0f7a4 32 = .ok (.iand, 1) := by decide +kernel
theorem dJ6_bitCount_0f7a4_33 : decode cJ6_bitCount_0f7a4 33 = .ok (.istore_n 0, 1) := by decide +kernel
theorem dJ6_bitCount_0f7a4_34 : decode cJ6_bitCount_0f7a4 34 = .ok (.iload_n 0, 1) := by decide +kernel
theorem dJ6_bitCount_0f7a4_35 : decode cJ6_bitCount_0f7a4 35 = .ok (.iload_n 0, 1) := by decide +kernel
theorem dJ6_bitCount_0f7a4_36 : decode cJ6_bitCount_0f7a4 36 = .ok (.bipush 8, 2) := by decide +kernel
theorem dJ6_bitCount_0f7a4_38 : decode cJ6_bitCount_0f7a4 38 = .ok (.iushr, 1) := by decide +kernel
theorem dJ6_bitCount_0f7a4_39 : decode cJ6_bitCount_0f7a4 39 = .ok (.iadd, 1) := by decide +kernel
theorem dJ6_bitCount_0f7a4_40 : decode cJ6_bitCount_0f7a4 40 = .ok (.istore_n 0, 1) := by decide +kernel
theorem dJ6_bitCount_0f7a4_41 : decode cJ6_bitCount_0f7a4 41 = .ok (.iload_n 0, 1) := by decide +kernel
theorem dJ6_bitCount_0f7a4_42 : decode cJ6_bitCount_0f7a4 42 = .ok (.iload_n 0, 1) := by decide +kernel
theorem dJ6_bitCount_0f7a4_43 : decode cJ6_bitCount_0f7a4 43 = .ok (.bipush 16, 2) := by decide +kernel
theorem dJ6_bitCount_0f7a4_45 : decode cJ6_bitCount_0f7a4 45 = .ok (.iushr, 1) := by decide +kernel
theorem dJ6_bitCount_0f7a4_46 : decode cJ6_bitCount_0f7a4 46 = .ok (.iadd, 1) := by decide +kernel
theorem dJ6_bitCount_0f7a4_47 : decode cJ6_bitCount_0f7a4 47 = .ok (.istore_n 0, 1) := by decide +kernel
theorem dJ6_bitCount_0f7a4_48 : decode cJ6_bitCount_0f7a4 48 = .ok (.iload_n 0, 1) := by decide +kernel
theorem dJ6_bitCount_0f7a4_49 : decode cJ6_bitCount_0f7a4 49 = .ok (.bipush 63, 2) := by decide +kernel
theorem dJ6_bitCount_0f7a4_51 : decode cJ6_bitCount_0f7a4 51 = .ok (.iand, 1) := by decide +kernel
theorem dJ6_bitCount_0f7a4_52 : decode cJ6_bitCount_0f7a4 52 = .ok (.ireturn, 1) := by decide +kernel
theorem dJ9_floorMod_7cf53_0 : decode cJ9_floorMod_7cf53 0 = .ok (.iload_n 0, 1) := by decide +kernel
theorem dJ9_floorMod_7cf53_1 : decode cJ9_floorMod_7cf53 1 = .ok (.iload_n 1, 1) := by decide +kernel
theorem dJ9_floorMod_7cf53_2 : decode cJ9_floorMod_7cf53 2 = .ok (.irem, 1) := by decide +kernel
theorem dJ9_floorMod_7cf53_3 : decode cJ9_floorMod_7cf53 3 = .ok (.istore_n 2, 1) := by decide +kernel
theorem dJ9_floorMod_7cf53_4 : decode cJ9_floorMod_7cf53 4 = .ok (.iload_n 0, 1) := by decide +kernel
theorem dJ9_floorMod_7cf53_5 : decode cJ9_floorMod_7cf53 5 = .ok (.iload_n 1, 1) := by decide +kernel
theorem dJ9_floorMod_7cf53_6 : decode cJ9_floorMod_7cf53 6 = .ok (.ixor, 1) := by decide +kernel
theorem dJ9_floorMod_7cf53_7 : decode cJ9_floorMod_7cf53 7 = .ok (.ifCond .ge 11, 3) := by decide +kernel
theorem dJ9_floorMod_7cf53_10 : decode cJ9_floorMod_7cf53 10 = .ok (.iload_n 2, 1) := by decide +kernel
theorem dJ9_floorMod_7cf53_11 : decode cJ9_floorMod_7cf53 11 = .ok (.ifCond .eq 7, 3) := by decide +kernel
theorem dJ9_floorMod_7cf53_14 : decode cJ9_floorMod_7cf53 14 = .ok (.iload_n 2, 1) := by decide +kernel
theorem dJ9_floorMod_7cf53_15 : decode cJ9_floorMod_7cf53 15 = .ok (.iload_n 1, 1) := by decide +kernel
theorem dJ9_floorMod_7cf53_16 : decode cJ9_floorMod_7cf53 16 = .ok (.iadd, 1) := by decide +kernel
theorem dJ9_floorMod_7cf53_17 : decode cJ9_floorMod_7cf53 17 = .ok (.ireturn, 1) := by decide +kernel
theorem dJ9_floorMod_7cf53_18 : decode cJ9_floorMod_7cf53 18 = .ok (.iload_n 2, 1) := by decide +kernel
theorem dJ9_floorMod_7cf53_19 : decode cJ9_floorMod_7cf53 19 = .ok (.ireturn, 1) := by decide +kernel
theorem dJ9_max_7cf53_0 : decode cJ9_max_7cf53 0 = .ok (.iload_n 0, 1) := by decide +kernel
theorem dJ9_max_7cf53_1 : decode cJ9_max_7cf53 1 = .ok (.iload_n 1, 1) := by decide +kernel
theorem dJ9_max_7cf53_2 : decode cJ9_max_7cf53 2 = .ok (.if_icmp .lt 7, 3) := by decide +kernel
theorem dJ9_max_7cf53_5 : decode cJ9_max_7cf53 5 = .ok (.iload_n 0, 1) := by decide +kernel
theorem dJ9_max_7cf53_6 : decode cJ9_max_7cf53 6 = .ok (.goto 4, 3) := by decide +kernel
theorem dJ9_max_7cf53_9 : decode cJ9_max_7cf53 9 = .ok (.iload_n 1, 1) := by decide +kernel
theorem dJ9_max_7cf53_10 : decode cJ9_max_7cf53 10 = .ok (.ireturn, 1) := by decide +kernel
theorem dJ9_min_7cf53_0 : decode cJ9_min_7cf53 0 = .ok (.iload_n 0, 1) := by decide +kernel
theorem dJ9_min_7cf53_1 : decode cJ9_min_7cf53 1 = .ok (.iload_n 1, 1) := by decide +kernel
theorem dJ9_min_7cf53_2 : decode cJ9_min_7cf53 2 = .ok (.if_icmp .gt 7, 3) := by decide +kernel
theorem dJ9_min_7cf53_5 : decode cJ9_min_7cf53 5 = .ok (.iload_n 0, 1) := by decide +kernel
theorem dJ9_min_7cf53_6 : decode cJ9_min_7cf53 6 = .ok (.goto 4, 3) := by decide +kernel
theorem dJ9_min_7cf53_9 : decode cJ9_min_7cf53 9 = .ok (.iload_n 1, 1) := by decide +kernel
theorem dJ9_min_7cf53_10 : decode cJ9_min_7cf53 10 = .ok (.ireturn, 1) := by decide +kernel
theorem dJ0_length_8abf5_0 : decode cJ0_length_8abf5 0 = .ok (.aload_n 0, 1) := by decide +kernel
theorem dJ0_length_8abf5_1 : decode cJ0_length_8abf5 1 = .ok (.getfield 9, 3) := by decide +kernel
theorem dJ0_length_8abf5_4 : decode cJ0_length_8abf5 4 = .ok (.arraylength, 1) := by decide +kernel
theorem dJ0_length_8abf5_5 : decode cJ0_length_8abf5 5 = .ok (.aload_n 0, 1) := by decide +kernel
theorem dJ0_length_8abf5_6 : decode cJ0_length_8abf5 6 = .ok (.invokevirtual 335, 3) := by decide +kernel
theorem dJ0_length_8abf5_9 : decode cJ0_length_8abf5 9 = .ok (.ishr, 1) := by decide +kernel
theorem dJ0_length_8abf5_10 : decode cJ0_length_8abf5 10 = .ok (.ireturn, 1) := by decide +kernel
theorem dJ0_charAt_5068e_0 : decode cJ0_charAt_5068e 0 = .ok (.aload_n 0, 1) := by decide +kernel
theorem dJ0_charAt_5068e_1 : decode cJ0_charAt_5068e 1 = .ok (.invokevirtual 492, 3) := by decide +kernel
theorem dJ0_charAt_5068e_4 : decode cJ0_charAt_5068e 4 = .ok (.ifCond .eq 12, 3) := by decide +kernel
theorem dJ0_charAt_5068e_7 : decode cJ0_charAt_5068e 7 = .ok (.aload_n 0, 1) := by decide +kernel
theorem dJ0_charAt_5068e_8 : decode cJ0_charAt_5068e 8 = .ok (.getfield 9, 3) := by decide +kernel
theorem dJ0_charAt_5068e_11 : decode cJ0_charAt_5068e 11 = .ok (.iload_n 1, 1) := by decide +kernel
theorem dJ0_charAt_5068e_12 : decode cJ0_charAt_5068e 12 = .ok (.invokestatic 495, 3) := by decide +kernel
theorem dJ0_charAt_5068e_15 : decode cJ0_charAt_5068e 15 = .ok (.ireturn, 1) := by decide +kernel
theorem dJ0_charAt_5068e_16 : decode cJ0_charAt_5068e 16 = .ok (.aload_n 0, 1) := by decide +kernel
theorem dJ0_charAt_5068e_17 : decode cJ0_charAt_5068e 17 = .ok (.getfield 9, 3) := by decide +kernel
theorem dJ0_charAt_5068e_20 : decode cJ0_charAt_5068e 20 = .ok (.iload_n 1, 1) := by decide +kernel
theorem dJ0_charAt_5068e_21 : decode cJ0_charAt_5068e 21 = .ok (.invokestatic 498, 3) := by decide +kernel
theorem dJ0_charAt_5068e_24 : decode cJ0_charAt_5068e 24 = .ok (.ireturn, 1) := by decide +kernel
theorem dJ0_coder_7d493_0 : decode cJ0_coder_7d493 0 = .ok (.getstatic 38, 3) := by decide +kernel
theorem dJ0_coder_7d493_3 : decode cJ0_coder_7d493 3 = .ok (.ifCond .eq 10, 3) := by decide +kernel
theorem dJ0_coder_7d493_6 : decode cJ0_coder_7d493 6 = .ok (.aload_n 0, 1) := by decide +kernel
theorem dJ0_coder_7d493_7 : decode cJ0_coder_7d493 7 = .ok (.getfield 15, 3) := by decide +kernel
theorem dJ0_coder_7d493_10 : decode cJ0_coder_7d493 10 = .ok (.goto 4, 3) := by decide +kernel
theorem dJ0_coder_7d493_13 : decode cJ0_coder_7d493 13 = .ok (.iconst 1, 1) := by decide +kernel
theorem dJ0_coder_7d493_14 : decode cJ0_coder_7d493 14 = .ok (.ireturn, 1) := by decide +kernel
theorem dJ0_isLatin1_aae02_0 : decode cJ0_isLatin1_aae02 0 = .ok (.getstatic 38, 3) := by decide +kernel
theorem dJ0_isLatin1_aae02_3 : decode cJ0_isLatin1_aae02 3 = .ok (.ifCond .eq 14, 3) := by decide +kernel
theorem dJ0_isLatin1_aae02_6 : decode cJ0_isLatin1_aae02 6 = .ok (.aload_n 0, 1) := by decide +kernel
theorem dJ0_isLatin1_aae02_7 : decode cJ0_isLatin1_aae02 7 = .ok (.getfield 15, 3) := by decide +kernel
theorem dJ0_isLatin1_aae02_10 : decode cJ0_isLatin1_aae02 10 = .ok (.ifCond .ne 7, 3) := by decide +kernel
theorem dJ0_isLatin1_aae02_13 : decode cJ0_isLatin1_aae02 13 = .ok (.iconst 1, 1) := by decide +kernel
theorem dJ0_isLatin1_aae02_14 : decode cJ0_isLatin1_aae02 14 = .ok (.goto 4, 3) := by decide +kernel
theorem dJ0_isLatin1_aae02_17 : decode cJ0_isLatin1_aae02 17 = .ok (.iconst 0, 1) := by decide +kernel
theorem dJ0_isLatin1_aae02_18 : decode cJ0_isLatin1_aae02 18 = .ok (.ireturn, 1) := by decide +kernel
theorem dJ0_checkIndex_df160_0 : decode cJ0_checkIndex_df160 0 = .ok (.iload_n 0, 1) := by decide +kernel
theorem dJ0_checkIndex_df160_1 : decode cJ0_checkIndex_df160 1 = .ok (.iload_n 1, 1) := by decide +kernel
theorem dJ0_checkIndex_df160_2 : decode cJ0_checkIndex_df160 2 = .ok (.getstatic 1053, 3) := by decide +kernel
theorem dJ0_checkIndex_df160_5 : decode cJ0_checkIndex_df160 5 = .ok (.invokestatic 1059, 3) := by decide +kernel
theorem dJ0_checkIndex_df160_8 : decode cJ0_checkIndex_df160 8 = .ok (.pop, 1) := by decide +kernel
theorem dJ0_checkIndex_df160_9 : decode cJ0_checkIndex_df160 9 = .ok (.return_, 1) := by decide +kernel
theorem dJ1_charAt_3b067_0 : decode cJ1_charAt_3b067 0 = .ok (.iload_n 1, 1) := by decide +kernel
theorem dJ1_charAt_3b067_1 : decode cJ1_charAt_3b067 1 = .ok (.aload_n 0, 1) := by decide +kernel
theorem dJ1_charAt_3b067_2 : decode cJ1_charAt_3b067 2 = .ok (.arraylength, 1) := by decide +kernel
theorem dJ1_charAt_3b067_3 : decode cJ1_charAt_3b067 3 = .ok (.invokestatic 9, 3) := by decide +kernel
theorem dJ1_charAt_3b067_6 : decode cJ1_charAt_3b067 6 = .ok (.aload_n 0, 1) := by decide +kernel
theorem dJ1_charAt_3b067_7 : decode cJ1_charAt_3b067 7 = .ok (.iload_n 1, 1) := by decide +kernel
theorem dJ1_charAt_3b067_8 : decode cJ1_charAt_3b067 8 = .ok (.baload, 1) := by decide +kernel
theorem dJ1_charAt_3b067_9 : decode cJ1_charAt_3b067 9 = .ok (.sipush 255, 3) := by decide +kernel
theorem dJ1_charAt_3b067_12 : decode cJ1_charAt_3b067 12 = .ok (.iand, 1) := by decide +kernel
theorem dJ1_charAt_3b067_13 : decode cJ1_charAt_3b067 13 = .ok (.i2c, 1) := by decide +kernel
theorem dJ1_charAt_3b067_14 : decode cJ1_charAt_3b067 14 = .ok (.ireturn, 1) := by decide +kernel
theorem dJ2_getChar_3b067_0 : decode cJ2_getChar_3b067 0 = .ok (.getstatic 44, 3) := by decide +kernel
theorem dJ2_getChar_3b067_3 : decode cJ2_getChar_3b067 3 = .ok (.ifCond .ne 25, 3) := by decide +kernel
theorem dJ2_getChar_3b067_6 : decode cJ2_getChar_3b067 6 = .ok (.iload_n 1, 1) := by decide +kernel
theorem dJ2_getChar_3b067_7 : decode cJ2_getChar_3b067 7 = .ok (.ifCond .lt 11, 3) := by decide +kernel
theorem dJ2_getChar_3b067_10 : decode cJ2_getChar_3b067 10 = .ok (.iload_n 1, 1) := by decide +kernel
theorem dJ2_getChar_3b067_11 : decode cJ2_getChar_3b067 11 = .ok (.aload_n 0, 1) := by decide +kernel
theorem dJ2_getChar_3b067_12 : decode cJ2_getChar_3b067 12 = .ok (.invokestatic 48, 3) := by decide +kernel
theorem dJ2_getChar_3b067_15 : decode cJ2_getChar_3b067 15 = .ok (.if_icmp .lt 13, 3) := by decide +kernel
theorem dJ2_getChar_3b067_18 : decode cJ2_getChar_3b067 18 = .ok (.new 52, 3) := by decide +kernel
theorem dJ2_getChar_3b067_21 : decode cJ2_getChar_3b067 21 = .ok (.dup, 1) := by decide +kernel
theorem dJ2_getChar_3b067_22 : decode cJ2_getChar_3b067 22 = .ok (.ldc 54, 2) := by decide +kernel
theorem dJ2_getChar_3b067_24 : decode cJ2_getChar_3b067 24 = .ok (.invokespecial 56, 3) := by decide +kernel
theorem dJ2_getChar_3b067_27 : decode cJ2_getChar_3b067 27 = .ok (.athrow, 1) := by decide +kernel
theorem dJ2_getChar_3b067_28 : decode cJ2_getChar_3b067 28 = .ok (.iload_n 1, 1) := by decide +kernel
theorem dJ2_getChar_3b067_29 : decode cJ2_getChar_3b067 29 = .ok (.iconst 1, 1) := by decide +kernel
theorem dJ2_getChar_3b067_30 : decode cJ2_getChar_3b067 30 = .ok (.ishl, 1) := by decide +kernel
theorem dJ2_getChar_3b067_31 : decode cJ2_getChar_3b067 31 = .ok (.istore_n 1, 1) := by decide +kernel
theorem dJ2_getChar_3b067_32 : decode cJ2_getChar_3b067 32 = .ok (.aload_n 0, 1) := by decide +kernel
theorem dJ2_getChar_3b067_33 : decode cJ2_getChar_3b067 33 = .ok (.iload_n 1, 1) := by decide +kernel
theorem dJ2_getChar_3b067_34 : decode cJ2_getChar_3b067 34 = .ok (.iinc 1 1, 3) := by decide +kernel
theorem dJ2_getChar_3b067_37 : decode cJ2_getChar_3b067 37 = .ok (.baload, 1) := by decide +kernel
theorem dJ2_getChar_3b067_38 : decode cJ2_getChar_3b067 38 = .ok (.sipush 255, 3) := by decide +kernel
theorem dJ2_getChar_3b067_41 : decode cJ2_getChar_3b067 41 = .ok (.iand, 1) := by decide +kernel
theorem dJ2_getChar_3b067_42 : decode cJ2_getChar_3b067 42 = .ok (.getstatic 59, 3) := by decide +kernel
theorem dJ2_getChar_3b067_45 : decode cJ2_getChar_3b067 45 = .ok (.ishl, 1) := by decide +kernel
theorem dJ2_getChar_3b067_46 : decode cJ2_getChar_3b067 46 = .ok (.aload_n 0, 1) := by decide +kernel
theorem dJ2_getChar_3b067_47 : decode cJ2_getChar_3b067 47 = .ok (.iload_n 1, 1) := by decide +kernel
theorem dJ2_getChar_3b067_48 : decode cJ2_getChar_3b067 48 = .ok (.baload, 1) := by decide +kernel
theorem dJ2_getChar_3b067_49 : decode cJ2_getChar_3b067 49 = .ok (.sipush 255, 3) := by decide +kernel
theorem dJ2_getChar_3b067_52 : decode cJ2_getChar_3b067 52 = .ok (.iand, 1) := by decide +kernel
theorem dJ2_getChar_3b067_53 : decode cJ2_getChar_3b067 53 = .ok (.getstatic 63, 3) := by decide +kernel
theorem dJ2_getChar_3b067_56 : decode cJ2_getChar_3b067 56 = .ok (.ishl, 1) := by decide +kernel
theorem dJ2_getChar_3b067_57 : decode cJ2_getChar_3b067 57 = .ok (.ior, 1) := by decide +kernel
theorem dJ2_getChar_3b067_58 : decode cJ2_getChar_3b067 58 = .ok (.i2c, 1) := by decide +kernel
theorem dJ2_getChar_3b067_59 : decode cJ2_getChar_3b067 59 = .ok (.ireturn, 1) := by decide +kernel
theorem dJ2_length_9d52b_0 : decode cJ2_length_9d52b 0 = .ok (.aload_n 0, 1) := by decide +kernel
theorem dJ2_length_9d52b_1 : decode cJ2_length_9d52b 1 = .ok (.arraylength, 1) := by decide +kernel
theorem dJ2_length_9d52b_2 : decode cJ2_length_9d52b 2 = .ok (.iconst 1, 1) := by decide +kernel
theorem dJ2_length_9d52b_3 : decode cJ2_length_9d52b 3 = .ok (.ishr, 1) := by decide +kernel
theorem dJ2_length_9d52b_4 : decode cJ2_length_9d52b 4 = .ok (.ireturn, 1) := by decide +kernel
theorem dJ2_charAt_3b067_0 : decode cJ2_charAt_3b067 0 = .ok (.iload_n 1, 1) := by decide +kernel
theorem dJ2_charAt_3b067_1 : decode cJ2_charAt_3b067 1 = .ok (.aload_n 0, 1) := by decide +kernel
theorem dJ2_charAt_3b067_2 : decode cJ2_charAt_3b067 2 = .ok (.invokestatic 67, 3) := by decide +kernel
theorem dJ2_charAt_3b067_5 : decode cJ2_charAt_3b067 5 = .ok (.aload_n 0, 1) := by decide +kernel
theorem dJ2_charAt_3b067_6 : decode cJ2_charAt_3b067 6 = .ok (.iload_n 1, 1) := by decide +kernel
theorem dJ2_charAt_3b067_7 : decode cJ2_charAt_3b067 7 = .ok (.invokestatic 71, 3) := by decide +kernel
theorem dJ2_charAt_3b067_10 : decode cJ2_charAt_3b067 10 = .ok (.ireturn, 1) := by decide +kernel
theorem dJ2_checkIndex_2214a_0 : decode cJ2_checkIndex_2214a 0 = .ok (.iload_n 0, 1) := by decide +kernel
theorem dJ2_checkIndex_2214a_1 : decode cJ2_checkIndex_2214a 1 = .ok (.aload_n 1, 1) := by decide +kernel
theorem dJ2_checkIndex_2214a_2 : decode cJ2_checkIndex_2214a 2 = .ok (.invokestatic 48, 3) := by decide +kernel
theorem dJ2_checkIndex_2214a_5 : decode cJ2_checkIndex_2214a 5 = .ok (.invokestatic 414, 3) := by decide +kernel
theorem dJ2_checkIndex_2214a_8 : decode cJ2_checkIndex_2214a 8 = .ok (.return_, 1) := by decide +kernel
theorem dJ3_checkIndex_8e157_0 : decode cJ3_checkIndex_8e157 0 = .ok (.iload_n 0, 1) := by decide +kernel
theorem dJ3_checkIndex_8e157_1 : decode cJ3_checkIndex_8e157 1 = .ok (.ifCond .lt 8, 3) := by decide +kernel
theorem dJ3_checkIndex_8e157_4 : decode cJ3_checkIndex_8e157 4 = .ok (.iload_n 0, 1) := by decide +kernel
theorem dJ3_checkIndex_8e157_5 : decode cJ3_checkIndex_8e157 5 = .ok (.iload_n 1, 1) := by decide +kernel
theorem dJ3_checkIndex_8e157_6 : decode cJ3_checkIndex_8e157 6 = .ok (.if_icmp .lt 10, 3) := by decide +kernel
theorem dJ3_checkIndex_8e157_9 : decode cJ3_checkIndex_8e157 9 = .ok (.aload_n 2, 1) := by decide +kernel
theorem dJ3_checkIndex_8e157_10 : decode cJ3_checkIndex_8e157 10 = .ok (.iload_n 0, 1) := by decide +kernel
theorem dJ3_checkIndex_8e157_11 : decode cJ3_checkIndex_8e157 11 = .ok (.iload_n 1, 1) := by decide +kernel
theorem dJ3_checkIndex_8e157_12 : decode cJ3_checkIndex_8e157 12 = .ok (.invokestatic 95, 3) := by decide +kernel
theorem dJ3_checkIndex_8e157_15 : decode cJ3_checkIndex_8e157 15 = .ok (.athrow, 1) := by decide +kernel
theorem dJ3_checkIndex_8e157_16 : decode cJ3_checkIndex_8e157 16 = .ok (.iload_n 0, 1) := by decide +kernel
theorem dJ3_checkIndex_8e157_17 : decode cJ3_checkIndex_8e157 17 = .ok (.ireturn, 1) := by decide +kernel
theorem dL_law_0 : decode cL_law 0 = .ok (.new 7, 3) := by decide +kernel
theorem dL_law_3 : decode cL_law 3 = .ok (.dup, 1) := by decide +kernel
theorem dL_law_4 : decode cL_law 4 = .ok (.invokespecial 9, 3) := by decide +kernel
theorem dL_law_7 : decode cL_law 7 = .ok (.astore_n 1, 1) := by decide +kernel
theorem dL_law_8 : decode cL_law 8 = .ok (.new 10, 3) := by decide +kernel
theorem dL_law_11 : decode cL_law 11 = .ok (.dup, 1) := by decide +kernel
theorem dL_law_12 : decode cL_law 12 = .ok (.invokespecial 12, 3) := by decide +kernel
theorem dL_law_15 : decode cL_law 15 = .ok (.astore_n 2, 1) := by decide +kernel
theorem dL_law_16 : decode cL_law 16 = .ok (.iconst 0, 1) := by decide +kernel
theorem dL_law_17 : decode cL_law 17 = .ok (.istore_n 3, 1) := by decide +kernel
theorem dL_law_18 : decode cL_law 18 = .ok (.iload_n 3, 1) := by decide +kernel
theorem dL_law_19 : decode cL_law 19 = .ok (.aload_n 0, 1) := by decide +kernel
theorem dL_law_20 : decode cL_law 20 = .ok (.arraylength, 1) := by decide +kernel
theorem dL_law_21 : decode cL_law 21 = .ok (.bipush 6, 2) := by decide +kernel
theorem dL_law_23 : decode cL_law 23 = .ok (.isub, 1) := by decide +kernel
theorem dL_law_24 : decode cL_law 24 = .ok (.if_icmp .gt 1911, 3) := by decide +kernel
theorem dL_law_27 : decode cL_law 27 = .ok (.aload_n 0, 1) := by decide +kernel
theorem dL_law_28 : decode cL_law 28 = .ok (.iload_n 3, 1) := by decide +kernel
theorem dL_law_29 : decode cL_law 29 = .ok (.iaload, 1) := by decide +kernel
theorem dL_law_30 : decode cL_law 30 = .ok (.bipush 63, 2) := by decide +kernel
theorem dL_law_32 : decode cL_law 32 = .ok (.iand, 1) := by decide +kernel
theorem dL_law_33 : decode cL_law 33 = .ok (.tableswitch 1896 0 59 #[255, 298, 371, 434, 468, 491, 524, 557, 590, 633, 676, 719, 752, 775, 788, 801, 834, 867, 890, 913, 936, 959, 982, 1005, 1028, 1051, 1084, 1107, 1130, 1153, 1186, 1219, 1252, 1275, 1298, 1321, 1344, 1377, 1400, 1423, 1446, 1469, 1482, 1505, 1528, 1551, 1574, 1597, 1620, 1643, 1666, 1689, 1722, 1765, 1788, 1801, 1824, 1847, 1860, 1873], 255) := by decide +kernel
theorem dL_law_288 : decode cL_law 288 = .ok (.aload_n 1, 1) := by decide +kernel
theorem dL_law_289 : decode cL_law 289 = .ok (.aload_n 0, 1) := by decide +kernel
theorem dL_law_290 : decode cL_law 290 = .ok (.iload_n 3, 1) := by decide +kernel
theorem dL_law_291 : decode cL_law 291 = .ok (.iconst 1, 1) := by decide +kernel
theorem dL_law_292 : decode cL_law 292 = .ok (.iadd, 1) := by decide +kernel
theorem dL_law_293 : decode cL_law 293 = .ok (.iaload, 1) := by decide +kernel
theorem dL_law_294 : decode cL_law 294 = .ok (.aload_n 0, 1) := by decide +kernel
theorem dL_law_295 : decode cL_law 295 = .ok (.iload_n 3, 1) := by decide +kernel
theorem dL_law_296 : decode cL_law 296 = .ok (.iconst 2, 1) := by decide +kernel
theorem dL_law_297 : decode cL_law 297 = .ok (.iadd, 1) := by decide +kernel
theorem dL_law_298 : decode cL_law 298 = .ok (.iaload, 1) := by decide +kernel
theorem dL_law_299 : decode cL_law 299 = .ok (.aload_n 0, 1) := by decide +kernel
theorem dL_law_300 : decode cL_law 300 = .ok (.iload_n 3, 1) := by decide +kernel
theorem dL_law_301 : decode cL_law 301 = .ok (.iconst 3, 1) := by decide +kernel
theorem dL_law_302 : decode cL_law 302 = .ok (.iadd, 1) := by decide +kernel
theorem dL_law_303 : decode cL_law 303 = .ok (.iaload, 1) := by decide +kernel
theorem dL_law_304 : decode cL_law 304 = .ok (.invokevirtual 13, 3) := by decide +kernel
theorem dL_law_307 : decode cL_law 307 = .ok (.aload_n 2, 1) := by decide +kernel
theorem dL_law_308 : decode cL_law 308 = .ok (.aload_n 0, 1) := by decide +kernel
theorem dL_law_309 : decode cL_law 309 = .ok (.iload_n 3, 1) := by decide +kernel
theorem dL_law_310 : decode cL_law 310 = .ok (.iconst 1, 1) := by decide +kernel
theorem dL_law_311 : decode cL_law 311 = .ok (.iadd, 1) := by decide +kernel
theorem dL_law_312 : decode cL_law 312 = .ok (.iaload, 1) := by decide +kernel
theorem dL_law_313 : decode cL_law 313 = .ok (.aload_n 0, 1) := by decide +kernel
theorem dL_law_314 : decode cL_law 314 = .ok (.iload_n 3, 1) := by decide +kernel
theorem dL_law_315 : decode cL_law 315 = .ok (.iconst 2, 1) := by decide +kernel
theorem dL_law_316 : decode cL_law 316 = .ok (.iadd, 1) := by decide +kernel
theorem dL_law_317 : decode cL_law 317 = .ok (.iaload, 1) := by decide +kernel
theorem dL_law_318 : decode cL_law 318 = .ok (.aload_n 0, 1) := by decide +kernel
theorem dL_law_319 : decode cL_law 319 = .ok (.iload_n 3, 1) := by decide +kernel
theorem dL_law_320 : decode cL_law 320 = .ok (.iconst 3, 1) := by decide +kernel
theorem dL_law_321 : decode cL_law 321 = .ok (.iadd, 1) := by decide +kernel
theorem dL_law_322 : decode cL_law 322 = .ok (.iaload, 1) := by decide +kernel
theorem dL_law_323 : decode cL_law 323 = .ok (.invokevirtual 17, 3) := by decide +kernel
theorem dL_law_326 : decode cL_law 326 = .ok (.if_icmp .eq 1603, 3) := by decide +kernel
theorem dL_law_329 : decode cL_law 329 = .ok (.iconst 0, 1) := by decide +kernel
theorem dL_law_330 : decode cL_law 330 = .ok (.ireturn, 1) := by decide +kernel
theorem dL_law_331 : decode cL_law 331 = .ok (.aload_n 1, 1) := by decide +kernel
theorem dL_law_332 : decode cL_law 332 = .ok (.aload_n 0, 1) := by decide +kernel
theorem dL_law_333 : decode cL_law 333 = .ok (.iload_n 3, 1) := by decide +kernel
theorem dL_law_334 : decode cL_law 334 = .ok (.iconst 1, 1) := by decide +kernel
theorem dL_law_335 : decode cL_law 335 = .ok (.iadd, 1) := by decide +kernel
theorem dL_law_336 : decode cL_law 336 = .ok (.iaload, 1) := by decide +kernel
theorem dL_law_337 : decode cL_law 337 = .ok (.aload_n 0, 1) := by decide +kernel
theorem dL_law_338 : decode cL_law 338 = .ok (.iload_n 3, 1) := by decide +kernel
theorem dL_law_339 : decode cL_law 339 = .ok (.iconst 2, 1) := by decide +kernel
theorem dL_law_340 : decode cL_law 340 = .ok (.iadd, 1) := by decide +kernel
theorem dL_law_341 : decode cL_law 341 = .ok (.iaload, 1) := by decide +kernel
theorem dL_law_342 : decode cL_law 342 = .ok (.aload_n 0, 1) := by decide +kernel
theorem dL_law_343 : decode cL_law 343 = .ok (.iload_n 3, 1) := by decide +kernel
theorem dL_law_344 : decode cL_law 344 = .ok (.iconst 3, 1) := by decide +kernel
theorem dL_law_345 : decode cL_law 345 = .ok (.iadd, 1) := by decide +kernel
theorem dL_law_346 : decode cL_law 346 = .ok (.iaload, 1) := by decide +kernel
theorem dL_law_347 : decode cL_law 347 = .ok (.i2l, 1) := by decide +kernel
theorem dL_law_348 : decode cL_law 348 = .ok (.bipush 32, 2) := by decide +kernel
theorem dL_law_350 : decode cL_law 350 = .ok (.lshl, 1) := by decide +kernel
theorem dL_law_351 : decode cL_law 351 = .ok (.aload_n 0, 1) := by decide +kernel
theorem dL_law_352 : decode cL_law 352 = .ok (.iload_n 3, 1) := by decide +kernel
theorem dL_law_353 : decode cL_law 353 = .ok (.iconst 4, 1) := by decide +kernel
theorem dL_law_354 : decode cL_law 354 = .ok (.iadd, 1) := by decide +kernel
theorem dL_law_355 : decode cL_law 355 = .ok (.iaload, 1) := by decide +kernel
theorem dL_law_356 : decode cL_law 356 = .ok (.i2l, 1) := by decide +kernel
theorem dL_law_357 : decode cL_law 357 = .ok (.ldc2_w 18, 3) := by decide +kernel
theorem dL_law_360 : decode cL_law 360 = .ok (.land, 1) := by decide +kernel
theorem dL_law_361 : decode cL_law 361 = .ok (.lor, 1) := by decide +kernel
theorem dL_law_362 : decode cL_law 362 = .ok (.invokevirtual 20, 3) := by decide +kernel
theorem dL_law_365 : decode cL_law 365 = .ok (.aload_n 2, 1) := by decide +kernel
theorem dL_law_366 : decode cL_law 366 = .ok (.aload_n 0, 1) := by decide +kernel
theorem dL_law_367 : decode cL_law 367 = .ok (.iload_n 3, 1) := by decide +kernel
theorem dL_law_368 : decode cL_law 368 = .ok (.iconst 1, 1) := by decide +kernel
theorem dL_law_369 : decode cL_law 369 = .ok (.iadd, 1) := by decide +kernel
theorem dL_law_370 : decode cL_law 370 = .ok (.iaload, 1) := by decide +kernel
theorem dL_law_371 : decode cL_law 371 = .ok (.aload_n 0, 1) := by decide +kernel
theorem dL_law_372 : decode cL_law 372 = .ok (.iload_n 3, 1) := by decide +kernel
theorem dL_law_373 : decode cL_law 373 = .ok (.iconst 2, 1) := by decide +kernel
theorem dL_law_374 : decode cL_law 374 = .ok (.iadd, 1) := by decide +kernel
theorem dL_law_375 : decode cL_law 375 = .ok (.iaload, 1) := by decide +kernel
theorem dL_law_376 : decode cL_law 376 = .ok (.aload_n 0, 1) := by decide +kernel
theorem dL_law_377 : decode cL_law 377 = .ok (.iload_n 3, 1) := by decide +kernel
theorem dL_law_378 : decode cL_law 378 = .ok (.iconst 3, 1) := by decide +kernel
theorem dL_law_379 : decode cL_law 379 = .ok (.iadd, 1) := by decide +kernel
theorem dL_law_380 : decode cL_law 380 = .ok (.iaload, 1) := by decide +kernel
theorem dL_law_381 : decode cL_law 381 = .ok (.i2l, 1) := by decide +kernel
theorem dL_law_382 : decode cL_law 382 = .ok (.bipush 32, 2) := by decide +kernel
theorem dL_law_384 : decode cL_law 384 = .ok (.lshl, 1) := by decide +kernel
theorem dL_law_385 : decode cL_law 385 = .ok (.aload_n 0, 1) := by decide +kernel
theorem dL_law_386 : decode cL_law 386 = .ok (.iload_n 3, 1) := by decide +kernel
theorem dL_law_387 : decode cL_law 387 = .ok (.iconst 4, 1) := by decide +kernel
theorem dL_law_388 : decode cL_law 388 = .ok (.iadd, 1) := by decide +kernel
theorem dL_law_389 : decode cL_law 389 = .ok (.iaload, 1) := by decide +kernel
theorem dL_law_390 : decode cL_law 390 = .ok (.i2l, 1) := by decide +kernel
theorem dL_law_391 : decode cL_law 391 = .ok (.ldc2_w 18, 3) := by decide +kernel
theorem dL_law_394 : decode cL_law 394 = .ok (.land, 1) := by decide +kernel
theorem dL_law_395 : decode cL_law 395 = .ok (.lor, 1) := by decide +kernel
theorem dL_law_396 : decode cL_law 396 = .ok (.invokevirtual 24, 3) := by decide +kernel
theorem dL_law_399 : decode cL_law 399 = .ok (.if_icmp .eq 1530, 3) := by decide +kernel
theorem dL_law_402 : decode cL_law 402 = .ok (.iconst 0, 1) := by decide +kernel
theorem dL_law_403 : decode cL_law 403 = .ok (.ireturn, 1) := by decide +kernel
theorem dL_law_404 : decode cL_law 404 = .ok (.aload_n 1, 1) := by decide +kernel
theorem dL_law_405 : decode cL_law 405 = .ok (.aload_n 0, 1) := by decide +kernel
theorem dL_law_406 : decode cL_law 406 = .ok (.iload_n 3, 1) := by decide +kernel
theorem dL_law_407 : decode cL_law 407 = .ok (.iconst 1, 1) := by decide +kernel
theorem dL_law_408 : decode cL_law 408 = .ok (.iadd, 1) := by decide +kernel
theorem dL_law_409 : decode cL_law 409 = .ok (.iaload, 1) := by decide +kernel
theorem dL_law_410 : decode cL_law 410 = .ok (.aload_n 0, 1) := by decide +kernel
theorem dL_law_411 : decode cL_law 411 = .ok (.iload_n 3, 1) := by decide +kernel
theorem dL_law_412 : decode cL_law 412 = .ok (.iconst 2, 1) := by decide +kernel
theorem dL_law_413 : decode cL_law 413 = .ok (.iadd, 1) := by decide +kernel
theorem dL_law_414 : decode cL_law 414 = .ok (.iaload, 1) := by decide +kernel
theorem dL_law_415 : decode cL_law 415 = .ok (.aload_n 0, 1) := by decide +kernel
theorem dL_law_416 : decode cL_law 416 = .ok (.iload_n 3, 1) := by decide +kernel
theorem dL_law_417 : decode cL_law 417 = .ok (.iconst 3, 1) := by decide +kernel
theorem dL_law_418 : decode cL_law 418 = .ok (.iadd, 1) := by decide +kernel
theorem dL_law_419 : decode cL_law 419 = .ok (.iaload, 1) := by decide +kernel
theorem dL_law_420 : decode cL_law 420 = .ok (.aload_n 0, 1) := by decide +kernel
theorem dL_law_421 : decode cL_law 421 = .ok (.iload_n 3, 1) := by decide +kernel
theorem dL_law_422 : decode cL_law 422 = .ok (.iconst 4, 1) := by decide +kernel
theorem dL_law_423 : decode cL_law 423 = .ok (.iadd, 1) := by decide +kernel
theorem dL_law_424 : decode cL_law 424 = .ok (.iaload, 1) := by decide +kernel
theorem dL_law_425 : decode cL_law 425 = .ok (.aload_n 0, 1) := by decide +kernel
theorem dL_law_426 : decode cL_law 426 = .ok (.iload_n 3, 1) := by decide +kernel
theorem dL_law_427 : decode cL_law 427 = .ok (.iconst 5, 1) := by decide +kernel
theorem dL_law_428 : decode cL_law 428 = .ok (.iadd, 1) := by decide +kernel
theorem dL_law_429 : decode cL_law 429 = .ok (.iaload, 1) := by decide +kernel
theorem dL_law_430 : decode cL_law 430 = .ok (.invokevirtual 25, 3) := by decide +kernel
theorem dL_law_433 : decode cL_law 433 = .ok (.aload_n 2, 1) := by decide +kernel
theorem dL_law_434 : decode cL_law 434 = .ok (.aload_n 0, 1) := by decide +kernel
theorem dL_law_435 : decode cL_law 435 = .ok (.iload_n 3, 1) := by decide +kernel
theorem dL_law_436 : decode cL_law 436 = .ok (.iconst 1, 1) := by decide +kernel
theorem dL_law_437 : decode cL_law 437 = .ok (.iadd, 1) := by decide +kernel
theorem dL_law_438 : decode cL_law 438 = .ok (.iaload, 1) := by decide +kernel
theorem dL_law_439 : decode cL_law 439 = .ok (.aload_n 0, 1) := by decide +kernel
theorem dL_law_440 : decode cL_law 440 = .ok (.iload_n 3, 1) := by decide +kernel
theorem dL_law_441 : decode cL_law 441 = .ok (.iconst 2, 1) := by decide +kernel
theorem dL_law_442 : decode cL_law 442 = .ok (.iadd, 1) := by decide +kernel
theorem dL_law_443 : decode cL_law 443 = .ok (.iaload, 1) := by decide +kernel
theorem dL_law_444 : decode cL_law 444 = .ok (.aload_n 0, 1) := by decide +kernel
theorem dL_law_445 : decode cL_law 445 = .ok (.iload_n 3, 1) := by decide +kernel
theorem dL_law_446 : decode cL_law 446 = .ok (.iconst 3, 1) := by decide +kernel
theorem dL_law_447 : decode cL_law 447 = .ok (.iadd, 1) := by decide +kernel
theorem dL_law_448 : decode cL_law 448 = .ok (.iaload, 1) := by decide +kernel
theorem dL_law_449 : decode cL_law 449 = .ok (.aload_n 0, 1) := by decide +kernel
theorem dL_law_450 : decode cL_law 450 = .ok (.iload_n 3, 1) := by decide +kernel
theorem dL_law_451 : decode cL_law 451 = .ok (.iconst 4, 1) := by decide +kernel
theorem dL_law_452 : decode cL_law 452 = .ok (.iadd, 1) := by decide +kernel
theorem dL_law_453 : decode cL_law 453 = .ok (.iaload, 1) := by decide +kernel
theorem dL_law_454 : decode cL_law 454 = .ok (.aload_n 0, 1) := by decide +kernel
theorem dL_law_455 : decode cL_law 455 = .ok (.iload_n 3, 1) := by decide +kernel
theorem dL_law_456 : decode cL_law 456 = .ok (.iconst 5, 1) := by decide +kernel
theorem dL_law_457 : decode cL_law 457 = .ok (.iadd, 1) := by decide +kernel
theorem dL_law_458 : decode cL_law 458 = .ok (.iaload, 1) := by decide +kernel
theorem dL_law_459 : decode cL_law 459 = .ok (.invokevirtual 29, 3) := by decide +kernel
theorem dL_law_462 : decode cL_law 462 = .ok (.if_icmp .eq 1467, 3) := by decide +kernel
theorem dL_law_465 : decode cL_law 465 = .ok (.iconst 0, 1) := by decide +kernel
theorem dL_law_466 : decode cL_law 466 = .ok (.ireturn, 1) := by decide +kernel
theorem dL_law_467 : decode cL_law 467 = .ok (.aload_n 1, 1) := by decide +kernel
theorem dL_law_468 : decode cL_law 468 = .ok (.aload_n 0, 1) := by decide +kernel
theorem dL_law_469 : decode cL_law 469 = .ok (.iload_n 3, 1) := by decide +kernel
theorem dL_law_470 : decode cL_law 470 = .ok (.iconst 1, 1) := by decide +kernel
theorem dL_law_471 : decode cL_law 471 = .ok (.iadd, 1) := by decide +kernel
theorem dL_law_472 : decode cL_law 472 = .ok (.iaload, 1) := by decide +kernel
theorem dL_law_473 : decode cL_law 473 = .ok (.aload_n 0, 1) := by decide +kernel
theorem dL_law_474 : decode cL_law 474 = .ok (.iload_n 3, 1) := by decide +kernel
theorem dL_law_475 : decode cL_law 475 = .ok (.iconst 2, 1) := by decide +kernel
theorem dL_law_476 : decode cL_law 476 = .ok (.iadd, 1) := by decide +kernel
theorem dL_law_477 : decode cL_law 477 = .ok (.iaload, 1) := by decide +kernel
theorem dL_law_478 : decode cL_law 478 = .ok (.invokevirtual 30, 3) := by decide +kernel
theorem dL_law_481 : decode cL_law 481 = .ok (.aload_n 2, 1) := by decide +kernel
theorem dL_law_482 : decode cL_law 482 = .ok (.aload_n 0, 1) := by decide +kernel
theorem dL_law_483 : decode cL_law 483 = .ok (.iload_n 3, 1) := by decide +kernel
theorem dL_law_484 : decode cL_law 484 = .ok (.iconst 1, 1) := by decide +kernel
theorem dL_law_485 : decode cL_law 485 = .ok (.iadd, 1) := by decide +kernel
theorem dL_law_486 : decode cL_law 486 = .ok (.iaload, 1) := by decide +kernel
theorem dL_law_487 : decode cL_law 487 = .ok (.aload_n 0, 1) := by decide +kernel
theorem dL_law_488 : decode cL_law 488 = .ok (.iload_n 3, 1) := by decide +kernel
theorem dL_law_489 : decode cL_law 489 = .ok (.iconst 2, 1) := by decide +kernel
theorem dL_law_490 : decode cL_law 490 = .ok (.iadd, 1) := by decide +kernel
theorem dL_law_491 : decode cL_law 491 = .ok (.iaload, 1) := by decide +kernel
theorem dL_law_492 : decode cL_law 492 = .ok (.invokevirtual 34, 3) := by decide +kernel
theorem dL_law_495 : decode cL_law 495 = .ok (.lcmp, 1) := by decide +kernel
theorem dL_law_496 : decode cL_law 496 = .ok (.ifCond .eq 1433, 3) := by decide +kernel
theorem dL_law_499 : decode cL_law 499 = .ok (.iconst 0, 1) := by decide +kernel
theorem dL_law_500 : decode cL_law 500 = .ok (.ireturn, 1) := by decide +kernel
theorem dL_law_501 : decode cL_law 501 = .ok (.aload_n 1, 1) := by decide +kernel
theorem dL_law_502 : decode cL_law 502 = .ok (.aload_n 0, 1) := by decide +kernel
theorem dL_law_503 : decode cL_law 503 = .ok (.iload_n 3, 1) := by decide +kernel
theorem dL_law_504 : decode cL_law 504 = .ok (.iconst 1, 1) := by decide +kernel
theorem dL_law_505 : decode cL_law 505 = .ok (.iadd, 1) := by decide +kernel
theorem dL_law_506 : decode cL_law 506 = .ok (.iaload, 1) := by decide +kernel
theorem dL_law_507 : decode cL_law 507 = .ok (.invokevirtual 35, 3) := by decide +kernel
theorem dL_law_510 : decode cL_law 510 = .ok (.aload_n 2, 1) := by decide +kernel
theorem dL_law_511 : decode cL_law 511 = .ok (.aload_n 0, 1) := by decide +kernel
theorem dL_law_512 : decode cL_law 512 = .ok (.iload_n 3, 1) := by decide +kernel
theorem dL_law_513 : decode cL_law 513 = .ok (.iconst 1, 1) := by decide +kernel
theorem dL_law_514 : decode cL_law 514 = .ok (.iadd, 1) := by decide +kernel
theorem dL_law_515 : decode cL_law 515 = .ok (.iaload, 1) := by decide +kernel
theorem dL_law_516 : decode cL_law 516 = .ok (.invokevirtual 39, 3) := by decide +kernel
theorem dL_law_519 : decode cL_law 519 = .ok (.if_icmp .eq 1410, 3) := by decide +kernel
theorem dL_law_522 : decode cL_law 522 = .ok (.iconst 0, 1) := by decide +kernel
theorem dL_law_523 : decode cL_law 523 = .ok (.ireturn, 1) := by decide +kernel
theorem dL_law_524 : decode cL_law 524 = .ok (.aload_n 1, 1) := by decide +kernel
theorem dL_law_525 : decode cL_law 525 = .ok (.aload_n 0, 1) := by decide +kernel
theorem dL_law_526 : decode cL_law 526 = .ok (.iload_n 3, 1) := by decide +kernel
theorem dL_law_527 : decode cL_law 527 = .ok (.iconst 1, 1) := by decide +kernel
theorem dL_law_528 : decode cL_law 528 = .ok (.iadd, 1) := by decide +kernel
theorem dL_law_529 : decode cL_law 529 = .ok (.iaload, 1) := by decide +kernel
theorem dL_law_530 : decode cL_law 530 = .ok (.aload_n 0, 1) := by decide +kernel
theorem dL_law_531 : decode cL_law 531 = .ok (.iload_n 3, 1) := by decide +kernel
theorem dL_law_532 : decode cL_law 532 = .ok (.iconst 2, 1) := by decide +kernel
theorem dL_law_533 : decode cL_law 533 = .ok (.iadd, 1) := by decide +kernel
theorem dL_law_534 : decode cL_law 534 = .ok (.iaload, 1) := by decide +kernel
theorem dL_law_535 : decode cL_law 535 = .ok (.invokevirtual 40, 3) := by decide +kernel
theorem dL_law_538 : decode cL_law 538 = .ok (.aload_n 2, 1) := by decide +kernel
theorem dL_law_539 : decode cL_law 539 = .ok (.aload_n 0, 1) := by decide +kernel
theorem dL_law_540 : decode cL_law 540 = .ok (.iload_n 3, 1) := by decide +kernel
theorem dL_law_541 : decode cL_law 541 = .ok (.iconst 1, 1) := by decide +kernel
theorem dL_law_542 : decode cL_law 542 = .ok (.iadd, 1) := by decide +kernel
theorem dL_law_543 : decode cL_law 543 = .ok (.iaload, 1) := by decide +kernel
theorem dL_law_544 : decode cL_law 544 = .ok (.aload_n 0, 1) := by decide +kernel
theorem dL_law_545 : decode cL_law 545 = .ok (.iload_n 3, 1) := by decide +kernel
theorem dL_law_546 : decode cL_law 546 = .ok (.iconst 2, 1) := by decide +kernel
theorem dL_law_547 : decode cL_law 547 = .ok (.iadd, 1) := by decide +kernel
theorem dL_law_548 : decode cL_law 548 = .ok (.iaload, 1) := by decide +kernel
theorem dL_law_549 : decode cL_law 549 = .ok (.invokevirtual 44, 3) := by decide +kernel
theorem dL_law_552 : decode cL_law 552 = .ok (.if_icmp .eq 1377, 3) := by decide +kernel
theorem dL_law_555 : decode cL_law 555 = .ok (.iconst 0, 1) := by decide +kernel
theorem dL_law_556 : decode cL_law 556 = .ok (.ireturn, 1) := by decide +kernel
theorem dL_law_557 : decode cL_law 557 = .ok (.aload_n 1, 1) := by decide +kernel
theorem dL_law_558 : decode cL_law 558 = .ok (.aload_n 0, 1) := by decide +kernel
theorem dL_law_559 : decode cL_law 559 = .ok (.iload_n 3, 1) := by decide +kernel
theorem dL_law_560 : decode cL_law 560 = .ok (.iconst 1, 1) := by decide +kernel
theorem dL_law_561 : decode cL_law 561 = .ok (.iadd, 1) := by decide +kernel
theorem dL_law_562 : decode cL_law 562 = .ok (.iaload, 1) := by decide +kernel
theorem dL_law_563 : decode cL_law 563 = .ok (.aload_n 0, 1) := by decide +kernel
theorem dL_law_564 : decode cL_law 564 = .ok (.iload_n 3, 1) := by decide +kernel
theorem dL_law_565 : decode cL_law 565 = .ok (.iconst 2, 1) := by decide +kernel
theorem dL_law_566 : decode cL_law 566 = .ok (.iadd, 1) := by decide +kernel
theorem dL_law_567 : decode cL_law 567 = .ok (.iaload, 1) := by decide +kernel
theorem dL_law_568 : decode cL_law 568 = .ok (.invokevirtual 45, 3) := by decide +kernel
theorem dL_law_571 : decode cL_law 571 = .ok (.aload_n 2, 1) := by decide +kernel
theorem dL_law_572 : decode cL_law 572 = .ok (.aload_n 0, 1) := by decide +kernel
theorem dL_law_573 : decode cL_law 573 = .ok (.iload_n 3, 1) := by decide +kernel
theorem dL_law_574 : decode cL_law 574 = .ok (.iconst 1, 1) := by decide +kernel
theorem dL_law_575 : decode cL_law 575 = .ok (.iadd, 1) := by decide +kernel
theorem dL_law_576 : decode cL_law 576 = .ok (.iaload, 1) := by decide +kernel
theorem dL_law_577 : decode cL_law 577 = .ok (.aload_n 0, 1) := by decide +kernel
theorem dL_law_578 : decode cL_law 578 = .ok (.iload_n 3, 1) := by decide +kernel
theorem dL_law_579 : decode cL_law 579 = .ok (.iconst 2, 1) := by decide +kernel
theorem dL_law_580 : decode cL_law 580 = .ok (.iadd, 1) := by decide +kernel
theorem dL_law_581 : decode cL_law 581 = .ok (.iaload, 1) := by decide +kernel
theorem dL_law_582 : decode cL_law 582 = .ok (.invokevirtual 48, 3) := by decide +kernel
theorem dL_law_585 : decode cL_law 585 = .ok (.if_icmp .eq 1344, 3) := by decide +kernel
theorem dL_law_588 : decode cL_law 588 = .ok (.iconst 0, 1) := by decide +kernel
theorem dL_law_589 : decode cL_law 589 = .ok (.ireturn, 1) := by decide +kernel
theorem dL_law_590 : decode cL_law 590 = .ok (.aload_n 1, 1) := by decide +kernel
theorem dL_law_591 : decode cL_law 591 = .ok (.aload_n 0, 1) := by decide +kernel
theorem dL_law_592 : decode cL_law 592 = .ok (.iload_n 3, 1) := by decide +kernel
theorem dL_law_593 : decode cL_law 593 = .ok (.iconst 1, 1) := by decide +kernel
theorem dL_law_594 : decode cL_law 594 = .ok (.iadd, 1) := by decide +kernel
theorem dL_law_595 : decode cL_law 595 = .ok (.iaload, 1) := by decide +kernel
theorem dL_law_596 : decode cL_law 596 = .ok (.aload_n 0, 1) := by decide +kernel
theorem dL_law_597 : decode cL_law 597 = .ok (.iload_n 3, 1) := by decide +kernel
theorem dL_law_598 : decode cL_law 598 = .ok (.iconst 2, 1) := by decide +kernel
theorem dL_law_599 : decode cL_law 599 = .ok (.iadd, 1) := by decide +kernel
theorem dL_law_600 : decode cL_law 600 = .ok (.iaload, 1) := by decide +kernel
theorem dL_law_601 : decode cL_law 601 = .ok (.invokevirtual 49, 3) := by decide +kernel
theorem dL_law_604 : decode cL_law 604 = .ok (.aload_n 2, 1) := by decide +kernel
theorem dL_law_605 : decode cL_law 605 = .ok (.aload_n 0, 1) := by decide +kernel
theorem dL_law_606 : decode cL_law 606 = .ok (.iload_n 3, 1) := by decide +kernel
theorem dL_law_607 : decode cL_law 607 = .ok (.iconst 1, 1) := by decide +kernel
theorem dL_law_608 : decode cL_law 608 = .ok (.iadd, 1) := by decide +kernel
theorem dL_law_609 : decode cL_law 609 = .ok (.iaload, 1) := by decide +kernel
theorem dL_law_610 : decode cL_law 610 = .ok (.aload_n 0, 1) := by decide +kernel
theorem dL_law_611 : decode cL_law 611 = .ok (.iload_n 3, 1) := by decide +kernel
theorem dL_law_612 : decode cL_law 612 = .ok (.iconst 2, 1) := by decide +kernel
theorem dL_law_613 : decode cL_law 613 = .ok (.iadd, 1) := by decide +kernel
theorem dL_law_614 : decode cL_law 614 = .ok (.iaload, 1) := by decide +kernel
theorem dL_law_615 : decode cL_law 615 = .ok (.invokevirtual 52, 3) := by decide +kernel
theorem dL_law_618 : decode cL_law 618 = .ok (.if_icmp .eq 1311, 3) := by decide +kernel
theorem dL_law_621 : decode cL_law 621 = .ok (.iconst 0, 1) := by decide +kernel
theorem dL_law_622 : decode cL_law 622 = .ok (.ireturn, 1) := by decide +kernel
theorem dL_law_623 : decode cL_law 623 = .ok (.aload_n 1, 1) := by decide +kernel
theorem dL_law_624 : decode cL_law 624 = .ok (.aload_n 0, 1) := by decide +kernel
theorem dL_law_625 : decode cL_law 625 = .ok (.iload_n 3, 1) := by decide +kernel
theorem dL_law_626 : decode cL_law 626 = .ok (.iconst 1, 1) := by decide +kernel
theorem dL_law_627 : decode cL_law 627 = .ok (.iadd, 1) := by decide +kernel
theorem dL_law_628 : decode cL_law 628 = .ok (.iaload, 1) := by decide +kernel
theorem dL_law_629 : decode cL_law 629 = .ok (.aload_n 0, 1) := by decide +kernel
theorem dL_law_630 : decode cL_law 630 = .ok (.iload_n 3, 1) := by decide +kernel
theorem dL_law_631 : decode cL_law 631 = .ok (.iconst 2, 1) := by decide +kernel
theorem dL_law_632 : decode cL_law 632 = .ok (.iadd, 1) := by decide +kernel
theorem dL_law_633 : decode cL_law 633 = .ok (.iaload, 1) := by decide +kernel
theorem dL_law_634 : decode cL_law 634 = .ok (.aload_n 0, 1) := by decide +kernel
theorem dL_law_635 : decode cL_law 635 = .ok (.iload_n 3, 1) := by decide +kernel
theorem dL_law_636 : decode cL_law 636 = .ok (.iconst 3, 1) := by decide +kernel
theorem dL_law_637 : decode cL_law 637 = .ok (.iadd, 1) := by decide +kernel
theorem dL_law_638 : decode cL_law 638 = .ok (.iaload, 1) := by decide +kernel
theorem dL_law_639 : decode cL_law 639 = .ok (.invokevirtual 53, 3) := by decide +kernel
theorem dL_law_642 : decode cL_law 642 = .ok (.aload_n 2, 1) := by decide +kernel
theorem dL_law_643 : decode cL_law 643 = .ok (.aload_n 0, 1) := by decide +kernel
theorem dL_law_644 : decode cL_law 644 = .ok (.iload_n 3, 1) := by decide +kernel
theorem dL_law_645 : decode cL_law 645 = .ok (.iconst 1, 1) := by decide +kernel
theorem dL_law_646 : decode cL_law 646 = .ok (.iadd, 1) := by decide +kernel
theorem dL_law_647 : decode cL_law 647 = .ok (.iaload, 1) := by decide +kernel
theorem dL_law_648 : decode cL_law 648 = .ok (.aload_n 0, 1) := by decide +kernel
theorem dL_law_649 : decode cL_law 649 = .ok (.iload_n 3, 1) := by decide +kernel
theorem dL_law_650 : decode cL_law 650 = .ok (.iconst 2, 1) := by decide +kernel
theorem dL_law_651 : decode cL_law 651 = .ok (.iadd, 1) := by decide +kernel
theorem dL_law_652 : decode cL_law 652 = .ok (.iaload, 1) := by decide +kernel
theorem dL_law_653 : decode cL_law 653 = .ok (.aload_n 0, 1) := by decide +kernel
theorem dL_law_654 : decode cL_law 654 = .ok (.iload_n 3, 1) := by decide +kernel
theorem dL_law_655 : decode cL_law 655 = .ok (.iconst 3, 1) := by decide +kernel
theorem dL_law_656 : decode cL_law 656 = .ok (.iadd, 1) := by decide +kernel
theorem dL_law_657 : decode cL_law 657 = .ok (.iaload, 1) := by decide +kernel
theorem dL_law_658 : decode cL_law 658 = .ok (.invokevirtual 56, 3) := by decide +kernel
theorem dL_law_661 : decode cL_law 661 = .ok (.if_icmp .eq 1268, 3) := by decide +kernel
theorem dL_law_664 : decode cL_law 664 = .ok (.iconst 0, 1) := by decide +kernel
theorem dL_law_665 : decode cL_law 665 = .ok (.ireturn, 1) := by decide +kernel
theorem dL_law_666 : decode cL_law 666 = .ok (.aload_n 1, 1) := by decide +kernel
theorem dL_law_667 : decode cL_law 667 = .ok (.aload_n 0, 1) := by decide +kernel
theorem dL_law_668 : decode cL_law 668 = .ok (.iload_n 3, 1) := by decide +kernel
theorem dL_law_669 : decode cL_law 669 = .ok (.iconst 1, 1) := by decide +kernel
theorem dL_law_670 : decode cL_law 670 = .ok (.iadd, 1) := by decide +kernel
theorem dL_law_671 : decode cL_law 671 = .ok (.iaload, 1) := by decide +kernel
theorem dL_law_672 : decode cL_law 672 = .ok (.aload_n 0, 1) := by decide +kernel
theorem dL_law_673 : decode cL_law 673 = .ok (.iload_n 3, 1) := by decide +kernel
theorem dL_law_674 : decode cL_law 674 = .ok (.iconst 2, 1) := by decide +kernel
theorem dL_law_675 : decode cL_law 675 = .ok (.iadd, 1) := by decide +kernel
theorem dL_law_676 : decode cL_law 676 = .ok (.iaload, 1) := by decide +kernel
theorem dL_law_677 : decode cL_law 677 = .ok (.aload_n 0, 1) := by decide +kernel
theorem dL_law_678 : decode cL_law 678 = .ok (.iload_n 3, 1) := by decide +kernel
theorem dL_law_679 : decode cL_law 679 = .ok (.iconst 3, 1) := by decide +kernel
theorem dL_law_680 : decode cL_law 680 = .ok (.iadd, 1) := by decide +kernel
theorem dL_law_681 : decode cL_law 681 = .ok (.iaload, 1) := by decide +kernel
theorem dL_law_682 : decode cL_law 682 = .ok (.invokevirtual 57, 3) := by decide +kernel
theorem dL_law_685 : decode cL_law 685 = .ok (.aload_n 2, 1) := by decide +kernel
theorem dL_law_686 : decode cL_law 686 = .ok (.aload_n 0, 1) := by decide +kernel
theorem dL_law_687 : decode cL_law 687 = .ok (.iload_n 3, 1) := by decide +kernel
theorem dL_law_688 : decode cL_law 688 = .ok (.iconst 1, 1) := by decide +kernel
theorem dL_law_689 : decode cL_law 689 = .ok (.iadd, 1) := by decide +kernel
theorem dL_law_690 : decode cL_law 690 = .ok (.iaload, 1) := by decide +kernel
theorem dL_law_691 : decode cL_law 691 = .ok (.aload_n 0, 1) := by decide +kernel
theorem dL_law_692 : decode cL_law 692 = .ok (.iload_n 3, 1) := by decide +kernel
theorem dL_law_693 : decode cL_law 693 = .ok (.iconst 2, 1) := by decide +kernel
theorem dL_law_694 : decode cL_law 694 = .ok (.iadd, 1) := by decide +kernel
theorem dL_law_695 : decode cL_law 695 = .ok (.iaload, 1) := by decide +kernel
theorem dL_law_696 : decode cL_law 696 = .ok (.aload_n 0, 1) := by decide +kernel
theorem dL_law_697 : decode cL_law 697 = .ok (.iload_n 3, 1) := by decide +kernel
theorem dL_law_698 : decode cL_law 698 = .ok (.iconst 3, 1) := by decide +kernel
theorem dL_law_699 : decode cL_law 699 = .ok (.iadd, 1) := by decide +kernel
theorem dL_law_700 : decode cL_law 700 = .ok (.iaload, 1) := by decide +kernel
theorem dL_law_701 : decode cL_law 701 = .ok (.invokevirtual 60, 3) := by decide +kernel
theorem dL_law_704 : decode cL_law 704 = .ok (.if_icmp .eq 1225, 3) := by decide +kernel
theorem dL_law_707 : decode cL_law 707 = .ok (.iconst 0, 1) := by decide +kernel
theorem dL_law_708 : decode cL_law 708 = .ok (.ireturn, 1) := by decide +kernel
theorem dL_law_709 : decode cL_law 709 = .ok (.aload_n 1, 1) := by decide +kernel
theorem dL_law_710 : decode cL_law 710 = .ok (.aload_n 0, 1) := by decide +kernel
theorem dL_law_711 : decode cL_law 711 = .ok (.iload_n 3, 1) := by decide +kernel
theorem dL_law_712 : decode cL_law 712 = .ok (.iconst 1, 1) := by decide +kernel
theorem dL_law_713 : decode cL_law 713 = .ok (.iadd, 1) := by decide +kernel
theorem dL_law_714 : decode cL_law 714 = .ok (.iaload, 1) := by decide +kernel
theorem dL_law_715 : decode cL_law 715 = .ok (.aload_n 0, 1) := by decide +kernel
theorem dL_law_716 : decode cL_law 716 = .ok (.iload_n 3, 1) := by decide +kernel
theorem dL_law_717 : decode cL_law 717 = .ok (.iconst 2, 1) := by decide +kernel
theorem dL_law_718 : decode cL_law 718 = .ok (.iadd, 1) := by decide +kernel
theorem dL_law_719 : decode cL_law 719 = .ok (.iaload, 1) := by decide +kernel
theorem dL_law_720 : decode cL_law 720 = .ok (.aload_n 0, 1) := by decide +kernel
theorem dL_law_721 : decode cL_law 721 = .ok (.iload_n 3, 1) := by decide +kernel
theorem dL_law_722 : decode cL_law 722 = .ok (.iconst 3, 1) := by decide +kernel
theorem dL_law_723 : decode cL_law 723 = .ok (.iadd, 1) := by decide +kernel
theorem dL_law_724 : decode cL_law 724 = .ok (.iaload, 1) := by decide +kernel
theorem dL_law_725 : decode cL_law 725 = .ok (.invokevirtual 61, 3) := by decide +kernel
theorem dL_law_728 : decode cL_law 728 = .ok (.aload_n 2, 1) := by decide +kernel
theorem dL_law_729 : decode cL_law 729 = .ok (.aload_n 0, 1) := by decide +kernel
theorem dL_law_730 : decode cL_law 730 = .ok (.iload_n 3, 1) := by decide +kernel
theorem dL_law_731 : decode cL_law 731 = .ok (.iconst 1, 1) := by decide +kernel
theorem dL_law_732 : decode cL_law 732 = .ok (.iadd, 1) := by decide +kernel
theorem dL_law_733 : decode cL_law 733 = .ok (.iaload, 1) := by decide +kernel
theorem dL_law_734 : decode cL_law 734 = .ok (.aload_n 0, 1) := by decide +kernel
theorem dL_law_735 : decode cL_law 735 = .ok (.iload_n 3, 1) := by decide +kernel
theorem dL_law_736 : decode cL_law 736 = .ok (.iconst 2, 1) := by decide +kernel
theorem dL_law_737 : decode cL_law 737 = .ok (.iadd, 1) := by decide +kernel
theorem dL_law_738 : decode cL_law 738 = .ok (.iaload, 1) := by decide +kernel
theorem dL_law_739 : decode cL_law 739 = .ok (.aload_n 0, 1) := by decide +kernel
theorem dL_law_740 : decode cL_law 740 = .ok (.iload_n 3, 1) := by decide +kernel
theorem dL_law_741 : decode cL_law 741 = .ok (.iconst 3, 1) := by decide +kernel
theorem dL_law_742 : decode cL_law 742 = .ok (.iadd, 1) := by decide +kernel
theorem dL_law_743 : decode cL_law 743 = .ok (.iaload, 1) := by decide +kernel
theorem dL_law_744 : decode cL_law 744 = .ok (.invokevirtual 64, 3) := by decide +kernel
theorem dL_law_747 : decode cL_law 747 = .ok (.if_icmp .eq 1182, 3) := by decide +kernel
theorem dL_law_750 : decode cL_law 750 = .ok (.iconst 0, 1) := by decide +kernel
theorem dL_law_751 : decode cL_law 751 = .ok (.ireturn, 1) := by decide +kernel
theorem dL_law_752 : decode cL_law 752 = .ok (.aload_n 1, 1) := by decide +kernel
theorem dL_law_753 : decode cL_law 753 = .ok (.aload_n 0, 1) := by decide +kernel
theorem dL_law_754 : decode cL_law 754 = .ok (.iload_n 3, 1) := by decide +kernel
theorem dL_law_755 : decode cL_law 755 = .ok (.iconst 1, 1) := by decide +kernel
theorem dL_law_756 : decode cL_law 756 = .ok (.iadd, 1) := by decide +kernel
theorem dL_law_757 : decode cL_law 757 = .ok (.iaload, 1) := by decide +kernel
theorem dL_law_758 : decode cL_law 758 = .ok (.aload_n 0, 1) := by decide +kernel
theorem dL_law_759 : decode cL_law 759 = .ok (.iload_n 3, 1) := by decide +kernel
theorem dL_law_760 : decode cL_law 760 = .ok (.iconst 2, 1) := by decide +kernel
theorem dL_law_761 : decode cL_law 761 = .ok (.iadd, 1) := by decide +kernel
theorem dL_law_762 : decode cL_law 762 = .ok (.iaload, 1) := by decide +kernel
theorem dL_law_763 : decode cL_law 763 = .ok (.invokevirtual 65, 3) := by decide +kernel
theorem dL_law_766 : decode cL_law 766 = .ok (.aload_n 2, 1) := by decide +kernel
theorem dL_law_767 : decode cL_law 767 = .ok (.aload_n 0, 1) := by decide +kernel
theorem dL_law_768 : decode cL_law 768 = .ok (.iload_n 3, 1) := by decide +kernel
theorem dL_law_769 : decode cL_law 769 = .ok (.iconst 1, 1) := by decide +kernel
theorem dL_law_770 : decode cL_law 770 = .ok (.iadd, 1) := by decide +kernel
theorem dL_law_771 : decode cL_law 771 = .ok (.iaload, 1) := by decide +kernel
theorem dL_law_772 : decode cL_law 772 = .ok (.aload_n 0, 1) := by decide +kernel
theorem dL_law_773 : decode cL_law 773 = .ok (.iload_n 3, 1) := by decide +kernel
theorem dL_law_774 : decode cL_law 774 = .ok (.iconst 2, 1) := by decide +kernel
theorem dL_law_775 : decode cL_law 775 = .ok (.iadd, 1) := by decide +kernel
theorem dL_law_776 : decode cL_law 776 = .ok (.iaload, 1) := by decide +kernel
theorem dL_law_777 : decode cL_law 777 = .ok (.invokevirtual 68, 3) := by decide +kernel
theorem dL_law_780 : decode cL_law 780 = .ok (.if_icmp .eq 1149, 3) := by decide +kernel
theorem dL_law_783 : decode cL_law 783 = .ok (.iconst 0, 1) := by decide +kernel
theorem dL_law_784 : decode cL_law 784 = .ok (.ireturn, 1) := by decide +kernel
theorem dL_law_785 : decode cL_law 785 = .ok (.aload_n 1, 1) := by decide +kernel
theorem dL_law_786 : decode cL_law 786 = .ok (.aload_n 0, 1) := by decide +kernel
theorem dL_law_787 : decode cL_law 787 = .ok (.iload_n 3, 1) := by decide +kernel
theorem dL_law_788 : decode cL_law 788 = .ok (.iconst 1, 1) := by decide +kernel
theorem dL_law_789 : decode cL_law 789 = .ok (.iadd, 1) := by decide +kernel
theorem dL_law_790 : decode cL_law 790 = .ok (.iaload, 1) := by decide +kernel
theorem dL_law_791 : decode cL_law 791 = .ok (.invokevirtual 69, 3) := by decide +kernel
theorem dL_law_794 : decode cL_law 794 = .ok (.aload_n 2, 1) := by decide +kernel
theorem dL_law_795 : decode cL_law 795 = .ok (.aload_n 0, 1) := by decide +kernel
theorem dL_law_796 : decode cL_law 796 = .ok (.iload_n 3, 1) := by decide +kernel
theorem dL_law_797 : decode cL_law 797 = .ok (.iconst 1, 1) := by decide +kernel
theorem dL_law_798 : decode cL_law 798 = .ok (.iadd, 1) := by decide +kernel
theorem dL_law_799 : decode cL_law 799 = .ok (.iaload, 1) := by decide +kernel
theorem dL_law_800 : decode cL_law 800 = .ok (.invokevirtual 72, 3) := by decide +kernel
theorem dL_law_803 : decode cL_law 803 = .ok (.if_icmp .eq 1126, 3) := by decide +kernel
theorem dL_law_806 : decode cL_law 806 = .ok (.iconst 0, 1) := by decide +kernel
theorem dL_law_807 : decode cL_law 807 = .ok (.ireturn, 1) := by decide +kernel
theorem dL_law_808 : decode cL_law 808 = .ok (.aload_n 1, 1) := by decide +kernel
theorem dL_law_809 : decode cL_law 809 = .ok (.invokevirtual 73, 3) := by decide +kernel
theorem dL_law_812 : decode cL_law 812 = .ok (.aload_n 2, 1) := by decide +kernel
theorem dL_law_813 : decode cL_law 813 = .ok (.invokevirtual 77, 3) := by decide +kernel
theorem dL_law_816 : decode cL_law 816 = .ok (.if_icmp .eq 1113, 3) := by decide +kernel
theorem dL_law_819 : decode cL_law 819 = .ok (.iconst 0, 1) := by decide +kernel
theorem dL_law_820 : decode cL_law 820 = .ok (.ireturn, 1) := by decide +kernel
theorem dL_law_821 : decode cL_law 821 = .ok (.aload_n 1, 1) := by decide +kernel
theorem dL_law_822 : decode cL_law 822 = .ok (.invokevirtual 78, 3) := by decide +kernel
theorem dL_law_825 : decode cL_law 825 = .ok (.aload_n 2, 1) := by decide +kernel
theorem dL_law_826 : decode cL_law 826 = .ok (.invokevirtual 81, 3) := by decide +kernel
theorem dL_law_829 : decode cL_law 829 = .ok (.if_icmp .eq 1100, 3) := by decide +kernel
theorem dL_law_832 : decode cL_law 832 = .ok (.iconst 0, 1) := by decide +kernel
theorem dL_law_833 : decode cL_law 833 = .ok (.ireturn, 1) := by decide +kernel
theorem dL_law_834 : decode cL_law 834 = .ok (.aload_n 1, 1) := by decide +kernel
theorem dL_law_835 : decode cL_law 835 = .ok (.aload_n 0, 1) := by decide +kernel
theorem dL_law_836 : decode cL_law 836 = .ok (.iload_n 3, 1) := by decide +kernel
theorem dL_law_837 : decode cL_law 837 = .ok (.iconst 1, 1) := by decide +kernel
theorem dL_law_838 : decode cL_law 838 = .ok (.iadd, 1) := by decide +kernel
theorem dL_law_839 : decode cL_law 839 = .ok (.iaload, 1) := by decide +kernel
theorem dL_law_840 : decode cL_law 840 = .ok (.aload_n 0, 1) := by decide +kernel
theorem dL_law_841 : decode cL_law 841 = .ok (.iload_n 3, 1) := by decide +kernel
theorem dL_law_842 : decode cL_law 842 = .ok (.iconst 2, 1) := by decide +kernel
theorem dL_law_843 : decode cL_law 843 = .ok (.iadd, 1) := by decide +kernel
theorem dL_law_844 : decode cL_law 844 = .ok (.iaload, 1) := by decide +kernel
theorem dL_law_845 : decode cL_law 845 = .ok (.invokevirtual 82, 3) := by decide +kernel
theorem dL_law_848 : decode cL_law 848 = .ok (.aload_n 2, 1) := by decide +kernel
theorem dL_law_849 : decode cL_law 849 = .ok (.aload_n 0, 1) := by decide +kernel
theorem dL_law_850 : decode cL_law 850 = .ok (.iload_n 3, 1) := by decide +kernel
theorem dL_law_851 : decode cL_law 851 = .ok (.iconst 1, 1) := by decide +kernel
theorem dL_law_852 : decode cL_law 852 = .ok (.iadd, 1) := by decide +kernel
theorem dL_law_853 : decode cL_law 853 = .ok (.iaload, 1) := by decide +kernel
theorem dL_law_854 : decode cL_law 854 = .ok (.aload_n 0, 1) := by decide +kernel
theorem dL_law_855 : decode cL_law 855 = .ok (.iload_n 3, 1) := by decide +kernel
theorem dL_law_856 : decode cL_law 856 = .ok (.iconst 2, 1) := by decide +kernel
theorem dL_law_857 : decode cL_law 857 = .ok (.iadd, 1) := by decide +kernel
theorem dL_law_858 : decode cL_law 858 = .ok (.iaload, 1) := by decide +kernel
theorem dL_law_859 : decode cL_law 859 = .ok (.invokevirtual 85, 3) := by decide +kernel
theorem dL_law_862 : decode cL_law 862 = .ok (.if_icmp .eq 1067, 3) := by decide +kernel
theorem dL_law_865 : decode cL_law 865 = .ok (.iconst 0, 1) := by decide +kernel
theorem dL_law_866 : decode cL_law 866 = .ok (.ireturn, 1) := by decide +kernel
theorem dL_law_867 : decode cL_law 867 = .ok (.aload_n 1, 1) := by decide +kernel
theorem dL_law_868 : decode cL_law 868 = .ok (.aload_n 0, 1) := by decide +kernel
theorem dL_law_869 : decode cL_law 869 = .ok (.iload_n 3, 1) := by decide +kernel
theorem dL_law_870 : decode cL_law 870 = .ok (.iconst 1, 1) := by decide +kernel
theorem dL_law_871 : decode cL_law 871 = .ok (.iadd, 1) := by decide +kernel
theorem dL_law_872 : decode cL_law 872 = .ok (.iaload, 1) := by decide +kernel
theorem dL_law_873 : decode cL_law 873 = .ok (.aload_n 0, 1) := by decide +kernel
theorem dL_law_874 : decode cL_law 874 = .ok (.iload_n 3, 1) := by decide +kernel
theorem dL_law_875 : decode cL_law 875 = .ok (.iconst 2, 1) := by decide +kernel
theorem dL_law_876 : decode cL_law 876 = .ok (.iadd, 1) := by decide +kernel
theorem dL_law_877 : decode cL_law 877 = .ok (.iaload, 1) := by decide +kernel
theorem dL_law_878 : decode cL_law 878 = .ok (.invokevirtual 86, 3) := by decide +kernel
theorem dL_law_881 : decode cL_law 881 = .ok (.aload_n 2, 1) := by decide +kernel
theorem dL_law_882 : decode cL_law 882 = .ok (.aload_n 0, 1) := by decide +kernel
theorem dL_law_883 : decode cL_law 883 = .ok (.iload_n 3, 1) := by decide +kernel
theorem dL_law_884 : decode cL_law 884 = .ok (.iconst 1, 1) := by decide +kernel
theorem dL_law_885 : decode cL_law 885 = .ok (.iadd, 1) := by decide +kernel
theorem dL_law_886 : decode cL_law 886 = .ok (.iaload, 1) := by decide +kernel
theorem dL_law_887 : decode cL_law 887 = .ok (.aload_n 0, 1) := by decide +kernel
theorem dL_law_888 : decode cL_law 888 = .ok (.iload_n 3, 1) := by decide +kernel
theorem dL_law_889 : decode cL_law 889 = .ok (.iconst 2, 1) := by decide +kernel
theorem dL_law_890 : decode cL_law 890 = .ok (.iadd, 1) := by decide +kernel
theorem dL_law_891 : decode cL_law 891 = .ok (.iaload, 1) := by decide +kernel
theorem dL_law_892 : decode cL_law 892 = .ok (.invokevirtual 89, 3) := by decide +kernel
theorem dL_law_895 : decode cL_law 895 = .ok (.if_icmp .eq 1034, 3) := by decide +kernel
theorem dL_law_898 : decode cL_law 898 = .ok (.iconst 0, 1) := by decide +kernel
theorem dL_law_899 : decode cL_law 899 = .ok (.ireturn, 1) := by decide +kernel
theorem dL_law_900 : decode cL_law 900 = .ok (.aload_n 1, 1) := by decide +kernel
theorem dL_law_901 : decode cL_law 901 = .ok (.aload_n 0, 1) := by decide +kernel
theorem dL_law_902 : decode cL_law 902 = .ok (.iload_n 3, 1) := by decide +kernel
theorem dL_law_903 : decode cL_law 903 = .ok (.iconst 1, 1) := by decide +kernel
theorem dL_law_904 : decode cL_law 904 = .ok (.iadd, 1) := by decide +kernel
theorem dL_law_905 : decode cL_law 905 = .ok (.iaload, 1) := by decide +kernel
theorem dL_law_906 : decode cL_law 906 = .ok (.invokevirtual 90, 3) := by decide +kernel
theorem dL_law_909 : decode cL_law 909 = .ok (.aload_n 2, 1) := by decide +kernel
theorem dL_law_910 : decode cL_law 910 = .ok (.aload_n 0, 1) := by decide +kernel
theorem dL_law_911 : decode cL_law 911 = .ok (.iload_n 3, 1) := by decide +kernel
theorem dL_law_912 : decode cL_law 912 = .ok (.iconst 1, 1) := by decide +kernel
theorem dL_law_913 : decode cL_law 913 = .ok (.iadd, 1) := by decide +kernel
theorem dL_law_914 : decode cL_law 914 = .ok (.iaload, 1) := by decide +kernel
theorem dL_law_915 : decode cL_law 915 = .ok (.invokevirtual 93, 3) := by decide +kernel
theorem dL_law_918 : decode cL_law 918 = .ok (.if_icmp .eq 1011, 3) := by decide +kernel
theorem dL_law_921 : decode cL_law 921 = .ok (.iconst 0, 1) := by decide +kernel
theorem dL_law_922 : decode cL_law 922 = .ok (.ireturn, 1) := by decide +kernel
theorem dL_law_923 : decode cL_law 923 = .ok (.aload_n 1, 1) := by decide +kernel
theorem dL_law_924 : decode cL_law 924 = .ok (.aload_n 0, 1) := by decide +kernel
theorem dL_law_925 : decode cL_law 925 = .ok (.iload_n 3, 1) := by decide +kernel
theorem dL_law_926 : decode cL_law 926 = .ok (.iconst 1, 1) := by decide +kernel
theorem dL_law_927 : decode cL_law 927 = .ok (.iadd, 1) := by decide +kernel
theorem dL_law_928 : decode cL_law 928 = .ok (.iaload, 1) := by decide +kernel
theorem dL_law_929 : decode cL_law 929 = .ok (.invokevirtual 94, 3) := by decide +kernel
theorem dL_law_932 : decode cL_law 932 = .ok (.aload_n 2, 1) := by decide +kernel
theorem dL_law_933 : decode cL_law 933 = .ok (.aload_n 0, 1) := by decide +kernel
theorem dL_law_934 : decode cL_law 934 = .ok (.iload_n 3, 1) := by decide +kernel
theorem dL_law_935 : decode cL_law 935 = .ok (.iconst 1, 1) := by decide +kernel
theorem dL_law_936 : decode cL_law 936 = .ok (.iadd, 1) := by decide +kernel
theorem dL_law_937 : decode cL_law 937 = .ok (.iaload, 1) := by decide +kernel
theorem dL_law_938 : decode cL_law 938 = .ok (.invokevirtual 97, 3) := by decide +kernel
theorem dL_law_941 : decode cL_law 941 = .ok (.if_icmp .eq 988, 3) := by decide +kernel
theorem dL_law_944 : decode cL_law 944 = .ok (.iconst 0, 1) := by decide +kernel
theorem dL_law_945 : decode cL_law 945 = .ok (.ireturn, 1) := by decide +kernel
theorem dL_law_946 : decode cL_law 946 = .ok (.aload_n 1, 1) := by decide +kernel
theorem dL_law_947 : decode cL_law 947 = .ok (.aload_n 0, 1) := by decide +kernel
theorem dL_law_948 : decode cL_law 948 = .ok (.iload_n 3, 1) := by decide +kernel
theorem dL_law_949 : decode cL_law 949 = .ok (.iconst 1, 1) := by decide +kernel
theorem dL_law_950 : decode cL_law 950 = .ok (.iadd, 1) := by decide +kernel
theorem dL_law_951 : decode cL_law 951 = .ok (.iaload, 1) := by decide +kernel
theorem dL_law_952 : decode cL_law 952 = .ok (.invokevirtual 98, 3) := by decide +kernel
theorem dL_law_955 : decode cL_law 955 = .ok (.aload_n 2, 1) := by decide +kernel
theorem dL_law_956 : decode cL_law 956 = .ok (.aload_n 0, 1) := by decide +kernel
theorem dL_law_957 : decode cL_law 957 = .ok (.iload_n 3, 1) := by decide +kernel
theorem dL_law_958 : decode cL_law 958 = .ok (.iconst 1, 1) := by decide +kernel
theorem dL_law_959 : decode cL_law 959 = .ok (.iadd, 1) := by decide +kernel
theorem dL_law_960 : decode cL_law 960 = .ok (.iaload, 1) := by decide +kernel
theorem dL_law_961 : decode cL_law 961 = .ok (.invokevirtual 101, 3) := by decide +kernel
theorem dL_law_964 : decode cL_law 964 = .ok (.if_icmp .eq 965, 3) := by decide +kernel
theorem dL_law_967 : decode cL_law 967 = .ok (.iconst 0, 1) := by decide +kernel
theorem dL_law_968 : decode cL_law 968 = .ok (.ireturn, 1) := by decide +kernel
theorem dL_law_969 : decode cL_law 969 = .ok (.aload_n 1, 1) := by decide +kernel
theorem dL_law_970 : decode cL_law 970 = .ok (.aload_n 0, 1) := by decide +kernel
theorem dL_law_971 : decode cL_law 971 = .ok (.iload_n 3, 1) := by decide +kernel
theorem dL_law_972 : decode cL_law 972 = .ok (.iconst 1, 1) := by decide +kernel
theorem dL_law_973 : decode cL_law 973 = .ok (.iadd, 1) := by decide +kernel
theorem dL_law_974 : decode cL_law 974 = .ok (.iaload, 1) := by decide +kernel
theorem dL_law_975 : decode cL_law 975 = .ok (.invokevirtual 102, 3) := by decide +kernel
theorem dL_law_978 : decode cL_law 978 = .ok (.aload_n 2, 1) := by decide +kernel
theorem dL_law_979 : decode cL_law 979 = .ok (.aload_n 0, 1) := by decide +kernel
theorem dL_law_980 : decode cL_law 980 = .ok (.iload_n 3, 1) := by decide +kernel
theorem dL_law_981 : decode cL_law 981 = .ok (.iconst 1, 1) := by decide +kernel
theorem dL_law_982 : decode cL_law 982 = .ok (.iadd, 1) := by decide +kernel
theorem dL_law_983 : decode cL_law 983 = .ok (.iaload, 1) := by decide +kernel
theorem dL_law_984 : decode cL_law 984 = .ok (.invokevirtual 105, 3) := by decide +kernel
theorem dL_law_987 : decode cL_law 987 = .ok (.if_icmp .eq 942, 3) := by decide +kernel
theorem dL_law_990 : decode cL_law 990 = .ok (.iconst 0, 1) := by decide +kernel
theorem dL_law_991 : decode cL_law 991 = .ok (.ireturn, 1) := by decide +kernel
theorem dL_law_992 : decode cL_law 992 = .ok (.aload_n 1, 1) := by decide +kernel
theorem dL_law_993 : decode cL_law 993 = .ok (.aload_n 0, 1) := by decide +kernel
theorem dL_law_994 : decode cL_law 994 = .ok (.iload_n 3, 1) := by decide +kernel
theorem dL_law_995 : decode cL_law 995 = .ok (.iconst 1, 1) := by decide +kernel
theorem dL_law_996 : decode cL_law 996 = .ok (.iadd, 1) := by decide +kernel
theorem dL_law_997 : decode cL_law 997 = .ok (.iaload, 1) := by decide +kernel
theorem dL_law_998 : decode cL_law 998 = .ok (.invokevirtual 106, 3) := by decide +kernel
theorem dL_law_1001 : decode cL_law 1001 = .ok (.aload_n 2, 1) := by decide +kernel
theorem dL_law_1002 : decode cL_law 1002 = .ok (.aload_n 0, 1) := by decide +kernel
theorem dL_law_1003 : decode cL_law 1003 = .ok (.iload_n 3, 1) := by decide +kernel
theorem dL_law_1004 : decode cL_law 1004 = .ok (.iconst 1, 1) := by decide +kernel
theorem dL_law_1005 : decode cL_law 1005 = .ok (.iadd, 1) := by decide +kernel
theorem dL_law_1006 : decode cL_law 1006 = .ok (.iaload, 1) := by decide +kernel
theorem dL_law_1007 : decode cL_law 1007 = .ok (.invokevirtual 109, 3) := by decide +kernel
theorem dL_law_1010 : decode cL_law 1010 = .ok (.if_icmp .eq 919, 3) := by decide +kernel
theorem dL_law_1013 : decode cL_law 1013 = .ok (.iconst 0, 1) := by decide +kernel
theorem dL_law_1014 : decode cL_law 1014 = .ok (.ireturn, 1) := by decide +kernel
theorem dL_law_1015 : decode cL_law 1015 = .ok (.aload_n 1, 1) := by decide +kernel
theorem dL_law_1016 : decode cL_law 1016 = .ok (.aload_n 0, 1) := by decide +kernel
theorem dL_law_1017 : decode cL_law 1017 = .ok (.iload_n 3, 1) := by decide +kernel
theorem dL_law_1018 : decode cL_law 1018 = .ok (.iconst 1, 1) := by decide +kernel
theorem dL_law_1019 : decode cL_law 1019 = .ok (.iadd, 1) := by decide +kernel
theorem dL_law_1020 : decode cL_law 1020 = .ok (.iaload, 1) := by decide +kernel
theorem dL_law_1021 : decode cL_law 1021 = .ok (.invokevirtual 110, 3) := by decide +kernel
theorem dL_law_1024 : decode cL_law 1024 = .ok (.aload_n 2, 1) := by decide +kernel
theorem dL_law_1025 : decode cL_law 1025 = .ok (.aload_n 0, 1) := by decide +kernel
theorem dL_law_1026 : decode cL_law 1026 = .ok (.iload_n 3, 1) := by decide +kernel
theorem dL_law_1027 : decode cL_law 1027 = .ok (.iconst 1, 1) := by decide +kernel
theorem dL_law_1028 : decode cL_law 1028 = .ok (.iadd, 1) := by decide +kernel
theorem dL_law_1029 : decode cL_law 1029 = .ok (.iaload, 1) := by decide +kernel
theorem dL_law_1030 : decode cL_law 1030 = .ok (.invokevirtual 113, 3) := by decide +kernel
theorem dL_law_1033 : decode cL_law 1033 = .ok (.if_icmp .eq 896, 3) := by decide +kernel
theorem dL_law_1036 : decode cL_law 1036 = .ok (.iconst 0, 1) := by decide +kernel
theorem dL_law_1037 : decode cL_law 1037 = .ok (.ireturn, 1) := by decide +kernel
theorem dL_law_1038 : decode cL_law 1038 = .ok (.aload_n 1, 1) := by decide +kernel
theorem dL_law_1039 : decode cL_law 1039 = .ok (.aload_n 0, 1) := by decide +kernel
theorem dL_law_1040 : decode cL_law 1040 = .ok (.iload_n 3, 1) := by decide +kernel
theorem dL_law_1041 : decode cL_law 1041 = .ok (.iconst 1, 1) := by decide +kernel
theorem dL_law_1042 : decode cL_law 1042 = .ok (.iadd, 1) := by decide +kernel
theorem dL_law_1043 : decode cL_law 1043 = .ok (.iaload, 1) := by decide +kernel
theorem dL_law_1044 : decode cL_law 1044 = .ok (.invokevirtual 114, 3) := by decide +kernel
theorem dL_law_1047 : decode cL_law 1047 = .ok (.aload_n 2, 1) := by decide +kernel
theorem dL_law_1048 : decode cL_law 1048 = .ok (.aload_n 0, 1) := by decide +kernel
theorem dL_law_1049 : decode cL_law 1049 = .ok (.iload_n 3, 1) := by decide +kernel
theorem dL_law_1050 : decode cL_law 1050 = .ok (.iconst 1, 1) := by decide +kernel
theorem dL_law_1051 : decode cL_law 1051 = .ok (.iadd, 1) := by decide +kernel
theorem dL_law_1052 : decode cL_law 1052 = .ok (.iaload, 1) := by decide +kernel
theorem dL_law_1053 : decode cL_law 1053 = .ok (.invokevirtual 117, 3) := by decide +kernel
theorem dL_law_1056 : decode cL_law 1056 = .ok (.if_icmp .eq 873, 3) := by decide +kernel
theorem dL_law_1059 : decode cL_law 1059 = .ok (.iconst 0, 1) := by decide +kernel
theorem dL_law_1060 : decode cL_law 1060 = .ok (.ireturn, 1) := by decide +kernel
theorem dL_law_1061 : decode cL_law 1061 = .ok (.aload_n 1, 1) := by decide +kernel
theorem dL_law_1062 : decode cL_law 1062 = .ok (.aload_n 0, 1) := by decide +kernel
theorem dL_law_1063 : decode cL_law 1063 = .ok (.iload_n 3, 1) := by decide +kernel
theorem dL_law_1064 : decode cL_law 1064 = .ok (.iconst 1, 1) := by decide +kernel
theorem dL_law_1065 : decode cL_law 1065 = .ok (.iadd, 1) := by decide +kernel
theorem dL_law_1066 : decode cL_law 1066 = .ok (.iaload, 1) := by decide +kernel
theorem dL_law_1067 : decode cL_law 1067 = .ok (.invokevirtual 118, 3) := by decide +kernel
theorem dL_law_1070 : decode cL_law 1070 = .ok (.aload_n 2, 1) := by decide +kernel
theorem dL_law_1071 : decode cL_law 1071 = .ok (.aload_n 0, 1) := by decide +kernel
theorem dL_law_1072 : decode cL_law 1072 = .ok (.iload_n 3, 1) := by decide +kernel
theorem dL_law_1073 : decode cL_law 1073 = .ok (.iconst 1, 1) := by decide +kernel
theorem dL_law_1074 : decode cL_law 1074 = .ok (.iadd, 1) := by decide +kernel
theorem dL_law_1075 : decode cL_law 1075 = .ok (.iaload, 1) := by decide +kernel
theorem dL_law_1076 : decode cL_law 1076 = .ok (.invokevirtual 121, 3) := by decide +kernel
theorem dL_law_1079 : decode cL_law 1079 = .ok (.if_icmp .eq 850, 3) := by decide +kernel
theorem dL_law_1082 : decode cL_law 1082 = .ok (.iconst 0, 1) := by decide +kernel
theorem dL_law_1083 : decode cL_law 1083 = .ok (.ireturn, 1) := by decide +kernel
theorem dL_law_1084 : decode cL_law 1084 = .ok (.aload_n 1, 1) := by decide +kernel
theorem dL_law_1085 : decode cL_law 1085 = .ok (.aload_n 0, 1) := by decide +kernel
theorem dL_law_1086 : decode cL_law 1086 = .ok (.iload_n 3, 1) := by decide +kernel
theorem dL_law_1087 : decode cL_law 1087 = .ok (.iconst 1, 1) := by decide +kernel
theorem dL_law_1088 : decode cL_law 1088 = .ok (.iadd, 1) := by decide +kernel
theorem dL_law_1089 : decode cL_law 1089 = .ok (.iaload, 1) := by decide +kernel
theorem dL_law_1090 : decode cL_law 1090 = .ok (.aload_n 0, 1) := by decide +kernel
theorem dL_law_1091 : decode cL_law 1091 = .ok (.iload_n 3, 1) := by decide +kernel
theorem dL_law_1092 : decode cL_law 1092 = .ok (.iconst 2, 1) := by decide +kernel
theorem dL_law_1093 : decode cL_law 1093 = .ok (.iadd, 1) := by decide +kernel
theorem dL_law_1094 : decode cL_law 1094 = .ok (.iaload, 1) := by decide +kernel
theorem dL_law_1095 : decode cL_law 1095 = .ok (.invokevirtual 122, 3) := by decide +kernel
theorem dL_law_1098 : decode cL_law 1098 = .ok (.aload_n 2, 1) := by decide +kernel
theorem dL_law_1099 : decode cL_law 1099 = .ok (.aload_n 0, 1) := by decide +kernel
theorem dL_law_1100 : decode cL_law 1100 = .ok (.iload_n 3, 1) := by decide +kernel
theorem dL_law_1101 : decode cL_law 1101 = .ok (.iconst 1, 1) := by decide +kernel
theorem dL_law_1102 : decode cL_law 1102 = .ok (.iadd, 1) := by decide +kernel
theorem dL_law_1103 : decode cL_law 1103 = .ok (.iaload, 1) := by decide +kernel
theorem dL_law_1104 : decode cL_law 1104 = .ok (.aload_n 0, 1) := by decide +kernel
theorem dL_law_1105 : decode cL_law 1105 = .ok (.iload_n 3, 1) := by decide +kernel
theorem dL_law_1106 : decode cL_law 1106 = .ok (.iconst 2, 1) := by decide +kernel
theorem dL_law_1107 : decode cL_law 1107 = .ok (.iadd, 1) := by decide +kernel
theorem dL_law_1108 : decode cL_law 1108 = .ok (.iaload, 1) := by decide +kernel
theorem dL_law_1109 : decode cL_law 1109 = .ok (.invokevirtual 125, 3) := by decide +kernel
theorem dL_law_1112 : decode cL_law 1112 = .ok (.if_icmp .eq 817, 3) := by decide +kernel
theorem dL_law_1115 : decode cL_law 1115 = .ok (.iconst 0, 1) := by decide +kernel
theorem dL_law_1116 : decode cL_law 1116 = .ok (.ireturn, 1) := by decide +kernel
theorem dL_law_1117 : decode cL_law 1117 = .ok (.aload_n 1, 1) := by decide +kernel
theorem dL_law_1118 : decode cL_law 1118 = .ok (.aload_n 0, 1) := by decide +kernel
theorem dL_law_1119 : decode cL_law 1119 = .ok (.iload_n 3, 1) := by decide +kernel
theorem dL_law_1120 : decode cL_law 1120 = .ok (.iconst 1, 1) := by decide +kernel
theorem dL_law_1121 : decode cL_law 1121 = .ok (.iadd, 1) := by decide +kernel
theorem dL_law_1122 : decode cL_law 1122 = .ok (.iaload, 1) := by decide +kernel
theorem dL_law_1123 : decode cL_law 1123 = .ok (.invokevirtual 126, 3) := by decide +kernel
theorem dL_law_1126 : decode cL_law 1126 = .ok (.aload_n 2, 1) := by decide +kernel
theorem dL_law_1127 : decode cL_law 1127 = .ok (.aload_n 0, 1) := by decide +kernel
theorem dL_law_1128 : decode cL_law 1128 = .ok (.iload_n 3, 1) := by decide +kernel
theorem dL_law_1129 : decode cL_law 1129 = .ok (.iconst 1, 1) := by decide +kernel
theorem dL_law_1130 : decode cL_law 1130 = .ok (.iadd, 1) := by decide +kernel
theorem dL_law_1131 : decode cL_law 1131 = .ok (.iaload, 1) := by decide +kernel
theorem dL_law_1132 : decode cL_law 1132 = .ok (.invokevirtual 129, 3) := by decide +kernel
theorem dL_law_1135 : decode cL_law 1135 = .ok (.if_icmp .eq 794, 3) := by decide +kernel
theorem dL_law_1138 : decode cL_law 1138 = .ok (.iconst 0, 1) := by decide +kernel
theorem dL_law_1139 : decode cL_law 1139 = .ok (.ireturn, 1) := by decide +kernel
theorem dL_law_1140 : decode cL_law 1140 = .ok (.aload_n 1, 1) := by decide +kernel
theorem dL_law_1141 : decode cL_law 1141 = .ok (.aload_n 0, 1) := by decide +kernel
theorem dL_law_1142 : decode cL_law 1142 = .ok (.iload_n 3, 1) := by decide +kernel
theorem dL_law_1143 : decode cL_law 1143 = .ok (.iconst 1, 1) := by decide +kernel
theorem dL_law_1144 : decode cL_law 1144 = .ok (.iadd, 1) := by decide +kernel
theorem dL_law_1145 : decode cL_law 1145 = .ok (.iaload, 1) := by decide +kernel
theorem dL_law_1146 : decode cL_law 1146 = .ok (.invokevirtual 130, 3) := by decide +kernel
theorem dL_law_1149 : decode cL_law 1149 = .ok (.aload_n 2, 1) := by decide +kernel
theorem dL_law_1150 : decode cL_law 1150 = .ok (.aload_n 0, 1) := by decide +kernel
theorem dL_law_1151 : decode cL_law 1151 = .ok (.iload_n 3, 1) := by decide +kernel
theorem dL_law_1152 : decode cL_law 1152 = .ok (.iconst 1, 1) := by decide +kernel
theorem dL_law_1153 : decode cL_law 1153 = .ok (.iadd, 1) := by decide +kernel
theorem dL_law_1154 : decode cL_law 1154 = .ok (.iaload, 1) := by decide +kernel
theorem dL_law_1155 : decode cL_law 1155 = .ok (.invokevirtual 133, 3) := by decide +kernel
theorem dL_law_1158 : decode cL_law 1158 = .ok (.if_icmp .eq 771, 3) := by decide +kernel
theorem dL_law_1161 : decode cL_law 1161 = .ok (.iconst 0, 1) := by decide +kernel
theorem dL_law_1162 : decode cL_law 1162 = .ok (.ireturn, 1) := by decide +kernel
theorem dL_law_1163 : decode cL_law 1163 = .ok (.aload_n 1, 1) := by decide +kernel
theorem dL_law_1164 : decode cL_law 1164 = .ok (.aload_n 0, 1) := by decide +kernel
theorem dL_law_1165 : decode cL_law 1165 = .ok (.iload_n 3, 1) := by decide +kernel
theorem dL_law_1166 : decode cL_law 1166 = .ok (.iconst 1, 1) := by decide +kernel
theorem dL_law_1167 : decode cL_law 1167 = .ok (.iadd, 1) := by decide +kernel
theorem dL_law_1168 : decode cL_law 1168 = .ok (.iaload, 1) := by decide +kernel
theorem dL_law_1169 : decode cL_law 1169 = .ok (.invokevirtual 134, 3) := by decide +kernel
theorem dL_law_1172 : decode cL_law 1172 = .ok (.aload_n 2, 1) := by decide +kernel
theorem dL_law_1173 : decode cL_law 1173 = .ok (.aload_n 0, 1) := by decide +kernel
theorem dL_law_1174 : decode cL_law 1174 = .ok (.iload_n 3, 1) := by decide +kernel
theorem dL_law_1175 : decode cL_law 1175 = .ok (.iconst 1, 1) := by decide +kernel
theorem dL_law_1176 : decode cL_law 1176 = .ok (.iadd, 1) := by decide +kernel
theorem dL_law_1177 : decode cL_law 1177 = .ok (.iaload, 1) := by decide +kernel
theorem dL_law_1178 : decode cL_law 1178 = .ok (.invokevirtual 137, 3) := by decide +kernel
theorem dL_law_1181 : decode cL_law 1181 = .ok (.if_icmp .eq 748, 3) := by decide +kernel
theorem dL_law_1184 : decode cL_law 1184 = .ok (.iconst 0, 1) := by decide +kernel
theorem dL_law_1185 : decode cL_law 1185 = .ok (.ireturn, 1) := by decide +kernel
theorem dL_law_1186 : decode cL_law 1186 = .ok (.aload_n 1, 1) := by decide +kernel
theorem dL_law_1187 : decode cL_law 1187 = .ok (.aload_n 0, 1) := by decide +kernel
theorem dL_law_1188 : decode cL_law 1188 = .ok (.iload_n 3, 1) := by decide +kernel
theorem dL_law_1189 : decode cL_law 1189 = .ok (.iconst 1, 1) := by decide +kernel
theorem dL_law_1190 : decode cL_law 1190 = .ok (.iadd, 1) := by decide +kernel
theorem dL_law_1191 : decode cL_law 1191 = .ok (.iaload, 1) := by decide +kernel
theorem dL_law_1192 : decode cL_law 1192 = .ok (.aload_n 0, 1) := by decide +kernel
theorem dL_law_1193 : decode cL_law 1193 = .ok (.iload_n 3, 1) := by decide +kernel
theorem dL_law_1194 : decode cL_law 1194 = .ok (.iconst 2, 1) := by decide +kernel
theorem dL_law_1195 : decode cL_law 1195 = .ok (.iadd, 1) := by decide +kernel
theorem dL_law_1196 : decode cL_law 1196 = .ok (.iaload, 1) := by decide +kernel
theorem dL_law_1197 : decode cL_law 1197 = .ok (.invokevirtual 138, 3) := by decide +kernel
theorem dL_law_1200 : decode cL_law 1200 = .ok (.aload_n 2, 1) := by decide +kernel
theorem dL_law_1201 : decode cL_law 1201 = .ok (.aload_n 0, 1) := by decide +kernel
theorem dL_law_1202 : decode cL_law 1202 = .ok (.iload_n 3, 1) := by decide +kernel
theorem dL_law_1203 : decode cL_law 1203 = .ok (.iconst 1, 1) := by decide +kernel
theorem dL_law_1204 : decode cL_law 1204 = .ok (.iadd, 1) := by decide +kernel
theorem dL_law_1205 : decode cL_law 1205 = .ok (.iaload, 1) := by decide +kernel
theorem dL_law_1206 : decode cL_law 1206 = .ok (.aload_n 0, 1) := by decide +kernel
theorem dL_law_1207 : decode cL_law 1207 = .ok (.iload_n 3, 1) := by decide +kernel
theorem dL_law_1208 : decode cL_law 1208 = .ok (.iconst 2, 1) := by decide +kernel
theorem dL_law_1209 : decode cL_law 1209 = .ok (.iadd, 1) := by decide +kernel
theorem dL_law_1210 : decode cL_law 1210 = .ok (.iaload, 1) := by decide +kernel
theorem dL_law_1211 : decode cL_law 1211 = .ok (.invokevirtual 141, 3) := by decide +kernel
theorem dL_law_1214 : decode cL_law 1214 = .ok (.if_icmp .eq 715, 3) := by decide +kernel
theorem dL_law_1217 : decode cL_law 1217 = .ok (.iconst 0, 1) := by decide +kernel
theorem dL_law_1218 : decode cL_law 1218 = .ok (.ireturn, 1) := by decide +kernel
theorem dL_law_1219 : decode cL_law 1219 = .ok (.aload_n 1, 1) := by decide +kernel
theorem dL_law_1220 : decode cL_law 1220 = .ok (.aload_n 0, 1) := by decide +kernel
theorem dL_law_1221 : decode cL_law 1221 = .ok (.iload_n 3, 1) := by decide +kernel
theorem dL_law_1222 : decode cL_law 1222 = .ok (.iconst 1, 1) := by decide +kernel
theorem dL_law_1223 : decode cL_law 1223 = .ok (.iadd, 1) := by decide +kernel
theorem dL_law_1224 : decode cL_law 1224 = .ok (.iaload, 1) := by decide +kernel
theorem dL_law_1225 : decode cL_law 1225 = .ok (.aload_n 0, 1) := by decide +kernel
theorem dL_law_1226 : decode cL_law 1226 = .ok (.iload_n 3, 1) := by decide +kernel
theorem dL_law_1227 : decode cL_law 1227 = .ok (.iconst 2, 1) := by decide +kernel
theorem dL_law_1228 : decode cL_law 1228 = .ok (.iadd, 1) := by decide +kernel
theorem dL_law_1229 : decode cL_law 1229 = .ok (.iaload, 1) := by decide +kernel
theorem dL_law_1230 : decode cL_law 1230 = .ok (.invokevirtual 142, 3) := by decide +kernel
theorem dL_law_1233 : decode cL_law 1233 = .ok (.aload_n 2, 1) := by decide +kernel
theorem dL_law_1234 : decode cL_law 1234 = .ok (.aload_n 0, 1) := by decide +kernel
theorem dL_law_1235 : decode cL_law 1235 = .ok (.iload_n 3, 1) := by decide +kernel
theorem dL_law_1236 : decode cL_law 1236 = .ok (.iconst 1, 1) := by decide +kernel
theorem dL_law_1237 : decode cL_law 1237 = .ok (.iadd, 1) := by decide +kernel
theorem dL_law_1238 : decode cL_law 1238 = .ok (.iaload, 1) := by decide +kernel
theorem dL_law_1239 : decode cL_law 1239 = .ok (.aload_n 0, 1) := by decide +kernel
theorem dL_law_1240 : decode cL_law 1240 = .ok (.iload_n 3, 1) := by decide +kernel
theorem dL_law_1241 : decode cL_law 1241 = .ok (.iconst 2, 1) := by decide +kernel
theorem dL_law_1242 : decode cL_law 1242 = .ok (.iadd, 1) := by decide +kernel
theorem dL_law_1243 : decode cL_law 1243 = .ok (.iaload, 1) := by decide +kernel
theorem dL_law_1244 : decode cL_law 1244 = .ok (.invokevirtual 145, 3) := by decide +kernel
theorem dL_law_1247 : decode cL_law 1247 = .ok (.if_icmp .eq 682, 3) := by decide +kernel
theorem dL_law_1250 : decode cL_law 1250 = .ok (.iconst 0, 1) := by decide +kernel
theorem dL_law_1251 : decode cL_law 1251 = .ok (.ireturn, 1) := by decide +kernel
theorem dL_law_1252 : decode cL_law 1252 = .ok (.aload_n 1, 1) := by decide +kernel
theorem dL_law_1253 : decode cL_law 1253 = .ok (.aload_n 0, 1) := by decide +kernel
theorem dL_law_1254 : decode cL_law 1254 = .ok (.iload_n 3, 1) := by decide +kernel
theorem dL_law_1255 : decode cL_law 1255 = .ok (.iconst 1, 1) := by decide +kernel
theorem dL_law_1256 : decode cL_law 1256 = .ok (.iadd, 1) := by decide +kernel
theorem dL_law_1257 : decode cL_law 1257 = .ok (.iaload, 1) := by decide +kernel
theorem dL_law_1258 : decode cL_law 1258 = .ok (.aload_n 0, 1) := by decide +kernel
theorem dL_law_1259 : decode cL_law 1259 = .ok (.iload_n 3, 1) := by decide +kernel
theorem dL_law_1260 : decode cL_law 1260 = .ok (.iconst 2, 1) := by decide +kernel
theorem dL_law_1261 : decode cL_law 1261 = .ok (.iadd, 1) := by decide +kernel
theorem dL_law_1262 : decode cL_law 1262 = .ok (.iaload, 1) := by decide +kernel
theorem dL_law_1263 : decode cL_law 1263 = .ok (.invokevirtual 146, 3) := by decide +kernel
theorem dL_law_1266 : decode cL_law 1266 = .ok (.aload_n 2, 1) := by decide +kernel
theorem dL_law_1267 : decode cL_law 1267 = .ok (.aload_n 0, 1) := by decide +kernel
theorem dL_law_1268 : decode cL_law 1268 = .ok (.iload_n 3, 1) := by decide +kernel
theorem dL_law_1269 : decode cL_law 1269 = .ok (.iconst 1, 1) := by decide +kernel
theorem dL_law_1270 : decode cL_law 1270 = .ok (.iadd, 1) := by decide +kernel
theorem dL_law_1271 : decode cL_law 1271 = .ok (.iaload, 1) := by decide +kernel
theorem dL_law_1272 : decode cL_law 1272 = .ok (.aload_n 0, 1) := by decide +kernel
theorem dL_law_1273 : decode cL_law 1273 = .ok (.iload_n 3, 1) := by decide +kernel
theorem dL_law_1274 : decode cL_law 1274 = .ok (.iconst 2, 1) := by decide +kernel
theorem dL_law_1275 : decode cL_law 1275 = .ok (.iadd, 1) := by decide +kernel
theorem dL_law_1276 : decode cL_law 1276 = .ok (.iaload, 1) := by decide +kernel
theorem dL_law_1277 : decode cL_law 1277 = .ok (.invokevirtual 149, 3) := by decide +kernel
theorem dL_law_1280 : decode cL_law 1280 = .ok (.if_icmp .eq 649, 3) := by decide +kernel
theorem dL_law_1283 : decode cL_law 1283 = .ok (.iconst 0, 1) := by decide +kernel
theorem dL_law_1284 : decode cL_law 1284 = .ok (.ireturn, 1) := by decide +kernel
theorem dL_law_1285 : decode cL_law 1285 = .ok (.aload_n 1, 1) := by decide +kernel
theorem dL_law_1286 : decode cL_law 1286 = .ok (.aload_n 0, 1) := by decide +kernel
theorem dL_law_1287 : decode cL_law 1287 = .ok (.iload_n 3, 1) := by decide +kernel
theorem dL_law_1288 : decode cL_law 1288 = .ok (.iconst 1, 1) := by decide +kernel
theorem dL_law_1289 : decode cL_law 1289 = .ok (.iadd, 1) := by decide +kernel
theorem dL_law_1290 : decode cL_law 1290 = .ok (.iaload, 1) := by decide +kernel
theorem dL_law_1291 : decode cL_law 1291 = .ok (.invokevirtual 150, 3) := by decide +kernel
theorem dL_law_1294 : decode cL_law 1294 = .ok (.aload_n 2, 1) := by decide +kernel
theorem dL_law_1295 : decode cL_law 1295 = .ok (.aload_n 0, 1) := by decide +kernel
theorem dL_law_1296 : decode cL_law 1296 = .ok (.iload_n 3, 1) := by decide +kernel
theorem dL_law_1297 : decode cL_law 1297 = .ok (.iconst 1, 1) := by decide +kernel
theorem dL_law_1298 : decode cL_law 1298 = .ok (.iadd, 1) := by decide +kernel
theorem dL_law_1299 : decode cL_law 1299 = .ok (.iaload, 1) := by decide +kernel
theorem dL_law_1300 : decode cL_law 1300 = .ok (.invokevirtual 153, 3) := by decide +kernel
theorem dL_law_1303 : decode cL_law 1303 = .ok (.if_icmp .eq 626, 3) := by decide +kernel
theorem dL_law_1306 : decode cL_law 1306 = .ok (.iconst 0, 1) := by decide +kernel
theorem dL_law_1307 : decode cL_law 1307 = .ok (.ireturn, 1) := by decide +kernel
theorem dL_law_1308 : decode cL_law 1308 = .ok (.aload_n 1, 1) := by decide +kernel
theorem dL_law_1309 : decode cL_law 1309 = .ok (.aload_n 0, 1) := by decide +kernel
theorem dL_law_1310 : decode cL_law 1310 = .ok (.iload_n 3, 1) := by decide +kernel
theorem dL_law_1311 : decode cL_law 1311 = .ok (.iconst 1, 1) := by decide +kernel
theorem dL_law_1312 : decode cL_law 1312 = .ok (.iadd, 1) := by decide +kernel
theorem dL_law_1313 : decode cL_law 1313 = .ok (.iaload, 1) := by decide +kernel
theorem dL_law_1314 : decode cL_law 1314 = .ok (.invokevirtual 154, 3) := by decide +kernel
theorem dL_law_1317 : decode cL_law 1317 = .ok (.aload_n 2, 1) := by decide +kernel
theorem dL_law_1318 : decode cL_law 1318 = .ok (.aload_n 0, 1) := by decide +kernel
theorem dL_law_1319 : decode cL_law 1319 = .ok (.iload_n 3, 1) := by decide +kernel
theorem dL_law_1320 : decode cL_law 1320 = .ok (.iconst 1, 1) := by decide +kernel
theorem dL_law_1321 : decode cL_law 1321 = .ok (.iadd, 1) := by decide +kernel
theorem dL_law_1322 : decode cL_law 1322 = .ok (.iaload, 1) := by decide +kernel
theorem dL_law_1323 : decode cL_law 1323 = .ok (.invokevirtual 157, 3) := by decide +kernel
theorem dL_law_1326 : decode cL_law 1326 = .ok (.if_icmp .eq 603, 3) := by decide +kernel
theorem dL_law_1329 : decode cL_law 1329 = .ok (.iconst 0, 1) := by decide +kernel
theorem dL_law_1330 : decode cL_law 1330 = .ok (.ireturn, 1) := by decide +kernel
theorem dL_law_1331 : decode cL_law 1331 = .ok (.aload_n 1, 1) := by decide +kernel
theorem dL_law_1332 : decode cL_law 1332 = .ok (.aload_n 0, 1) := by decide +kernel
theorem dL_law_1333 : decode cL_law 1333 = .ok (.iload_n 3, 1) := by decide +kernel
theorem dL_law_1334 : decode cL_law 1334 = .ok (.iconst 1, 1) := by decide +kernel
theorem dL_law_1335 : decode cL_law 1335 = .ok (.iadd, 1) := by decide +kernel
theorem dL_law_1336 : decode cL_law 1336 = .ok (.iaload, 1) := by decide +kernel
theorem dL_law_1337 : decode cL_law 1337 = .ok (.invokevirtual 158, 3) := by decide +kernel
theorem dL_law_1340 : decode cL_law 1340 = .ok (.aload_n 2, 1) := by decide +kernel
theorem dL_law_1341 : decode cL_law 1341 = .ok (.aload_n 0, 1) := by decide +kernel
theorem dL_law_1342 : decode cL_law 1342 = .ok (.iload_n 3, 1) := by decide +kernel
theorem dL_law_1343 : decode cL_law 1343 = .ok (.iconst 1, 1) := by decide +kernel
theorem dL_law_1344 : decode cL_law 1344 = .ok (.iadd, 1) := by decide +kernel
theorem dL_law_1345 : decode cL_law 1345 = .ok (.iaload, 1) := by decide +kernel
theorem dL_law_1346 : decode cL_law 1346 = .ok (.invokevirtual 161, 3) := by decide +kernel
theorem dL_law_1349 : decode cL_law 1349 = .ok (.if_icmp .eq 580, 3) := by decide +kernel
theorem dL_law_1352 : decode cL_law 1352 = .ok (.iconst 0, 1) := by decide +kernel
theorem dL_law_1353 : decode cL_law 1353 = .ok (.ireturn, 1) := by decide +kernel
theorem dL_law_1354 : decode cL_law 1354 = .ok (.aload_n 1, 1) := by decide +kernel
theorem dL_law_1355 : decode cL_law 1355 = .ok (.aload_n 0, 1) := by decide +kernel
theorem dL_law_1356 : decode cL_law 1356 = .ok (.iload_n 3, 1) := by decide +kernel
theorem dL_law_1357 : decode cL_law 1357 = .ok (.iconst 1, 1) := by decide +kernel
theorem dL_law_1358 : decode cL_law 1358 = .ok (.iadd, 1) := by decide +kernel
theorem dL_law_1359 : decode cL_law 1359 = .ok (.iaload, 1) := by decide +kernel
theorem dL_law_1360 : decode cL_law 1360 = .ok (.invokevirtual 162, 3) := by decide +kernel
theorem dL_law_1363 : decode cL_law 1363 = .ok (.aload_n 2, 1) := by decide +kernel
theorem dL_law_1364 : decode cL_law 1364 = .ok (.aload_n 0, 1) := by decide +kernel
theorem dL_law_1365 : decode cL_law 1365 = .ok (.iload_n 3, 1) := by decide +kernel
theorem dL_law_1366 : decode cL_law 1366 = .ok (.iconst 1, 1) := by decide +kernel
theorem dL_law_1367 : decode cL_law 1367 = .ok (.iadd, 1) := by decide +kernel
theorem dL_law_1368 : decode cL_law 1368 = .ok (.iaload, 1) := by decide +kernel
theorem dL_law_1369 : decode cL_law 1369 = .ok (.invokevirtual 165, 3) := by decide +kernel
theorem dL_law_1372 : decode cL_law 1372 = .ok (.if_icmp .eq 557, 3) := by decide +kernel
theorem dL_law_1375 : decode cL_law 1375 = .ok (.iconst 0, 1) := by decide +kernel
theorem dL_law_1376 : decode cL_law 1376 = .ok (.ireturn, 1) := by decide +kernel
theorem dL_law_1377 : decode cL_law 1377 = .ok (.aload_n 1, 1) := by decide +kernel
theorem dL_law_1378 : decode cL_law 1378 = .ok (.aload_n 0, 1) := by decide +kernel
theorem dL_law_1379 : decode cL_law 1379 = .ok (.iload_n 3, 1) := by decide +kernel
theorem dL_law_1380 : decode cL_law 1380 = .ok (.iconst 1, 1) := by decide +kernel
theorem dL_law_1381 : decode cL_law 1381 = .ok (.iadd, 1) := by decide +kernel
theorem dL_law_1382 : decode cL_law 1382 = .ok (.iaload, 1) := by decide +kernel
theorem dL_law_1383 : decode cL_law 1383 = .ok (.aload_n 0, 1) := by decide +kernel
theorem dL_law_1384 : decode cL_law 1384 = .ok (.iload_n 3, 1) := by decide +kernel
theorem dL_law_1385 : decode cL_law 1385 = .ok (.iconst 2, 1) := by decide +kernel
theorem dL_law_1386 : decode cL_law 1386 = .ok (.iadd, 1) := by decide +kernel
theorem dL_law_1387 : decode cL_law 1387 = .ok (.iaload, 1) := by decide +kernel
theorem dL_law_1388 : decode cL_law 1388 = .ok (.invokevirtual 166, 3) := by decide +kernel
theorem dL_law_1391 : decode cL_law 1391 = .ok (.aload_n 2, 1) := by decide +kernel
theorem dL_law_1392 : decode cL_law 1392 = .ok (.aload_n 0, 1) := by decide +kernel
theorem dL_law_1393 : decode cL_law 1393 = .ok (.iload_n 3, 1) := by decide +kernel
theorem dL_law_1394 : decode cL_law 1394 = .ok (.iconst 1, 1) := by decide +kernel
theorem dL_law_1395 : decode cL_law 1395 = .ok (.iadd, 1) := by decide +kernel
theorem dL_law_1396 : decode cL_law 1396 = .ok (.iaload, 1) := by decide +kernel
theorem dL_law_1397 : decode cL_law 1397 = .ok (.aload_n 0, 1) := by decide +kernel
theorem dL_law_1398 : decode cL_law 1398 = .ok (.iload_n 3, 1) := by decide +kernel
theorem dL_law_1399 : decode cL_law 1399 = .ok (.iconst 2, 1) := by decide +kernel
theorem dL_law_1400 : decode cL_law 1400 = .ok (.iadd, 1) := by decide +kernel
theorem dL_law_1401 : decode cL_law 1401 = .ok (.iaload, 1) := by decide +kernel
theorem dL_law_1402 : decode cL_law 1402 = .ok (.invokevirtual 169, 3) := by decide +kernel
theorem dL_law_1405 : decode cL_law 1405 = .ok (.if_icmp .eq 524, 3) := by decide +kernel
theorem dL_law_1408 : decode cL_law 1408 = .ok (.iconst 0, 1) := by decide +kernel
theorem dL_law_1409 : decode cL_law 1409 = .ok (.ireturn, 1) := by decide +kernel
theorem dL_law_1410 : decode cL_law 1410 = .ok (.aload_n 1, 1) := by decide +kernel
theorem dL_law_1411 : decode cL_law 1411 = .ok (.aload_n 0, 1) := by decide +kernel
theorem dL_law_1412 : decode cL_law 1412 = .ok (.iload_n 3, 1) := by decide +kernel
theorem dL_law_1413 : decode cL_law 1413 = .ok (.iconst 1, 1) := by decide +kernel
theorem dL_law_1414 : decode cL_law 1414 = .ok (.iadd, 1) := by decide +kernel
theorem dL_law_1415 : decode cL_law 1415 = .ok (.iaload, 1) := by decide +kernel
theorem dL_law_1416 : decode cL_law 1416 = .ok (.invokevirtual 170, 3) := by decide +kernel
theorem dL_law_1419 : decode cL_law 1419 = .ok (.aload_n 2, 1) := by decide +kernel
theorem dL_law_1420 : decode cL_law 1420 = .ok (.aload_n 0, 1) := by decide +kernel
theorem dL_law_1421 : decode cL_law 1421 = .ok (.iload_n 3, 1) := by decide +kernel
theorem dL_law_1422 : decode cL_law 1422 = .ok (.iconst 1, 1) := by decide +kernel
theorem dL_law_1423 : decode cL_law 1423 = .ok (.iadd, 1) := by decide +kernel
theorem dL_law_1424 : decode cL_law 1424 = .ok (.iaload, 1) := by decide +kernel
theorem dL_law_1425 : decode cL_law 1425 = .ok (.invokevirtual 173, 3) := by decide +kernel
theorem dL_law_1428 : decode cL_law 1428 = .ok (.if_icmp .eq 501, 3) := by decide +kernel
theorem dL_law_1431 : decode cL_law 1431 = .ok (.iconst 0, 1) := by decide +kernel
theorem dL_law_1432 : decode cL_law 1432 = .ok (.ireturn, 1) := by decide +kernel
theorem dL_law_1433 : decode cL_law 1433 = .ok (.aload_n 1, 1) := by decide +kernel
theorem dL_law_1434 : decode cL_law 1434 = .ok (.aload_n 0, 1) := by decide +kernel
theorem dL_law_1435 : decode cL_law 1435 = .ok (.iload_n 3, 1) := by decide +kernel
theorem dL_law_1436 : decode cL_law 1436 = .ok (.iconst 1, 1) := by decide +kernel
theorem dL_law_1437 : decode cL_law 1437 = .ok (.iadd, 1) := by decide +kernel
theorem dL_law_1438 : decode cL_law 1438 = .ok (.iaload, 1) := by decide +kernel
theorem dL_law_1439 : decode cL_law 1439 = .ok (.invokevirtual 174, 3) := by decide +kernel
theorem dL_law_1442 : decode cL_law 1442 = .ok (.aload_n 2, 1) := by decide +kernel
theorem dL_law_1443 : decode cL_law 1443 = .ok (.aload_n 0, 1) := by decide +kernel
theorem dL_law_1444 : decode cL_law 1444 = .ok (.iload_n 3, 1) := by decide +kernel
theorem dL_law_1445 : decode cL_law 1445 = .ok (.iconst 1, 1) := by decide +kernel
theorem dL_law_1446 : decode cL_law 1446 = .ok (.iadd, 1) := by decide +kernel
theorem dL_law_1447 : decode cL_law 1447 = .ok (.iaload, 1) := by decide +kernel
theorem dL_law_1448 : decode cL_law 1448 = .ok (.invokevirtual 177, 3) := by decide +kernel
theorem dL_law_1451 : decode cL_law 1451 = .ok (.if_icmp .eq 478, 3) := by decide +kernel
theorem dL_law_1454 : decode cL_law 1454 = .ok (.iconst 0, 1) := by decide +kernel
theorem dL_law_1455 : decode cL_law 1455 = .ok (.ireturn, 1) := by decide +kernel
theorem dL_law_1456 : decode cL_law 1456 = .ok (.aload_n 1, 1) := by decide +kernel
theorem dL_law_1457 : decode cL_law 1457 = .ok (.aload_n 0, 1) := by decide +kernel
theorem dL_law_1458 : decode cL_law 1458 = .ok (.iload_n 3, 1) := by decide +kernel
theorem dL_law_1459 : decode cL_law 1459 = .ok (.iconst 1, 1) := by decide +kernel
theorem dL_law_1460 : decode cL_law 1460 = .ok (.iadd, 1) := by decide +kernel
theorem dL_law_1461 : decode cL_law 1461 = .ok (.iaload, 1) := by decide +kernel
theorem dL_law_1462 : decode cL_law 1462 = .ok (.invokevirtual 178, 3) := by decide +kernel
theorem dL_law_1465 : decode cL_law 1465 = .ok (.aload_n 2, 1) := by decide +kernel
theorem dL_law_1466 : decode cL_law 1466 = .ok (.aload_n 0, 1) := by decide +kernel
theorem dL_law_1467 : decode cL_law 1467 = .ok (.iload_n 3, 1) := by decide +kernel
theorem dL_law_1468 : decode cL_law 1468 = .ok (.iconst 1, 1) := by decide +kernel
theorem dL_law_1469 : decode cL_law 1469 = .ok (.iadd, 1) := by decide +kernel
theorem dL_law_1470 : decode cL_law 1470 = .ok (.iaload, 1) := by decide +kernel
theorem dL_law_1471 : decode cL_law 1471 = .ok (.invokevirtual 181, 3) := by decide +kernel
theorem dL_law_1474 : decode cL_law 1474 = .ok (.if_icmp .eq 455, 3) := by decide +kernel
theorem dL_law_1477 : decode cL_law 1477 = .ok (.iconst 0, 1) := by decide +kernel
theorem dL_law_1478 : decode cL_law 1478 = .ok (.ireturn, 1) := by decide +kernel
theorem dL_law_1479 : decode cL_law 1479 = .ok (.aload_n 1, 1) := by decide +kernel
theorem dL_law_1480 : decode cL_law 1480 = .ok (.aload_n 0, 1) := by decide +kernel
theorem dL_law_1481 : decode cL_law 1481 = .ok (.iload_n 3, 1) := by decide +kernel
theorem dL_law_1482 : decode cL_law 1482 = .ok (.iconst 1, 1) := by decide +kernel
theorem dL_law_1483 : decode cL_law 1483 = .ok (.iadd, 1) := by decide +kernel
theorem dL_law_1484 : decode cL_law 1484 = .ok (.iaload, 1) := by decide +kernel
theorem dL_law_1485 : decode cL_law 1485 = .ok (.invokevirtual 182, 3) := by decide +kernel
theorem dL_law_1488 : decode cL_law 1488 = .ok (.aload_n 2, 1) := by decide +kernel
theorem dL_law_1489 : decode cL_law 1489 = .ok (.aload_n 0, 1) := by decide +kernel
theorem dL_law_1490 : decode cL_law 1490 = .ok (.iload_n 3, 1) := by decide +kernel
theorem dL_law_1491 : decode cL_law 1491 = .ok (.iconst 1, 1) := by decide +kernel
theorem dL_law_1492 : decode cL_law 1492 = .ok (.iadd, 1) := by decide +kernel
theorem dL_law_1493 : decode cL_law 1493 = .ok (.iaload, 1) := by decide +kernel
theorem dL_law_1494 : decode cL_law 1494 = .ok (.invokevirtual 185, 3) := by decide +kernel
theorem dL_law_1497 : decode cL_law 1497 = .ok (.if_icmp .eq 432, 3) := by decide +kernel
theorem dL_law_1500 : decode cL_law 1500 = .ok (.iconst 0, 1) := by decide +kernel
theorem dL_law_1501 : decode cL_law 1501 = .ok (.ireturn, 1) := by decide +kernel
theorem dL_law_1502 : decode cL_law 1502 = .ok (.aload_n 1, 1) := by decide +kernel
theorem dL_law_1503 : decode cL_law 1503 = .ok (.invokevirtual 186, 3) := by decide +kernel
theorem dL_law_1506 : decode cL_law 1506 = .ok (.aload_n 2, 1) := by decide +kernel
theorem dL_law_1507 : decode cL_law 1507 = .ok (.invokevirtual 189, 3) := by decide +kernel
theorem dL_law_1510 : decode cL_law 1510 = .ok (.if_icmp .eq 419, 3) := by decide +kernel
theorem dL_law_1513 : decode cL_law 1513 = .ok (.iconst 0, 1) := by decide +kernel
theorem dL_law_1514 : decode cL_law 1514 = .ok (.ireturn, 1) := by decide +kernel
theorem dL_law_1515 : decode cL_law 1515 = .ok (.aload_n 1, 1) := by decide +kernel
theorem dL_law_1516 : decode cL_law 1516 = .ok (.aload_n 0, 1) := by decide +kernel
theorem dL_law_1517 : decode cL_law 1517 = .ok (.iload_n 3, 1) := by decide +kernel
theorem dL_law_1518 : decode cL_law 1518 = .ok (.iconst 1, 1) := by decide +kernel
theorem dL_law_1519 : decode cL_law 1519 = .ok (.iadd, 1) := by decide +kernel
theorem dL_law_1520 : decode cL_law 1520 = .ok (.iaload, 1) := by decide +kernel
theorem dL_law_1521 : decode cL_law 1521 = .ok (.invokevirtual 190, 3) := by decide +kernel
theorem dL_law_1524 : decode cL_law 1524 = .ok (.aload_n 2, 1) := by decide +kernel
theorem dL_law_1525 : decode cL_law 1525 = .ok (.aload_n 0, 1) := by decide +kernel
theorem dL_law_1526 : decode cL_law 1526 = .ok (.iload_n 3, 1) := by decide +kernel
theorem dL_law_1527 : decode cL_law 1527 = .ok (.iconst 1, 1) := by decide +kernel
theorem dL_law_1528 : decode cL_law 1528 = .ok (.iadd, 1) := by decide +kernel
theorem dL_law_1529 : decode cL_law 1529 = .ok (.iaload, 1) := by decide +kernel
theorem dL_law_1530 : decode cL_law 1530 = .ok (.invokevirtual 193, 3) := by decide +kernel
theorem dL_law_1533 : decode cL_law 1533 = .ok (.if_icmp .eq 396, 3) := by decide +kernel
theorem dL_law_1536 : decode cL_law 1536 = .ok (.iconst 0, 1) := by decide +kernel
theorem dL_law_1537 : decode cL_law 1537 = .ok (.ireturn, 1) := by decide +kernel
theorem dL_law_1538 : decode cL_law 1538 = .ok (.aload_n 1, 1) := by decide +kernel
theorem dL_law_1539 : decode cL_law 1539 = .ok (.aload_n 0, 1) := by decide +kernel
theorem dL_law_1540 : decode cL_law 1540 = .ok (.iload_n 3, 1) := by decide +kernel
theorem dL_law_1541 : decode cL_law 1541 = .ok (.iconst 1, 1) := by decide +kernel
theorem dL_law_1542 : decode cL_law 1542 = .ok (.iadd, 1) := by decide +kernel
theorem dL_law_1543 : decode cL_law 1543 = .ok (.iaload, 1) := by decide +kernel
theorem dL_law_1544 : decode cL_law 1544 = .ok (.invokevirtual 194, 3) := by decide +kernel
theorem dL_law_1547 : decode cL_law 1547 = .ok (.aload_n 2, 1) := by decide +kernel
theorem dL_law_1548 : decode cL_law 1548 = .ok (.aload_n 0, 1) := by decide +kernel
theorem dL_law_1549 : decode cL_law 1549 = .ok (.iload_n 3, 1) := by decide +kernel
theorem dL_law_1550 : decode cL_law 1550 = .ok (.iconst 1, 1) := by decide +kernel
theorem dL_law_1551 : decode cL_law 1551 = .ok (.iadd, 1) := by decide +kernel
theorem dL_law_1552 : decode cL_law 1552 = .ok (.iaload, 1) := by decide +kernel
theorem dL_law_1553 : decode cL_law 1553 = .ok (.invokevirtual 197, 3) := by decide +kernel
theorem dL_law_1556 : decode cL_law 1556 = .ok (.if_icmp .eq 373, 3) := by decide +kernel
theorem dL_law_1559 : decode cL_law 1559 = .ok (.iconst 0, 1) := by decide +kernel
theorem dL_law_1560 : decode cL_law 1560 = .ok (.ireturn, 1) := by decide +kernel
theorem dL_law_1561 : decode cL_law 1561 = .ok (.aload_n 1, 1) := by decide +kernel
theorem dL_law_1562 : decode cL_law 1562 = .ok (.aload_n 0, 1) := by decide +kernel
theorem dL_law_1563 : decode cL_law 1563 = .ok (.iload_n 3, 1) := by decide +kernel
theorem dL_law_1564 : decode cL_law 1564 = .ok (.iconst 1, 1) := by decide +kernel
theorem dL_law_1565 : decode cL_law 1565 = .ok (.iadd, 1) := by decide +kernel
theorem dL_law_1566 : decode cL_law 1566 = .ok (.iaload, 1) := by decide +kernel
theorem dL_law_1567 : decode cL_law 1567 = .ok (.invokevirtual 198, 3) := by decide +kernel
theorem dL_law_1570 : decode cL_law 1570 = .ok (.aload_n 2, 1) := by decide +kernel
theorem dL_law_1571 : decode cL_law 1571 = .ok (.aload_n 0, 1) := by decide +kernel
theorem dL_law_1572 : decode cL_law 1572 = .ok (.iload_n 3, 1) := by decide +kernel
theorem dL_law_1573 : decode cL_law 1573 = .ok (.iconst 1, 1) := by decide +kernel
theorem dL_law_1574 : decode cL_law 1574 = .ok (.iadd, 1) := by decide +kernel
theorem dL_law_1575 : decode cL_law 1575 = .ok (.iaload, 1) := by decide +kernel
theorem dL_law_1576 : decode cL_law 1576 = .ok (.invokevirtual 201, 3) := by decide +kernel
theorem dL_law_1579 : decode cL_law 1579 = .ok (.if_icmp .eq 350, 3) := by decide +kernel
theorem dL_law_1582 : decode cL_law 1582 = .ok (.iconst 0, 1) := by decide +kernel
theorem dL_law_1583 : decode cL_law 1583 = .ok (.ireturn, 1) := by decide +kernel
theorem dL_law_1584 : decode cL_law 1584 = .ok (.aload_n 1, 1) := by decide +kernel
theorem dL_law_1585 : decode cL_law 1585 = .ok (.aload_n 0, 1) := by decide +kernel
theorem dL_law_1586 : decode cL_law 1586 = .ok (.iload_n 3, 1) := by decide +kernel
theorem dL_law_1587 : decode cL_law 1587 = .ok (.iconst 1, 1) := by decide +kernel
theorem dL_law_1588 : decode cL_law 1588 = .ok (.iadd, 1) := by decide +kernel
theorem dL_law_1589 : decode cL_law 1589 = .ok (.iaload, 1) := by decide +kernel
theorem dL_law_1590 : decode cL_law 1590 = .ok (.invokevirtual 202, 3) := by decide +kernel
theorem dL_law_1593 : decode cL_law 1593 = .ok (.aload_n 2, 1) := by decide +kernel
theorem dL_law_1594 : decode cL_law 1594 = .ok (.aload_n 0, 1) := by decide +kernel
theorem dL_law_1595 : decode cL_law 1595 = .ok (.iload_n 3, 1) := by decide +kernel
theorem dL_law_1596 : decode cL_law 1596 = .ok (.iconst 1, 1) := by decide +kernel
theorem dL_law_1597 : decode cL_law 1597 = .ok (.iadd, 1) := by decide +kernel
theorem dL_law_1598 : decode cL_law 1598 = .ok (.iaload, 1) := by decide +kernel
theorem dL_law_1599 : decode cL_law 1599 = .ok (.invokevirtual 205, 3) := by decide +kernel
theorem dL_law_1602 : decode cL_law 1602 = .ok (.if_icmp .eq 327, 3) := by decide +kernel
theorem dL_law_1605 : decode cL_law 1605 = .ok (.iconst 0, 1) := by decide +kernel
theorem dL_law_1606 : decode cL_law 1606 = .ok (.ireturn, 1) := by decide +kernel
theorem dL_law_1607 : decode cL_law 1607 = .ok (.aload_n 1, 1) := by decide +kernel
theorem dL_law_1608 : decode cL_law 1608 = .ok (.aload_n 0, 1) := by decide +kernel
theorem dL_law_1609 : decode cL_law 1609 = .ok (.iload_n 3, 1) := by decide +kernel
theorem dL_law_1610 : decode cL_law 1610 = .ok (.iconst 1, 1) := by decide +kernel
theorem dL_law_1611 : decode cL_law 1611 = .ok (.iadd, 1) := by decide +kernel
theorem dL_law_1612 : decode cL_law 1612 = .ok (.iaload, 1) := by decide +kernel
theorem dL_law_1613 : decode cL_law 1613 = .ok (.invokevirtual 206, 3) := by decide +kernel
theorem dL_law_1616 : decode cL_law 1616 = .ok (.aload_n 2, 1) := by decide +kernel
theorem dL_law_1617 : decode cL_law 1617 = .ok (.aload_n 0, 1) := by decide +kernel
theorem dL_law_1618 : decode cL_law 1618 = .ok (.iload_n 3, 1) := by decide +kernel
theorem dL_law_1619 : decode cL_law 1619 = .ok (.iconst 1, 1) := by decide +kernel
theorem dL_law_1620 : decode cL_law 1620 = .ok (.iadd, 1) := by decide +kernel
theorem dL_law_1621 : decode cL_law 1621 = .ok (.iaload, 1) := by decide +kernel
theorem dL_law_1622 : decode cL_law 1622 = .ok (.invokevirtual 209, 3) := by decide +kernel
theorem dL_law_1625 : decode cL_law 1625 = .ok (.if_icmp .eq 304, 3) := by decide +kernel
theorem dL_law_1628 : decode cL_law 1628 = .ok (.iconst 0, 1) := by decide +kernel
theorem dL_law_1629 : decode cL_law 1629 = .ok (.ireturn, 1) := by decide +kernel
theorem dL_law_1630 : decode cL_law 1630 = .ok (.aload_n 1, 1) := by decide +kernel
theorem dL_law_1631 : decode cL_law 1631 = .ok (.aload_n 0, 1) := by decide +kernel
theorem dL_law_1632 : decode cL_law 1632 = .ok (.iload_n 3, 1) := by decide +kernel
theorem dL_law_1633 : decode cL_law 1633 = .ok (.iconst 1, 1) := by decide +kernel
theorem dL_law_1634 : decode cL_law 1634 = .ok (.iadd, 1) := by decide +kernel
theorem dL_law_1635 : decode cL_law 1635 = .ok (.iaload, 1) := by decide +kernel
theorem dL_law_1636 : decode cL_law 1636 = .ok (.invokevirtual 210, 3) := by decide +kernel
theorem dL_law_1639 : decode cL_law 1639 = .ok (.aload_n 2, 1) := by decide +kernel
theorem dL_law_1640 : decode cL_law 1640 = .ok (.aload_n 0, 1) := by decide +kernel
theorem dL_law_1641 : decode cL_law 1641 = .ok (.iload_n 3, 1) := by decide +kernel
theorem dL_law_1642 : decode cL_law 1642 = .ok (.iconst 1, 1) := by decide +kernel
theorem dL_law_1643 : decode cL_law 1643 = .ok (.iadd, 1) := by decide +kernel
theorem dL_law_1644 : decode cL_law 1644 = .ok (.iaload, 1) := by decide +kernel
theorem dL_law_1645 : decode cL_law 1645 = .ok (.invokevirtual 213, 3) := by decide +kernel
theorem dL_law_1648 : decode cL_law 1648 = .ok (.if_icmp .eq 281, 3) := by decide +kernel
theorem dL_law_1651 : decode cL_law 1651 = .ok (.iconst 0, 1) := by decide +kernel
theorem dL_law_1652 : decode cL_law 1652 = .ok (.ireturn, 1) := by decide +kernel
theorem dL_law_1653 : decode cL_law 1653 = .ok (.aload_n 1, 1) := by decide +kernel
theorem dL_law_1654 : decode cL_law 1654 = .ok (.aload_n 0, 1) := by decide +kernel
theorem dL_law_1655 : decode cL_law 1655 = .ok (.iload_n 3, 1) := by decide +kernel
theorem dL_law_1656 : decode cL_law 1656 = .ok (.iconst 1, 1) := by decide +kernel
theorem dL_law_1657 : decode cL_law 1657 = .ok (.iadd, 1) := by decide +kernel
theorem dL_law_1658 : decode cL_law 1658 = .ok (.iaload, 1) := by decide +kernel
theorem dL_law_1659 : decode cL_law 1659 = .ok (.invokevirtual 214, 3) := by decide +kernel
theorem dL_law_1662 : decode cL_law 1662 = .ok (.aload_n 2, 1) := by decide +kernel
theorem dL_law_1663 : decode cL_law 1663 = .ok (.aload_n 0, 1) := by decide +kernel
theorem dL_law_1664 : decode cL_law 1664 = .ok (.iload_n 3, 1) := by decide +kernel
theorem dL_law_1665 : decode cL_law 1665 = .ok (.iconst 1, 1) := by decide +kernel
theorem dL_law_1666 : decode cL_law 1666 = .ok (.iadd, 1) := by decide +kernel
theorem dL_law_1667 : decode cL_law 1667 = .ok (.iaload, 1) := by decide +kernel
theorem dL_law_1668 : decode cL_law 1668 = .ok (.invokevirtual 217, 3) := by decide +kernel
theorem dL_law_1671 : decode cL_law 1671 = .ok (.if_icmp .eq 258, 3) := by decide +kernel
theorem dL_law_1674 : decode cL_law 1674 = .ok (.iconst 0, 1) := by decide +kernel
theorem dL_law_1675 : decode cL_law 1675 = .ok (.ireturn, 1) := by decide +kernel
theorem dL_law_1676 : decode cL_law 1676 = .ok (.aload_n 1, 1) := by decide +kernel
theorem dL_law_1677 : decode cL_law 1677 = .ok (.aload_n 0, 1) := by decide +kernel
theorem dL_law_1678 : decode cL_law 1678 = .ok (.iload_n 3, 1) := by decide +kernel
theorem dL_law_1679 : decode cL_law 1679 = .ok (.iconst 1, 1) := by decide +kernel
theorem dL_law_1680 : decode cL_law 1680 = .ok (.iadd, 1) := by decide +kernel
theorem dL_law_1681 : decode cL_law 1681 = .ok (.iaload, 1) := by decide +kernel
theorem dL_law_1682 : decode cL_law 1682 = .ok (.invokevirtual 218, 3) := by decide +kernel
theorem dL_law_1685 : decode cL_law 1685 = .ok (.aload_n 2, 1) := by decide +kernel
theorem dL_law_1686 : decode cL_law 1686 = .ok (.aload_n 0, 1) := by decide +kernel
theorem dL_law_1687 : decode cL_law 1687 = .ok (.iload_n 3, 1) := by decide +kernel
theorem dL_law_1688 : decode cL_law 1688 = .ok (.iconst 1, 1) := by decide +kernel
theorem dL_law_1689 : decode cL_law 1689 = .ok (.iadd, 1) := by decide +kernel
theorem dL_law_1690 : decode cL_law 1690 = .ok (.iaload, 1) := by decide +kernel
theorem dL_law_1691 : decode cL_law 1691 = .ok (.invokevirtual 221, 3) := by decide +kernel
theorem dL_law_1694 : decode cL_law 1694 = .ok (.if_icmp .eq 235, 3) := by decide +kernel
theorem dL_law_1697 : decode cL_law 1697 = .ok (.iconst 0, 1) := by decide +kernel
theorem dL_law_1698 : decode cL_law 1698 = .ok (.ireturn, 1) := by decide +kernel
theorem dL_law_1699 : decode cL_law 1699 = .ok (.aload_n 1, 1) := by decide +kernel
theorem dL_law_1700 : decode cL_law 1700 = .ok (.aload_n 0, 1) := by decide +kernel
theorem dL_law_1701 : decode cL_law 1701 = .ok (.iload_n 3, 1) := by decide +kernel
theorem dL_law_1702 : decode cL_law 1702 = .ok (.iconst 1, 1) := by decide +kernel
theorem dL_law_1703 : decode cL_law 1703 = .ok (.iadd, 1) := by decide +kernel
theorem dL_law_1704 : decode cL_law 1704 = .ok (.iaload, 1) := by decide +kernel
theorem dL_law_1705 : decode cL_law 1705 = .ok (.invokevirtual 222, 3) := by decide +kernel
theorem dL_law_1708 : decode cL_law 1708 = .ok (.aload_n 2, 1) := by decide +kernel
theorem dL_law_1709 : decode cL_law 1709 = .ok (.aload_n 0, 1) := by decide +kernel
theorem dL_law_1710 : decode cL_law 1710 = .ok (.iload_n 3, 1) := by decide +kernel
theorem dL_law_1711 : decode cL_law 1711 = .ok (.iconst 1, 1) := by decide +kernel
theorem dL_law_1712 : decode cL_law 1712 = .ok (.iadd, 1) := by decide +kernel
theorem dL_law_1713 : decode cL_law 1713 = .ok (.iaload, 1) := by decide +kernel
theorem dL_law_1714 : decode cL_law 1714 = .ok (.invokevirtual 225, 3) := by decide +kernel
theorem dL_law_1717 : decode cL_law 1717 = .ok (.if_icmp .eq 212, 3) := by decide +kernel
theorem dL_law_1720 : decode cL_law 1720 = .ok (.iconst 0, 1) := by decide +kernel
theorem dL_law_1721 : decode cL_law 1721 = .ok (.ireturn, 1) := by decide +kernel
theorem dL_law_1722 : decode cL_law 1722 = .ok (.aload_n 1, 1) := by decide +kernel
theorem dL_law_1723 : decode cL_law 1723 = .ok (.aload_n 0, 1) := by decide +kernel
theorem dL_law_1724 : decode cL_law 1724 = .ok (.iload_n 3, 1) := by decide +kernel
theorem dL_law_1725 : decode cL_law 1725 = .ok (.iconst 1, 1) := by decide +kernel
theorem dL_law_1726 : decode cL_law 1726 = .ok (.iadd, 1) := by decide +kernel
theorem dL_law_1727 : decode cL_law 1727 = .ok (.iaload, 1) := by decide +kernel
theorem dL_law_1728 : decode cL_law 1728 = .ok (.aload_n 0, 1) := by decide +kernel
theorem dL_law_1729 : decode cL_law 1729 = .ok (.iload_n 3, 1) := by decide +kernel
theorem dL_law_1730 : decode cL_law 1730 = .ok (.iconst 2, 1) := by decide +kernel
theorem dL_law_1731 : decode cL_law 1731 = .ok (.iadd, 1) := by decide +kernel
theorem dL_law_1732 : decode cL_law 1732 = .ok (.iaload, 1) := by decide +kernel
theorem dL_law_1733 : decode cL_law 1733 = .ok (.invokevirtual 226, 3) := by decide +kernel
theorem dL_law_1736 : decode cL_law 1736 = .ok (.aload_n 2, 1) := by decide +kernel
theorem dL_law_1737 : decode cL_law 1737 = .ok (.aload_n 0, 1) := by decide +kernel
theorem dL_law_1738 : decode cL_law 1738 = .ok (.iload_n 3, 1) := by decide +kernel
theorem dL_law_1739 : decode cL_law 1739 = .ok (.iconst 1, 1) := by decide +kernel
theorem dL_law_1740 : decode cL_law 1740 = .ok (.iadd, 1) := by decide +kernel
theorem dL_law_1741 : decode cL_law 1741 = .ok (.iaload, 1) := by decide +kernel
theorem dL_law_1742 : decode cL_law 1742 = .ok (.aload_n 0, 1) := by decide +kernel
theorem dL_law_1743 : decode cL_law 1743 = .ok (.iload_n 3, 1) := by decide +kernel
theorem dL_law_1744 : decode cL_law 1744 = .ok (.iconst 2, 1) := by decide +kernel
theorem dL_law_1745 : decode cL_law 1745 = .ok (.iadd, 1) := by decide +kernel
theorem dL_law_1746 : decode cL_law 1746 = .ok (.iaload, 1) := by decide +kernel
theorem dL_law_1747 : decode cL_law 1747 = .ok (.invokevirtual 229, 3) := by decide +kernel
theorem dL_law_1750 : decode cL_law 1750 = .ok (.if_icmp .eq 179, 3) := by decide +kernel
theorem dL_law_1753 : decode cL_law 1753 = .ok (.iconst 0, 1) := by decide +kernel
theorem dL_law_1754 : decode cL_law 1754 = .ok (.ireturn, 1) := by decide +kernel
theorem dL_law_1755 : decode cL_law 1755 = .ok (.aload_n 1, 1) := by decide +kernel
theorem dL_law_1756 : decode cL_law 1756 = .ok (.aload_n 0, 1) := by decide +kernel
theorem dL_law_1757 : decode cL_law 1757 = .ok (.iload_n 3, 1) := by decide +kernel
theorem dL_law_1758 : decode cL_law 1758 = .ok (.iconst 1, 1) := by decide +kernel
theorem dL_law_1759 : decode cL_law 1759 = .ok (.iadd, 1) := by decide +kernel
theorem dL_law_1760 : decode cL_law 1760 = .ok (.iaload, 1) := by decide +kernel
theorem dL_law_1761 : decode cL_law 1761 = .ok (.aload_n 0, 1) := by decide +kernel
theorem dL_law_1762 : decode cL_law 1762 = .ok (.iload_n 3, 1) := by decide +kernel
theorem dL_law_1763 : decode cL_law 1763 = .ok (.iconst 2, 1) := by decide +kernel
theorem dL_law_1764 : decode cL_law 1764 = .ok (.iadd, 1) := by decide +kernel
theorem dL_law_1765 : decode cL_law 1765 = .ok (.iaload, 1) := by decide +kernel
theorem dL_law_1766 : decode cL_law 1766 = .ok (.aload_n 0, 1) := by decide +kernel
theorem dL_law_1767 : decode cL_law 1767 = .ok (.iload_n 3, 1) := by decide +kernel
theorem dL_law_1768 : decode cL_law 1768 = .ok (.iconst 3, 1) := by decide +kernel
theorem dL_law_1769 : decode cL_law 1769 = .ok (.iadd, 1) := by decide +kernel
theorem dL_law_1770 : decode cL_law 1770 = .ok (.iaload, 1) := by decide +kernel
theorem dL_law_1771 : decode cL_law 1771 = .ok (.invokevirtual 230, 3) := by decide +kernel
theorem dL_law_1774 : decode cL_law 1774 = .ok (.aload_n 2, 1) := by decide +kernel
theorem dL_law_1775 : decode cL_law 1775 = .ok (.aload_n 0, 1) := by decide +kernel
theorem dL_law_1776 : decode cL_law 1776 = .ok (.iload_n 3, 1) := by decide +kernel
theorem dL_law_1777 : decode cL_law 1777 = .ok (.iconst 1, 1) := by decide +kernel
theorem dL_law_1778 : decode cL_law 1778 = .ok (.iadd, 1) := by decide +kernel
theorem dL_law_1779 : decode cL_law 1779 = .ok (.iaload, 1) := by decide +kernel
theorem dL_law_1780 : decode cL_law 1780 = .ok (.aload_n 0, 1) := by decide +kernel
theorem dL_law_1781 : decode cL_law 1781 = .ok (.iload_n 3, 1) := by decide +kernel
theorem dL_law_1782 : decode cL_law 1782 = .ok (.iconst 2, 1) := by decide +kernel
theorem dL_law_1783 : decode cL_law 1783 = .ok (.iadd, 1) := by decide +kernel
theorem dL_law_1784 : decode cL_law 1784 = .ok (.iaload, 1) := by decide +kernel
theorem dL_law_1785 : decode cL_law 1785 = .ok (.aload_n 0, 1) := by decide +kernel
theorem dL_law_1786 : decode cL_law 1786 = .ok (.iload_n 3, 1) := by decide +kernel
theorem dL_law_1787 : decode cL_law 1787 = .ok (.iconst 3, 1) := by decide +kernel
theorem dL_law_1788 : decode cL_law 1788 = .ok (.iadd, 1) := by decide +kernel
theorem dL_law_1789 : decode cL_law 1789 = .ok (.iaload, 1) := by decide +kernel
theorem dL_law_1790 : decode cL_law 1790 = .ok (.invokevirtual 233, 3) := by decide +kernel
theorem dL_law_1793 : decode cL_law 1793 = .ok (.if_icmp .eq 136, 3) := by decide +kernel
theorem dL_law_1796 : decode cL_law 1796 = .ok (.iconst 0, 1) := by decide +kernel
theorem dL_law_1797 : decode cL_law 1797 = .ok (.ireturn, 1) := by decide +kernel
theorem dL_law_1798 : decode cL_law 1798 = .ok (.aload_n 1, 1) := by decide +kernel
theorem dL_law_1799 : decode cL_law 1799 = .ok (.aload_n 0, 1) := by decide +kernel
theorem dL_law_1800 : decode cL_law 1800 = .ok (.iload_n 3, 1) := by decide +kernel
theorem dL_law_1801 : decode cL_law 1801 = .ok (.iconst 1, 1) := by decide +kernel
theorem dL_law_1802 : decode cL_law 1802 = .ok (.iadd, 1) := by decide +kernel
theorem dL_law_1803 : decode cL_law 1803 = .ok (.iaload, 1) := by decide +kernel
theorem dL_law_1804 : decode cL_law 1804 = .ok (.invokevirtual 234, 3) := by decide +kernel
theorem dL_law_1807 : decode cL_law 1807 = .ok (.aload_n 2, 1) := by decide +kernel
theorem dL_law_1808 : decode cL_law 1808 = .ok (.aload_n 0, 1) := by decide +kernel
theorem dL_law_1809 : decode cL_law 1809 = .ok (.iload_n 3, 1) := by decide +kernel
theorem dL_law_1810 : decode cL_law 1810 = .ok (.iconst 1, 1) := by decide +kernel
theorem dL_law_1811 : decode cL_law 1811 = .ok (.iadd, 1) := by decide +kernel
theorem dL_law_1812 : decode cL_law 1812 = .ok (.iaload, 1) := by decide +kernel
theorem dL_law_1813 : decode cL_law 1813 = .ok (.invokevirtual 237, 3) := by decide +kernel
theorem dL_law_1816 : decode cL_law 1816 = .ok (.if_icmp .eq 113, 3) := by decide +kernel
theorem dL_law_1819 : decode cL_law 1819 = .ok (.iconst 0, 1) := by decide +kernel
theorem dL_law_1820 : decode cL_law 1820 = .ok (.ireturn, 1) := by decide +kernel
theorem dL_law_1821 : decode cL_law 1821 = .ok (.aload_n 1, 1) := by decide +kernel
theorem dL_law_1822 : decode cL_law 1822 = .ok (.invokevirtual 238, 3) := by decide +kernel
theorem dL_law_1825 : decode cL_law 1825 = .ok (.aload_n 2, 1) := by decide +kernel
theorem dL_law_1826 : decode cL_law 1826 = .ok (.invokevirtual 241, 3) := by decide +kernel
theorem dL_law_1829 : decode cL_law 1829 = .ok (.if_icmp .eq 100, 3) := by decide +kernel
theorem dL_law_1832 : decode cL_law 1832 = .ok (.iconst 0, 1) := by decide +kernel
theorem dL_law_1833 : decode cL_law 1833 = .ok (.ireturn, 1) := by decide +kernel
theorem dL_law_1834 : decode cL_law 1834 = .ok (.aload_n 1, 1) := by decide +kernel
theorem dL_law_1835 : decode cL_law 1835 = .ok (.aload_n 0, 1) := by decide +kernel
theorem dL_law_1836 : decode cL_law 1836 = .ok (.iload_n 3, 1) := by decide +kernel
theorem dL_law_1837 : decode cL_law 1837 = .ok (.iconst 1, 1) := by decide +kernel
theorem dL_law_1838 : decode cL_law 1838 = .ok (.iadd, 1) := by decide +kernel
theorem dL_law_1839 : decode cL_law 1839 = .ok (.iaload, 1) := by decide +kernel
theorem dL_law_1840 : decode cL_law 1840 = .ok (.invokevirtual 242, 3) := by decide +kernel
theorem dL_law_1843 : decode cL_law 1843 = .ok (.aload_n 2, 1) := by decide +kernel
theorem dL_law_1844 : decode cL_law 1844 = .ok (.aload_n 0, 1) := by decide +kernel
theorem dL_law_1845 : decode cL_law 1845 = .ok (.iload_n 3, 1) := by decide +kernel
theorem dL_law_1846 : decode cL_law 1846 = .ok (.iconst 1, 1) := by decide +kernel
theorem dL_law_1847 : decode cL_law 1847 = .ok (.iadd, 1) := by decide +kernel
theorem dL_law_1848 : decode cL_law 1848 = .ok (.iaload, 1) := by decide +kernel
theorem dL_law_1849 : decode cL_law 1849 = .ok (.invokevirtual 245, 3) := by decide +kernel
theorem dL_law_1852 : decode cL_law 1852 = .ok (.if_icmp .eq 77, 3) := by decide +kernel
theorem dL_law_1855 : decode cL_law 1855 = .ok (.iconst 0, 1) := by decide +kernel
theorem dL_law_1856 : decode cL_law 1856 = .ok (.ireturn, 1) := by decide +kernel
theorem dL_law_1857 : decode cL_law 1857 = .ok (.aload_n 1, 1) := by decide +kernel
theorem dL_law_1858 : decode cL_law 1858 = .ok (.aload_n 0, 1) := by decide +kernel
theorem dL_law_1859 : decode cL_law 1859 = .ok (.iload_n 3, 1) := by decide +kernel
theorem dL_law_1860 : decode cL_law 1860 = .ok (.iconst 1, 1) := by decide +kernel
theorem dL_law_1861 : decode cL_law 1861 = .ok (.iadd, 1) := by decide +kernel
theorem dL_law_1862 : decode cL_law 1862 = .ok (.iaload, 1) := by decide +kernel
theorem dL_law_1863 : decode cL_law 1863 = .ok (.invokevirtual 246, 3) := by decide +kernel
theorem dL_law_1866 : decode cL_law 1866 = .ok (.aload_n 2, 1) := by decide +kernel
theorem dL_law_1867 : decode cL_law 1867 = .ok (.aload_n 0, 1) := by decide +kernel
theorem dL_law_1868 : decode cL_law 1868 = .ok (.iload_n 3, 1) := by decide +kernel
theorem dL_law_1869 : decode cL_law 1869 = .ok (.iconst 1, 1) := by decide +kernel
theorem dL_law_1870 : decode cL_law 1870 = .ok (.iadd, 1) := by decide +kernel
theorem dL_law_1871 : decode cL_law 1871 = .ok (.iaload, 1) := by decide +kernel
theorem dL_law_1872 : decode cL_law 1872 = .ok (.invokevirtual 249, 3) := by decide +kernel
theorem dL_law_1875 : decode cL_law 1875 = .ok (.if_icmp .eq 54, 3) := by decide +kernel
theorem dL_law_1878 : decode cL_law 1878 = .ok (.iconst 0, 1) := by decide +kernel
theorem dL_law_1879 : decode cL_law 1879 = .ok (.ireturn, 1) := by decide +kernel
theorem dL_law_1880 : decode cL_law 1880 = .ok (.aload_n 1, 1) := by decide +kernel
theorem dL_law_1881 : decode cL_law 1881 = .ok (.invokevirtual 250, 3) := by decide +kernel
theorem dL_law_1884 : decode cL_law 1884 = .ok (.aload_n 2, 1) := by decide +kernel
theorem dL_law_1885 : decode cL_law 1885 = .ok (.invokevirtual 253, 3) := by decide +kernel
theorem dL_law_1888 : decode cL_law 1888 = .ok (.if_icmp .eq 41, 3) := by decide +kernel
theorem dL_law_1891 : decode cL_law 1891 = .ok (.iconst 0, 1) := by decide +kernel
theorem dL_law_1892 : decode cL_law 1892 = .ok (.ireturn, 1) := by decide +kernel
theorem dL_law_1893 : decode cL_law 1893 = .ok (.aload_n 1, 1) := by decide +kernel
theorem dL_law_1894 : decode cL_law 1894 = .ok (.invokevirtual 254, 3) := by decide +kernel
theorem dL_law_1897 : decode cL_law 1897 = .ok (.aload_n 2, 1) := by decide +kernel
theorem dL_law_1898 : decode cL_law 1898 = .ok (.invokevirtual 257, 3) := by decide +kernel
theorem dL_law_1901 : decode cL_law 1901 = .ok (.if_icmp .eq 28, 3) := by decide +kernel
theorem dL_law_1904 : decode cL_law 1904 = .ok (.iconst 0, 1) := by decide +kernel
theorem dL_law_1905 : decode cL_law 1905 = .ok (.ireturn, 1) := by decide +kernel
theorem dL_law_1906 : decode cL_law 1906 = .ok (.aload_n 1, 1) := by decide +kernel
theorem dL_law_1907 : decode cL_law 1907 = .ok (.aload_n 0, 1) := by decide +kernel
theorem dL_law_1908 : decode cL_law 1908 = .ok (.iload_n 3, 1) := by decide +kernel
theorem dL_law_1909 : decode cL_law 1909 = .ok (.iconst 1, 1) := by decide +kernel
theorem dL_law_1910 : decode cL_law 1910 = .ok (.iadd, 1) := by decide +kernel
theorem dL_law_1911 : decode cL_law 1911 = .ok (.iaload, 1) := by decide +kernel
theorem dL_law_1912 : decode cL_law 1912 = .ok (.invokevirtual 258, 3) := by decide +kernel
theorem dL_law_1915 : decode cL_law 1915 = .ok (.aload_n 2, 1) := by decide +kernel
theorem dL_law_1916 : decode cL_law 1916 = .ok (.aload_n 0, 1) := by decide +kernel
theorem dL_law_1917 : decode cL_law 1917 = .ok (.iload_n 3, 1) := by decide +kernel
theorem dL_law_1918 : decode cL_law 1918 = .ok (.iconst 1, 1) := by decide +kernel
theorem dL_law_1919 : decode cL_law 1919 = .ok (.iadd, 1) := by decide +kernel
theorem dL_law_1920 : decode cL_law 1920 = .ok (.iaload, 1) := by decide +kernel
theorem dL_law_1921 : decode cL_law 1921 = .ok (.invokevirtual 261, 3) := by decide +kernel
theorem dL_law_1924 : decode cL_law 1924 = .ok (.if_icmp .eq 5, 3) := by decide +kernel
theorem dL_law_1927 : decode cL_law 1927 = .ok (.iconst 0, 1) := by decide +kernel
theorem dL_law_1928 : decode cL_law 1928 = .ok (.ireturn, 1) := by decide +kernel
theorem dL_law_1929 : decode cL_law 1929 = .ok (.iinc 3 6, 3) := by decide +kernel
theorem dL_law_1932 : decode cL_law 1932 = .ok (.goto (-1914), 3) := by decide +kernel
theorem dL_law_1935 : decode cL_law 1935 = .ok (.iconst 1, 1) := by decide +kernel
theorem dL_law_1936 : decode cL_law 1936 = .ok (.ireturn, 1) := by decide +kernel
end
section
theorem zz_last : True := trivial
end

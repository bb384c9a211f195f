-- ===== PART A: goes FIRST, ahead of the names: the tables' words, and 'selects' of the private methods out of them =====
/-- a private method of a class that the tables say can be made, by its rows of tables_1 -/
def lw_okq (q : MethodName × Nat) : Prop := (q.1.cls ≠ "java/lang/invoke/MethodHandle" ∧ q.1.cls ≠ "java/lang/invoke/VarHandle") ∧ Cond.instantiable q.1.cls q.2 ∈ tables_1 ∧ Cond.privateMethod q.1 ∈ tables_1 ∧ Cond.instanceMethod q.1 ∈ tables_1
theorem lw_p0 : lw_okq (⟨"FarHeights$Net", "spread", "([II)V"⟩, 11) := ⟨⟨by decide +kernel, by decide +kernel⟩, List.mem_of_getElem? (i := 31) (by decide +kernel), List.mem_of_getElem? (i := 406) (by decide +kernel), List.mem_of_getElem? (i := 407) (by decide +kernel)⟩
theorem lw_p1 : lw_okq (⟨"FarHeights$Net", "findLastLeg", "(I)I"⟩, 11) := ⟨⟨by decide +kernel, by decide +kernel⟩, List.mem_of_getElem? (i := 31) (by decide +kernel), List.mem_of_getElem? (i := 413) (by decide +kernel), List.mem_of_getElem? (i := 414) (by decide +kernel)⟩
theorem lw_p2 : lw_okq (⟨"FarHeights$Net", "otherEnd", "(II)I"⟩, 11) := ⟨⟨by decide +kernel, by decide +kernel⟩, List.mem_of_getElem? (i := 31) (by decide +kernel), List.mem_of_getElem? (i := 417) (by decide +kernel), List.mem_of_getElem? (i := 418) (by decide +kernel)⟩
theorem lw_p3 : lw_okq (⟨"FarHeights$Net", "carriedLevel", "(I)I"⟩, 11) := ⟨⟨by decide +kernel, by decide +kernel⟩, List.mem_of_getElem? (i := 31) (by decide +kernel), List.mem_of_getElem? (i := 421) (by decide +kernel), List.mem_of_getElem? (i := 422) (by decide +kernel)⟩
theorem lw_p4 : lw_okq (⟨"FarHeights", "isStation", "(I)Z"⟩, 18) := ⟨⟨by decide +kernel, by decide +kernel⟩, List.mem_of_getElem? (i := 17) (by decide +kernel), List.mem_of_getElem? (i := 429) (by decide +kernel), List.mem_of_getElem? (i := 430) (by decide +kernel)⟩
theorem lw_p5 : lw_okq (⟨"FarHeights", "isPoint", "(I)Z"⟩, 18) := ⟨⟨by decide +kernel, by decide +kernel⟩, List.mem_of_getElem? (i := 17) (by decide +kernel), List.mem_of_getElem? (i := 492) (by decide +kernel), List.mem_of_getElem? (i := 493) (by decide +kernel)⟩
theorem lw_p6 : lw_okq (⟨"FarHeights", "isSight", "(I)Z"⟩, 18) := ⟨⟨by decide +kernel, by decide +kernel⟩, List.mem_of_getElem? (i := 17) (by decide +kernel), List.mem_of_getElem? (i := 521) (by decide +kernel), List.mem_of_getElem? (i := 522) (by decide +kernel)⟩
theorem lw_p7 : lw_okq (⟨"FarHeights$Law", "holds", "(IIII)Z"⟩, 14) := ⟨⟨by decide +kernel, by decide +kernel⟩, List.mem_of_getElem? (i := 83) (by decide +kernel), List.mem_of_getElem? (i := 537) (by decide +kernel), List.mem_of_getElem? (i := 538) (by decide +kernel)⟩
theorem lw_p8 : lw_okq (⟨"FarHeights$View", "feetUpTo", "(II)I"⟩, 16) := ⟨⟨by decide +kernel, by decide +kernel⟩, List.mem_of_getElem? (i := 25) (by decide +kernel), List.mem_of_getElem? (i := 654) (by decide +kernel), List.mem_of_getElem? (i := 655) (by decide +kernel)⟩
theorem lw_p9 : lw_okq (⟨"FarHeights$Law", "step", "()V"⟩, 14) := ⟨⟨by decide +kernel, by decide +kernel⟩, List.mem_of_getElem? (i := 83) (by decide +kernel), List.mem_of_getElem? (i := 685) (by decide +kernel), List.mem_of_getElem? (i := 686) (by decide +kernel)⟩
theorem lw_p10 : lw_okq (⟨"FarHeights$Law", "readLine", "()V"⟩, 14) := ⟨⟨by decide +kernel, by decide +kernel⟩, List.mem_of_getElem? (i := 83) (by decide +kernel), List.mem_of_getElem? (i := 689) (by decide +kernel), List.mem_of_getElem? (i := 690) (by decide +kernel)⟩
theorem lw_p11 : lw_okq (⟨"FarHeights$Law", "fail", "()V"⟩, 14) := ⟨⟨by decide +kernel, by decide +kernel⟩, List.mem_of_getElem? (i := 83) (by decide +kernel), List.mem_of_getElem? (i := 694) (by decide +kernel), List.mem_of_getElem? (i := 695) (by decide +kernel)⟩
theorem lw_p12 : lw_okq (⟨"FarHeights$Law", "readCond", "(I)V"⟩, 14) := ⟨⟨by decide +kernel, by decide +kernel⟩, List.mem_of_getElem? (i := 83) (by decide +kernel), List.mem_of_getElem? (i := 698) (by decide +kernel), List.mem_of_getElem? (i := 699) (by decide +kernel)⟩
theorem lw_p13 : lw_okq (⟨"FarHeights$Law", "readAll", "(I)V"⟩, 14) := ⟨⟨by decide +kernel, by decide +kernel⟩, List.mem_of_getElem? (i := 83) (by decide +kernel), List.mem_of_getElem? (i := 702) (by decide +kernel), List.mem_of_getElem? (i := 703) (by decide +kernel)⟩
theorem lw_p14 : lw_okq (⟨"FarHeights$Law", "readOne", "(I)V"⟩, 14) := ⟨⟨by decide +kernel, by decide +kernel⟩, List.mem_of_getElem? (i := 83) (by decide +kernel), List.mem_of_getElem? (i := 706) (by decide +kernel), List.mem_of_getElem? (i := 707) (by decide +kernel)⟩
theorem lw_p15 : lw_okq (⟨"FarHeights$Law", "readOpened", "(I)V"⟩, 14) := ⟨⟨by decide +kernel, by decide +kernel⟩, List.mem_of_getElem? (i := 83) (by decide +kernel), List.mem_of_getElem? (i := 711) (by decide +kernel), List.mem_of_getElem? (i := 712) (by decide +kernel)⟩
def lw_privs_1 : List (MethodName × Nat) := [(⟨"FarHeights$Net", "spread", "([II)V"⟩, 11), (⟨"FarHeights$Net", "findLastLeg", "(I)I"⟩, 11), (⟨"FarHeights$Net", "otherEnd", "(II)I"⟩, 11), (⟨"FarHeights$Net", "carriedLevel", "(I)I"⟩, 11), (⟨"FarHeights", "isStation", "(I)Z"⟩, 18), (⟨"FarHeights", "isPoint", "(I)Z"⟩, 18), (⟨"FarHeights", "isSight", "(I)Z"⟩, 18), (⟨"FarHeights$Law", "holds", "(IIII)Z"⟩, 14), (⟨"FarHeights$View", "feetUpTo", "(II)I"⟩, 16), (⟨"FarHeights$Law", "step", "()V"⟩, 14), (⟨"FarHeights$Law", "readLine", "()V"⟩, 14), (⟨"FarHeights$Law", "fail", "()V"⟩, 14), (⟨"FarHeights$Law", "readCond", "(I)V"⟩, 14), (⟨"FarHeights$Law", "readAll", "(I)V"⟩, 14), (⟨"FarHeights$Law", "readOne", "(I)V"⟩, 14), (⟨"FarHeights$Law", "readOpened", "(I)V"⟩, 14)]
theorem lw_r1 : ∀ q ∈ lw_privs_1, lw_okq q := List.forall_mem_cons.mpr ⟨lw_p0, List.forall_mem_cons.mpr ⟨lw_p1, List.forall_mem_cons.mpr ⟨lw_p2, List.forall_mem_cons.mpr ⟨lw_p3, List.forall_mem_cons.mpr ⟨lw_p4, List.forall_mem_cons.mpr ⟨lw_p5, List.forall_mem_cons.mpr ⟨lw_p6, List.forall_mem_cons.mpr ⟨lw_p7, List.forall_mem_cons.mpr ⟨lw_p8, List.forall_mem_cons.mpr ⟨lw_p9, List.forall_mem_cons.mpr ⟨lw_p10, List.forall_mem_cons.mpr ⟨lw_p11, List.forall_mem_cons.mpr ⟨lw_p12, List.forall_mem_cons.mpr ⟨lw_p13, List.forall_mem_cons.mpr ⟨lw_p14, List.forall_mem_cons.mpr ⟨lw_p15, fun _ h => absurd h List.not_mem_nil⟩⟩⟩⟩⟩⟩⟩⟩⟩⟩⟩⟩⟩⟩⟩⟩
theorem lw_p16 : lw_okq (⟨"FarHeights$Law", "readComparison", "()V"⟩, 14) := ⟨⟨by decide +kernel, by decide +kernel⟩, List.mem_of_getElem? (i := 83) (by decide +kernel), List.mem_of_getElem? (i := 715) (by decide +kernel), List.mem_of_getElem? (i := 716) (by decide +kernel)⟩
theorem lw_p17 : lw_okq (⟨"FarHeights$Law", "isValue", "()Z"⟩, 14) := ⟨⟨by decide +kernel, by decide +kernel⟩, List.mem_of_getElem? (i := 83) (by decide +kernel), List.mem_of_getElem? (i := 719) (by decide +kernel), List.mem_of_getElem? (i := 720) (by decide +kernel)⟩
theorem lw_p18 : lw_okq (⟨"FarHeights$Law", "note", "(III)V"⟩, 14) := ⟨⟨by decide +kernel, by decide +kernel⟩, List.mem_of_getElem? (i := 83) (by decide +kernel), List.mem_of_getElem? (i := 727) (by decide +kernel), List.mem_of_getElem? (i := 728) (by decide +kernel)⟩
theorem lw_p19 : lw_okq (⟨"FarHeights", "isRowPart", "(II)Z"⟩, 18) := ⟨⟨by decide +kernel, by decide +kernel⟩, List.mem_of_getElem? (i := 17) (by decide +kernel), List.mem_of_getElem? (i := 747) (by decide +kernel), List.mem_of_getElem? (i := 748) (by decide +kernel)⟩
theorem lw_p20 : lw_okq (⟨"FarHeights", "isRightRow", "(I)Z"⟩, 18) := ⟨⟨by decide +kernel, by decide +kernel⟩, List.mem_of_getElem? (i := 17) (by decide +kernel), List.mem_of_getElem? (i := 759) (by decide +kernel), List.mem_of_getElem? (i := 760) (by decide +kernel)⟩
theorem lw_p21 : lw_okq (⟨"FarHeights", "refusalOfRow", "(II)I"⟩, 18) := ⟨⟨by decide +kernel, by decide +kernel⟩, List.mem_of_getElem? (i := 17) (by decide +kernel), List.mem_of_getElem? (i := 781) (by decide +kernel), List.mem_of_getElem? (i := 782) (by decide +kernel)⟩
theorem lw_p22 : lw_okq (⟨"FarHeights", "holdRow", "(II)V"⟩, 18) := ⟨⟨by decide +kernel, by decide +kernel⟩, List.mem_of_getElem? (i := 17) (by decide +kernel), List.mem_of_getElem? (i := 796) (by decide +kernel), List.mem_of_getElem? (i := 797) (by decide +kernel)⟩
theorem lw_p23 : lw_okq (⟨"FarHeights", "kindOn", "(I)I"⟩, 18) := ⟨⟨by decide +kernel, by decide +kernel⟩, List.mem_of_getElem? (i := 17) (by decide +kernel), List.mem_of_getElem? (i := 804) (by decide +kernel), List.mem_of_getElem? (i := 805) (by decide +kernel)⟩
theorem lw_p24 : lw_okq (⟨"FarHeights", "thingOn", "(I)LFarHeights$Thing;"⟩, 18) := ⟨⟨by decide +kernel, by decide +kernel⟩, List.mem_of_getElem? (i := 17) (by decide +kernel), List.mem_of_getElem? (i := 815) (by decide +kernel), List.mem_of_getElem? (i := 816) (by decide +kernel)⟩
theorem lw_p25 : lw_okq (⟨"FarHeightsModel", "isStation", "(I)Z"⟩, 54) := ⟨⟨by decide +kernel, by decide +kernel⟩, List.mem_of_getElem? (i := 959) (by decide +kernel), List.mem_of_getElem? (i := 1140) (by decide +kernel), List.mem_of_getElem? (i := 1141) (by decide +kernel)⟩
theorem lw_p26 : lw_okq (⟨"FarHeightsModel", "leanAt", "(I)I"⟩, 54) := ⟨⟨by decide +kernel, by decide +kernel⟩, List.mem_of_getElem? (i := 959) (by decide +kernel), List.mem_of_getElem? (i := 1153) (by decide +kernel), List.mem_of_getElem? (i := 1154) (by decide +kernel)⟩
theorem lw_p27 : lw_okq (⟨"FarHeightsModel", "awayOf", "(II)I"⟩, 54) := ⟨⟨by decide +kernel, by decide +kernel⟩, List.mem_of_getElem? (i := 959) (by decide +kernel), List.mem_of_getElem? (i := 1157) (by decide +kernel), List.mem_of_getElem? (i := 1158) (by decide +kernel)⟩
theorem lw_p28 : lw_okq (⟨"FarHeightsModel", "findLevels", "()V"⟩, 54) := ⟨⟨by decide +kernel, by decide +kernel⟩, List.mem_of_getElem? (i := 959) (by decide +kernel), List.mem_of_getElem? (i := 1161) (by decide +kernel), List.mem_of_getElem? (i := 1162) (by decide +kernel)⟩
theorem lw_p29 : lw_okq (⟨"FarHeightsModel", "findDoubts", "()V"⟩, 54) := ⟨⟨by decide +kernel, by decide +kernel⟩, List.mem_of_getElem? (i := 959) (by decide +kernel), List.mem_of_getElem? (i := 1165) (by decide +kernel), List.mem_of_getElem? (i := 1166) (by decide +kernel)⟩
theorem lw_p30 : lw_okq (⟨"FarHeightsModel", "nearer", "(III)V"⟩, 54) := ⟨⟨by decide +kernel, by decide +kernel⟩, List.mem_of_getElem? (i := 959) (by decide +kernel), List.mem_of_getElem? (i := 1170) (by decide +kernel), List.mem_of_getElem? (i := 1171) (by decide +kernel)⟩
theorem lw_p31 : lw_okq (⟨"FarHeightsModel", "hasLevel", "(I)Z"⟩, 54) := ⟨⟨by decide +kernel, by decide +kernel⟩, List.mem_of_getElem? (i := 959) (by decide +kernel), List.mem_of_getElem? (i := 1174) (by decide +kernel), List.mem_of_getElem? (i := 1175) (by decide +kernel)⟩
def lw_privs_2 : List (MethodName × Nat) := [(⟨"FarHeights$Law", "readComparison", "()V"⟩, 14), (⟨"FarHeights$Law", "isValue", "()Z"⟩, 14), (⟨"FarHeights$Law", "note", "(III)V"⟩, 14), (⟨"FarHeights", "isRowPart", "(II)Z"⟩, 18), (⟨"FarHeights", "isRightRow", "(I)Z"⟩, 18), (⟨"FarHeights", "refusalOfRow", "(II)I"⟩, 18), (⟨"FarHeights", "holdRow", "(II)V"⟩, 18), (⟨"FarHeights", "kindOn", "(I)I"⟩, 18), (⟨"FarHeights", "thingOn", "(I)LFarHeights$Thing;"⟩, 18), (⟨"FarHeightsModel", "isStation", "(I)Z"⟩, 54), (⟨"FarHeightsModel", "leanAt", "(I)I"⟩, 54), (⟨"FarHeightsModel", "awayOf", "(II)I"⟩, 54), (⟨"FarHeightsModel", "findLevels", "()V"⟩, 54), (⟨"FarHeightsModel", "findDoubts", "()V"⟩, 54), (⟨"FarHeightsModel", "nearer", "(III)V"⟩, 54), (⟨"FarHeightsModel", "hasLevel", "(I)Z"⟩, 54)]
theorem lw_r2 : ∀ q ∈ lw_privs_2, lw_okq q := List.forall_mem_cons.mpr ⟨lw_p16, List.forall_mem_cons.mpr ⟨lw_p17, List.forall_mem_cons.mpr ⟨lw_p18, List.forall_mem_cons.mpr ⟨lw_p19, List.forall_mem_cons.mpr ⟨lw_p20, List.forall_mem_cons.mpr ⟨lw_p21, List.forall_mem_cons.mpr ⟨lw_p22, List.forall_mem_cons.mpr ⟨lw_p23, List.forall_mem_cons.mpr ⟨lw_p24, List.forall_mem_cons.mpr ⟨lw_p25, List.forall_mem_cons.mpr ⟨lw_p26, List.forall_mem_cons.mpr ⟨lw_p27, List.forall_mem_cons.mpr ⟨lw_p28, List.forall_mem_cons.mpr ⟨lw_p29, List.forall_mem_cons.mpr ⟨lw_p30, List.forall_mem_cons.mpr ⟨lw_p31, fun _ h => absurd h List.not_mem_nil⟩⟩⟩⟩⟩⟩⟩⟩⟩⟩⟩⟩⟩⟩⟩⟩
theorem lw_p32 : lw_okq (⟨"FarHeightsModel", "comes", "(III)Z"⟩, 54) := ⟨⟨by decide +kernel, by decide +kernel⟩, List.mem_of_getElem? (i := 959) (by decide +kernel), List.mem_of_getElem? (i := 1178) (by decide +kernel), List.mem_of_getElem? (i := 1179) (by decide +kernel)⟩
theorem lw_p33 : lw_okq (⟨"FarHeightsModel", "allDoubts", "()I"⟩, 54) := ⟨⟨by decide +kernel, by decide +kernel⟩, List.mem_of_getElem? (i := 959) (by decide +kernel), List.mem_of_getElem? (i := 1187) (by decide +kernel), List.mem_of_getElem? (i := 1188) (by decide +kernel)⟩
theorem lw_p34 : lw_okq (⟨"FarHeightsModel", "isPoint", "(I)Z"⟩, 54) := ⟨⟨by decide +kernel, by decide +kernel⟩, List.mem_of_getElem? (i := 959) (by decide +kernel), List.mem_of_getElem? (i := 1199) (by decide +kernel), List.mem_of_getElem? (i := 1200) (by decide +kernel)⟩
theorem lw_p35 : lw_okq (⟨"FarHeightsModel", "addSight", "(IIIIII)I"⟩, 54) := ⟨⟨by decide +kernel, by decide +kernel⟩, List.mem_of_getElem? (i := 959) (by decide +kernel), List.mem_of_getElem? (i := 1217) (by decide +kernel), List.mem_of_getElem? (i := 1218) (by decide +kernel)⟩
theorem lw_p36 : lw_okq (⟨"FarHeightsModel", "isSight", "(I)Z"⟩, 54) := ⟨⟨by decide +kernel, by decide +kernel⟩, List.mem_of_getElem? (i := 959) (by decide +kernel), List.mem_of_getElem? (i := 1225) (by decide +kernel), List.mem_of_getElem? (i := 1226) (by decide +kernel)⟩
theorem lw_p37 : lw_okq (⟨"FarHeightsModel", "toldOf", "(I)I"⟩, 54) := ⟨⟨by decide +kernel, by decide +kernel⟩, List.mem_of_getElem? (i := 959) (by decide +kernel), List.mem_of_getElem? (i := 1229) (by decide +kernel), List.mem_of_getElem? (i := 1230) (by decide +kernel)⟩
theorem lw_p38 : lw_okq (⟨"FarHeightsModel", "toldBy", "(IIII)I"⟩, 54) := ⟨⟨by decide +kernel, by decide +kernel⟩, List.mem_of_getElem? (i := 959) (by decide +kernel), List.mem_of_getElem? (i := 1233) (by decide +kernel), List.mem_of_getElem? (i := 1234) (by decide +kernel)⟩
theorem lw_p39 : lw_okq (⟨"FarHeightsModel", "holds", "(I)Z"⟩, 54) := ⟨⟨by decide +kernel, by decide +kernel⟩, List.mem_of_getElem? (i := 959) (by decide +kernel), List.mem_of_getElem? (i := 1237) (by decide +kernel), List.mem_of_getElem? (i := 1238) (by decide +kernel)⟩
theorem lw_p40 : lw_okq (⟨"FarHeightsModel", "bendBy", "(III)I"⟩, 54) := ⟨⟨by decide +kernel, by decide +kernel⟩, List.mem_of_getElem? (i := 959) (by decide +kernel), List.mem_of_getElem? (i := 1244) (by decide +kernel), List.mem_of_getElem? (i := 1245) (by decide +kernel)⟩
theorem lw_p41 : lw_okq (⟨"FarHeightsModel", "sightFoot", "(I)I"⟩, 54) := ⟨⟨by decide +kernel, by decide +kernel⟩, List.mem_of_getElem? (i := 959) (by decide +kernel), List.mem_of_getElem? (i := 1259) (by decide +kernel), List.mem_of_getElem? (i := 1260) (by decide +kernel)⟩
theorem lw_p42 : lw_okq (⟨"FarHeightsModel", "footOf", "(IIIII)I"⟩, 54) := ⟨⟨by decide +kernel, by decide +kernel⟩, List.mem_of_getElem? (i := 959) (by decide +kernel), List.mem_of_getElem? (i := 1263) (by decide +kernel), List.mem_of_getElem? (i := 1264) (by decide +kernel)⟩
theorem lw_p43 : lw_okq (⟨"FarHeightsModel", "widthOf", "(I)I"⟩, 54) := ⟨⟨by decide +kernel, by decide +kernel⟩, List.mem_of_getElem? (i := 959) (by decide +kernel), List.mem_of_getElem? (i := 1267) (by decide +kernel), List.mem_of_getElem? (i := 1268) (by decide +kernel)⟩
theorem lw_p44 : lw_okq (⟨"FarHeightsModel", "noSpan", "(I)I"⟩, 54) := ⟨⟨by decide +kernel, by decide +kernel⟩, List.mem_of_getElem? (i := 959) (by decide +kernel), List.mem_of_getElem? (i := 1275) (by decide +kernel), List.mem_of_getElem? (i := 1276) (by decide +kernel)⟩
theorem lw_p45 : lw_okq (⟨"FarHeightsModel", "findSpan", "(II)I"⟩, 54) := ⟨⟨by decide +kernel, by decide +kernel⟩, List.mem_of_getElem? (i := 959) (by decide +kernel), List.mem_of_getElem? (i := 1279) (by decide +kernel), List.mem_of_getElem? (i := 1280) (by decide +kernel)⟩
theorem lw_p46 : lw_okq (⟨"FarHeightsModel", "counts", "(I)Z"⟩, 54) := ⟨⟨by decide +kernel, by decide +kernel⟩, List.mem_of_getElem? (i := 959) (by decide +kernel), List.mem_of_getElem? (i := 1283) (by decide +kernel), List.mem_of_getElem? (i := 1284) (by decide +kernel)⟩
theorem lw_p47 : lw_okq (⟨"FarHeightsModel", "advance", "()V"⟩, 54) := ⟨⟨by decide +kernel, by decide +kernel⟩, List.mem_of_getElem? (i := 959) (by decide +kernel), List.mem_of_getElem? (i := 1335) (by decide +kernel), List.mem_of_getElem? (i := 1336) (by decide +kernel)⟩
def lw_privs_3 : List (MethodName × Nat) := [(⟨"FarHeightsModel", "comes", "(III)Z"⟩, 54), (⟨"FarHeightsModel", "allDoubts", "()I"⟩, 54), (⟨"FarHeightsModel", "isPoint", "(I)Z"⟩, 54), (⟨"FarHeightsModel", "addSight", "(IIIIII)I"⟩, 54), (⟨"FarHeightsModel", "isSight", "(I)Z"⟩, 54), (⟨"FarHeightsModel", "toldOf", "(I)I"⟩, 54), (⟨"FarHeightsModel", "toldBy", "(IIII)I"⟩, 54), (⟨"FarHeightsModel", "holds", "(I)Z"⟩, 54), (⟨"FarHeightsModel", "bendBy", "(III)I"⟩, 54), (⟨"FarHeightsModel", "sightFoot", "(I)I"⟩, 54), (⟨"FarHeightsModel", "footOf", "(IIIII)I"⟩, 54), (⟨"FarHeightsModel", "widthOf", "(I)I"⟩, 54), (⟨"FarHeightsModel", "noSpan", "(I)I"⟩, 54), (⟨"FarHeightsModel", "findSpan", "(II)I"⟩, 54), (⟨"FarHeightsModel", "counts", "(I)Z"⟩, 54), (⟨"FarHeightsModel", "advance", "()V"⟩, 54)]
theorem lw_r3 : ∀ q ∈ lw_privs_3, lw_okq q := List.forall_mem_cons.mpr ⟨lw_p32, List.forall_mem_cons.mpr ⟨lw_p33, List.forall_mem_cons.mpr ⟨lw_p34, List.forall_mem_cons.mpr ⟨lw_p35, List.forall_mem_cons.mpr ⟨lw_p36, List.forall_mem_cons.mpr ⟨lw_p37, List.forall_mem_cons.mpr ⟨lw_p38, List.forall_mem_cons.mpr ⟨lw_p39, List.forall_mem_cons.mpr ⟨lw_p40, List.forall_mem_cons.mpr ⟨lw_p41, List.forall_mem_cons.mpr ⟨lw_p42, List.forall_mem_cons.mpr ⟨lw_p43, List.forall_mem_cons.mpr ⟨lw_p44, List.forall_mem_cons.mpr ⟨lw_p45, List.forall_mem_cons.mpr ⟨lw_p46, List.forall_mem_cons.mpr ⟨lw_p47, fun _ h => absurd h List.not_mem_nil⟩⟩⟩⟩⟩⟩⟩⟩⟩⟩⟩⟩⟩⟩⟩⟩
theorem lw_p48 : lw_okq (⟨"FarHeightsModel", "isGood", "()Z"⟩, 54) := ⟨⟨by decide +kernel, by decide +kernel⟩, List.mem_of_getElem? (i := 959) (by decide +kernel), List.mem_of_getElem? (i := 1349) (by decide +kernel), List.mem_of_getElem? (i := 1350) (by decide +kernel)⟩
theorem lw_p49 : lw_okq (⟨"FarHeightsModel", "isWord", "(J)Z"⟩, 54) := ⟨⟨by decide +kernel, by decide +kernel⟩, List.mem_of_getElem? (i := 959) (by decide +kernel), List.mem_of_getElem? (i := 1354) (by decide +kernel), List.mem_of_getElem? (i := 1355) (by decide +kernel)⟩
theorem lw_p50 : lw_okq (⟨"FarHeightsModel", "want", "(Z)V"⟩, 54) := ⟨⟨by decide +kernel, by decide +kernel⟩, List.mem_of_getElem? (i := 959) (by decide +kernel), List.mem_of_getElem? (i := 1358) (by decide +kernel), List.mem_of_getElem? (i := 1359) (by decide +kernel)⟩
theorem lw_p51 : lw_okq (⟨"FarHeightsModel", "faulty", "()V"⟩, 54) := ⟨⟨by decide +kernel, by decide +kernel⟩, List.mem_of_getElem? (i := 959) (by decide +kernel), List.mem_of_getElem? (i := 1362) (by decide +kernel), List.mem_of_getElem? (i := 1363) (by decide +kernel)⟩
theorem lw_p52 : lw_okq (⟨"FarHeightsModel", "wantNumber", "(I)I"⟩, 54) := ⟨⟨by decide +kernel, by decide +kernel⟩, List.mem_of_getElem? (i := 959) (by decide +kernel), List.mem_of_getElem? (i := 1366) (by decide +kernel), List.mem_of_getElem? (i := 1367) (by decide +kernel)⟩
theorem lw_p53 : lw_okq (⟨"FarHeightsModel", "wantCond", "()V"⟩, 54) := ⟨⟨by decide +kernel, by decide +kernel⟩, List.mem_of_getElem? (i := 959) (by decide +kernel), List.mem_of_getElem? (i := 1371) (by decide +kernel), List.mem_of_getElem? (i := 1372) (by decide +kernel)⟩
theorem lw_p54 : lw_okq (⟨"FarHeightsModel", "hold", "(I)V"⟩, 54) := ⟨⟨by decide +kernel, by decide +kernel⟩, List.mem_of_getElem? (i := 959) (by decide +kernel), List.mem_of_getElem? (i := 1376) (by decide +kernel), List.mem_of_getElem? (i := 1377) (by decide +kernel)⟩
theorem lw_p55 : lw_okq (⟨"FarHeightsModel", "isMark", "(I)Z"⟩, 54) := ⟨⟨by decide +kernel, by decide +kernel⟩, List.mem_of_getElem? (i := 959) (by decide +kernel), List.mem_of_getElem? (i := 1380) (by decide +kernel), List.mem_of_getElem? (i := 1381) (by decide +kernel)⟩
theorem lw_p56 : lw_okq (⟨"FarHeightsModel", "wantAsk", "()V"⟩, 54) := ⟨⟨by decide +kernel, by decide +kernel⟩, List.mem_of_getElem? (i := 959) (by decide +kernel), List.mem_of_getElem? (i := 1384) (by decide +kernel), List.mem_of_getElem? (i := 1385) (by decide +kernel)⟩
theorem lw_p57 : lw_okq (⟨"FarHeightsModel", "wantValue", "()V"⟩, 54) := ⟨⟨by decide +kernel, by decide +kernel⟩, List.mem_of_getElem? (i := 959) (by decide +kernel), List.mem_of_getElem? (i := 1388) (by decide +kernel), List.mem_of_getElem? (i := 1389) (by decide +kernel)⟩
theorem lw_p58 : lw_okq (⟨"FarHeightsModel", "wordHere", "()I"⟩, 54) := ⟨⟨by decide +kernel, by decide +kernel⟩, List.mem_of_getElem? (i := 959) (by decide +kernel), List.mem_of_getElem? (i := 1392) (by decide +kernel), List.mem_of_getElem? (i := 1393) (by decide +kernel)⟩
theorem lw_p59 : lw_okq (⟨"FarHeightsModel", "emit", "(I)V"⟩, 54) := ⟨⟨by decide +kernel, by decide +kernel⟩, List.mem_of_getElem? (i := 959) (by decide +kernel), List.mem_of_getElem? (i := 1400) (by decide +kernel), List.mem_of_getElem? (i := 1401) (by decide +kernel)⟩
theorem lw_p60 : lw_okq (⟨"FarHeightsModel", "settle", "(I)V"⟩, 54) := ⟨⟨by decide +kernel, by decide +kernel⟩, List.mem_of_getElem? (i := 959) (by decide +kernel), List.mem_of_getElem? (i := 1404) (by decide +kernel), List.mem_of_getElem? (i := 1405) (by decide +kernel)⟩
theorem lw_p61 : lw_okq (⟨"FarHeightsModel", "isRow", "(II)Z"⟩, 54) := ⟨⟨by decide +kernel, by decide +kernel⟩, List.mem_of_getElem? (i := 959) (by decide +kernel), List.mem_of_getElem? (i := 1418) (by decide +kernel), List.mem_of_getElem? (i := 1419) (by decide +kernel)⟩
theorem lw_p62 : lw_okq (⟨"FarHeightsModel", "lacksSort", "(II)I"⟩, 54) := ⟨⟨by decide +kernel, by decide +kernel⟩, List.mem_of_getElem? (i := 959) (by decide +kernel), List.mem_of_getElem? (i := 1445) (by decide +kernel), List.mem_of_getElem? (i := 1446) (by decide +kernel)⟩
theorem lw_p63 : lw_okq (⟨"FarHeightsModel", "isThing", "(II)Z"⟩, 54) := ⟨⟨by decide +kernel, by decide +kernel⟩, List.mem_of_getElem? (i := 959) (by decide +kernel), List.mem_of_getElem? (i := 1458) (by decide +kernel), List.mem_of_getElem? (i := 1459) (by decide +kernel)⟩
def lw_privs_4 : List (MethodName × Nat) := [(⟨"FarHeightsModel", "isGood", "()Z"⟩, 54), (⟨"FarHeightsModel", "isWord", "(J)Z"⟩, 54), (⟨"FarHeightsModel", "want", "(Z)V"⟩, 54), (⟨"FarHeightsModel", "faulty", "()V"⟩, 54), (⟨"FarHeightsModel", "wantNumber", "(I)I"⟩, 54), (⟨"FarHeightsModel", "wantCond", "()V"⟩, 54), (⟨"FarHeightsModel", "hold", "(I)V"⟩, 54), (⟨"FarHeightsModel", "isMark", "(I)Z"⟩, 54), (⟨"FarHeightsModel", "wantAsk", "()V"⟩, 54), (⟨"FarHeightsModel", "wantValue", "()V"⟩, 54), (⟨"FarHeightsModel", "wordHere", "()I"⟩, 54), (⟨"FarHeightsModel", "emit", "(I)V"⟩, 54), (⟨"FarHeightsModel", "settle", "(I)V"⟩, 54), (⟨"FarHeightsModel", "isRow", "(II)Z"⟩, 54), (⟨"FarHeightsModel", "lacksSort", "(II)I"⟩, 54), (⟨"FarHeightsModel", "isThing", "(II)Z"⟩, 54)]
theorem lw_r4 : ∀ q ∈ lw_privs_4, lw_okq q := List.forall_mem_cons.mpr ⟨lw_p48, List.forall_mem_cons.mpr ⟨lw_p49, List.forall_mem_cons.mpr ⟨lw_p50, List.forall_mem_cons.mpr ⟨lw_p51, List.forall_mem_cons.mpr ⟨lw_p52, List.forall_mem_cons.mpr ⟨lw_p53, List.forall_mem_cons.mpr ⟨lw_p54, List.forall_mem_cons.mpr ⟨lw_p55, List.forall_mem_cons.mpr ⟨lw_p56, List.forall_mem_cons.mpr ⟨lw_p57, List.forall_mem_cons.mpr ⟨lw_p58, List.forall_mem_cons.mpr ⟨lw_p59, List.forall_mem_cons.mpr ⟨lw_p60, List.forall_mem_cons.mpr ⟨lw_p61, List.forall_mem_cons.mpr ⟨lw_p62, List.forall_mem_cons.mpr ⟨lw_p63, fun _ h => absurd h List.not_mem_nil⟩⟩⟩⟩⟩⟩⟩⟩⟩⟩⟩⟩⟩⟩⟩⟩
theorem lw_p64 : lw_okq (⟨"FarHeightsModel", "kindOn", "(I)I"⟩, 54) := ⟨⟨by decide +kernel, by decide +kernel⟩, List.mem_of_getElem? (i := 959) (by decide +kernel), List.mem_of_getElem? (i := 1466) (by decide +kernel), List.mem_of_getElem? (i := 1467) (by decide +kernel)⟩
theorem lw_p65 : lw_okq (⟨"FarHeightsModel", "seesIt", "(I)I"⟩, 54) := ⟨⟨by decide +kernel, by decide +kernel⟩, List.mem_of_getElem? (i := 959) (by decide +kernel), List.mem_of_getElem? (i := 1477) (by decide +kernel), List.mem_of_getElem? (i := 1478) (by decide +kernel)⟩
theorem lw_p66 : lw_okq (⟨"FarHeightsModel", "ran", "(I)V"⟩, 54) := ⟨⟨by decide +kernel, by decide +kernel⟩, List.mem_of_getElem? (i := 959) (by decide +kernel), List.mem_of_getElem? (i := 1481) (by decide +kernel), List.mem_of_getElem? (i := 1482) (by decide +kernel)⟩
theorem lw_p67 : lw_okq (⟨"FarHeightsModel", "bendsIt", "(I)I"⟩, 54) := ⟨⟨by decide +kernel, by decide +kernel⟩, List.mem_of_getElem? (i := 959) (by decide +kernel), List.mem_of_getElem? (i := 1485) (by decide +kernel), List.mem_of_getElem? (i := 1486) (by decide +kernel)⟩
theorem lw_p68 : lw_okq (⟨"FarHeightsModel", "sightBends", "(I)I"⟩, 54) := ⟨⟨by decide +kernel, by decide +kernel⟩, List.mem_of_getElem? (i := 959) (by decide +kernel), List.mem_of_getElem? (i := 1489) (by decide +kernel), List.mem_of_getElem? (i := 1490) (by decide +kernel)⟩
theorem lw_p69 : lw_okq (⟨"FarHeightsModel", "leansIt", "(I)I"⟩, 54) := ⟨⟨by decide +kernel, by decide +kernel⟩, List.mem_of_getElem? (i := 959) (by decide +kernel), List.mem_of_getElem? (i := 1493) (by decide +kernel), List.mem_of_getElem? (i := 1494) (by decide +kernel)⟩
theorem lw_p70 : lw_okq (⟨"FarHeightsModel", "sightLeans", "(I)I"⟩, 54) := ⟨⟨by decide +kernel, by decide +kernel⟩, List.mem_of_getElem? (i := 959) (by decide +kernel), List.mem_of_getElem? (i := 1497) (by decide +kernel), List.mem_of_getElem? (i := 1498) (by decide +kernel)⟩
theorem lw_p71 : lw_okq (⟨"FarHeightsModel", "tellsIt", "(I)I"⟩, 54) := ⟨⟨by decide +kernel, by decide +kernel⟩, List.mem_of_getElem? (i := 959) (by decide +kernel), List.mem_of_getElem? (i := 1501) (by decide +kernel), List.mem_of_getElem? (i := 1502) (by decide +kernel)⟩
theorem lw_p72 : lw_okq (⟨"FarHeightsModel", "sightTells", "(I)I"⟩, 54) := ⟨⟨by decide +kernel, by decide +kernel⟩, List.mem_of_getElem? (i := 959) (by decide +kernel), List.mem_of_getElem? (i := 1505) (by decide +kernel), List.mem_of_getElem? (i := 1506) (by decide +kernel)⟩
theorem lw_p73 : lw_okq (⟨"FarHeightsModel", "countedAll", "()I"⟩, 54) := ⟨⟨by decide +kernel, by decide +kernel⟩, List.mem_of_getElem? (i := 959) (by decide +kernel), List.mem_of_getElem? (i := 1517) (by decide +kernel), List.mem_of_getElem? (i := 1518) (by decide +kernel)⟩
theorem lw_p74 : lw_okq (⟨"FarHeightsModel", "moveAll", "(Z)V"⟩, 54) := ⟨⟨by decide +kernel, by decide +kernel⟩, List.mem_of_getElem? (i := 959) (by decide +kernel), List.mem_of_getElem? (i := 1525) (by decide +kernel), List.mem_of_getElem? (i := 1526) (by decide +kernel)⟩
theorem lw_p75 : lw_okq (⟨"FarHeightsModel", "move", "([IIZ)V"⟩, 54) := ⟨⟨by decide +kernel, by decide +kernel⟩, List.mem_of_getElem? (i := 959) (by decide +kernel), List.mem_of_getElem? (i := 1529) (by decide +kernel), List.mem_of_getElem? (i := 1530) (by decide +kernel)⟩
def lw_privs_5 : List (MethodName × Nat) := [(⟨"FarHeightsModel", "kindOn", "(I)I"⟩, 54), (⟨"FarHeightsModel", "seesIt", "(I)I"⟩, 54), (⟨"FarHeightsModel", "ran", "(I)V"⟩, 54), (⟨"FarHeightsModel", "bendsIt", "(I)I"⟩, 54), (⟨"FarHeightsModel", "sightBends", "(I)I"⟩, 54), (⟨"FarHeightsModel", "leansIt", "(I)I"⟩, 54), (⟨"FarHeightsModel", "sightLeans", "(I)I"⟩, 54), (⟨"FarHeightsModel", "tellsIt", "(I)I"⟩, 54), (⟨"FarHeightsModel", "sightTells", "(I)I"⟩, 54), (⟨"FarHeightsModel", "countedAll", "()I"⟩, 54), (⟨"FarHeightsModel", "moveAll", "(Z)V"⟩, 54), (⟨"FarHeightsModel", "move", "([IIZ)V"⟩, 54)]
theorem lw_r5 : ∀ q ∈ lw_privs_5, lw_okq q := List.forall_mem_cons.mpr ⟨lw_p64, List.forall_mem_cons.mpr ⟨lw_p65, List.forall_mem_cons.mpr ⟨lw_p66, List.forall_mem_cons.mpr ⟨lw_p67, List.forall_mem_cons.mpr ⟨lw_p68, List.forall_mem_cons.mpr ⟨lw_p69, List.forall_mem_cons.mpr ⟨lw_p70, List.forall_mem_cons.mpr ⟨lw_p71, List.forall_mem_cons.mpr ⟨lw_p72, List.forall_mem_cons.mpr ⟨lw_p73, List.forall_mem_cons.mpr ⟨lw_p74, List.forall_mem_cons.mpr ⟨lw_p75, fun _ h => absurd h List.not_mem_nil⟩⟩⟩⟩⟩⟩⟩⟩⟩⟩⟩⟩
def lw_privs : List (MethodName × Nat) := lw_privs_1 ++ (lw_privs_2 ++ (lw_privs_3 ++ (lw_privs_4 ++ (lw_privs_5))))
def lw_tbl : List Cond := k2_sels lw_privs ++ tables_1
theorem lw_privs_ok : ∀ q ∈ lw_privs, lw_okq q := by
  show ∀ q ∈ lw_privs_1 ++ (lw_privs_2 ++ (lw_privs_3 ++ (lw_privs_4 ++ (lw_privs_5)))), lw_okq q
  exact List.forall_mem_append.mpr ⟨lw_r1, List.forall_mem_append.mpr ⟨lw_r2, List.forall_mem_append.mpr ⟨lw_r3, List.forall_mem_append.mpr ⟨lw_r4, lw_r5⟩⟩⟩⟩

def RX0 : String := "FarHeights$Both"
def TX0 : u_T := fun k => match k with
  | 0 => ("FarHeights$Thing", "n", "I", false)
  | 1 => ("FarHeights$Thing", "a", "I", false)
  | 2 => ("FarHeights$Thing", "ran", "I", false)
  | 3 => ("FarHeights$Thing", "parted", "Z", false)
  | _ => ("FarHeights$Thing", "bodies", "[I", true)
def tyX0 : Nat → FieldType := fun k => match k with
  | 0 => .int
  | 1 => .int
  | 2 => .int
  | 3 => .boolean
  | _ => .array .int
abbrev wsX00 : List Cond := u_ws RX0 TX0 5
theorem nmX0 : ∀ a, a < 5 → ∀ b, b < 5 → a ≠ b → (TX0 a).2.1 ≠ (TX0 b).2.1 := by decide +kernel
theorem tyX0_ok : ∀ k, k < 5 → parseFieldDescriptor (TX0 k).2.2.1 = some (tyX0 k) := by decide +kernel
abbrev cX0_init : ByteArray := prog_2_method_1_code
def yX0_init : MethodName := ⟨RX0, "<init>", "()V"⟩
abbrev cX0_leans : ByteArray := prog_2_method_2_code
def yX0_leans : MethodName := ⟨RX0, "leans", "(I)I"⟩
def RX1 : String := "FarHeights$Far"
def TX1 : u_T := fun k => match k with
  | 0 => ("FarHeights$Thing", "n", "I", false)
  | 1 => ("FarHeights$Thing", "a", "I", false)
  | 2 => ("FarHeights$Thing", "ran", "I", false)
  | 3 => ("FarHeights$Thing", "parted", "Z", false)
  | _ => ("FarHeights$Thing", "bodies", "[I", true)
def tyX1 : Nat → FieldType := fun k => match k with
  | 0 => .int
  | 1 => .int
  | 2 => .int
  | 3 => .boolean
  | _ => .array .int
abbrev wsX10 : List Cond := u_ws RX1 TX1 5
theorem nmX1 : ∀ a, a < 5 → ∀ b, b < 5 → a ≠ b → (TX1 a).2.1 ≠ (TX1 b).2.1 := by decide +kernel
theorem tyX1_ok : ∀ k, k < 5 → parseFieldDescriptor (TX1 k).2.2.1 = some (tyX1 k) := by decide +kernel
abbrev cX1_init : ByteArray := prog_3_method_1_code
def yX1_init : MethodName := ⟨RX1, "<init>", "()V"⟩
abbrev cX1_sees : ByteArray := prog_3_method_2_code
def yX1_sees : MethodName := ⟨RX1, "sees", "(I)I"⟩
abbrev cX1_tells : ByteArray := prog_3_method_3_code
def yX1_tells : MethodName := ⟨RX1, "tells", "(I)I"⟩
def RX2 : String := "FarHeights$Hidden"
def TX2 : u_T := fun k => match k with
  | 0 => ("FarHeights$Thing", "n", "I", false)
  | 1 => ("FarHeights$Thing", "a", "I", false)
  | 2 => ("FarHeights$Thing", "ran", "I", false)
  | 3 => ("FarHeights$Thing", "parted", "Z", false)
  | _ => ("FarHeights$Thing", "bodies", "[I", true)
def tyX2 : Nat → FieldType := fun k => match k with
  | 0 => .int
  | 1 => .int
  | 2 => .int
  | 3 => .boolean
  | _ => .array .int
abbrev wsX20 : List Cond := u_ws RX2 TX2 5
theorem nmX2 : ∀ a, a < 5 → ∀ b, b < 5 → a ≠ b → (TX2 a).2.1 ≠ (TX2 b).2.1 := by decide +kernel
theorem tyX2_ok : ∀ k, k < 5 → parseFieldDescriptor (TX2 k).2.2.1 = some (tyX2 k) := by decide +kernel
abbrev cX2_init : ByteArray := prog_4_method_1_code
def yX2_init : MethodName := ⟨RX2, "<init>", "()V"⟩
abbrev cX2_sees : ByteArray := prog_4_method_2_code
def yX2_sees : MethodName := ⟨RX2, "sees", "(I)I"⟩
abbrev cX2_bends : ByteArray := prog_4_method_3_code
def yX2_bends : MethodName := ⟨RX2, "bends", "(I)I"⟩
def RX3 : String := "FarHeights$Law"
def TX3 : u_T := fun k => match k with
  | 0 => ("FarHeights$Law", "lines", "I", false)
  | 1 => ("FarHeights$Law", "bends", "[I", true)
  | 2 => ("FarHeights$Law", "ends", "[I", true)
  | 3 => ("FarHeights$Law", "steps", "I", false)
  | 4 => ("FarHeights$Law", "signs", "[I", true)
  | 5 => ("FarHeights$Law", "lefts", "[I", true)
  | 6 => ("FarHeights$Law", "rights", "[I", true)
  | 7 => ("FarHeights$Law", "text", "[B", false)
  | 8 => ("FarHeights$Law", "size", "I", false)
  | 9 => ("FarHeights$Law", "start", "I", false)
  | 10 => ("FarHeights$Law", "end", "I", false)
  | 11 => ("FarHeights$Law", "token", "I", false)
  | 12 => ("FarHeights$Law", "value", "I", false)
  | _ => ("FarHeights$Law", "fault", "I", false)
def tyX3 : Nat → FieldType := fun k => match k with
  | 0 => .int
  | 1 => .array .int
  | 2 => .array .int
  | 3 => .int
  | 4 => .array .int
  | 5 => .array .int
  | 6 => .array .int
  | 7 => .array .byte
  | 8 => .int
  | 9 => .int
  | 10 => .int
  | 11 => .int
  | 12 => .int
  | _ => .int
abbrev wsX30 : List Cond := u_ws RX3 TX3 14
theorem nmX3 : ∀ a, a < 14 → ∀ b, b < 14 → a ≠ b → (TX3 a).2.1 ≠ (TX3 b).2.1 := by decide +kernel
theorem tyX3_ok : ∀ k, k < 14 → parseFieldDescriptor (TX3 k).2.2.1 = some (tyX3 k) := by decide +kernel
abbrev cX3_init : ByteArray := prog_5_method_1_code
def yX3_init : MethodName := ⟨RX3, "<init>", "()V"⟩
abbrev cX3_told : ByteArray := prog_5_method_2_code
def yX3_told : MethodName := ⟨RX3, "told", "(III)I"⟩
abbrev cX3_holds : ByteArray := prog_5_method_3_code
def yX3_holds : MethodName := ⟨RX3, "holds", "(IIII)Z"⟩
abbrev cX3_asked : ByteArray := prog_5_method_4_code
def yX3_asked : MethodName := ⟨RX3, "asked", "(IIII)I"⟩
abbrev cX3_agree : ByteArray := prog_5_method_5_code
def yX3_agree : MethodName := ⟨RX3, "agree", "(III)Z"⟩
abbrev cX3_readFrom : ByteArray := prog_5_method_6_code
def yX3_readFrom : MethodName := ⟨RX3, "readFrom", "([BI)I"⟩
abbrev cX3_readLine : ByteArray := prog_5_method_7_code
def yX3_readLine : MethodName := ⟨RX3, "readLine", "()V"⟩
abbrev cX3_readCond : ByteArray := prog_5_method_8_code
def yX3_readCond : MethodName := ⟨RX3, "readCond", "(I)V"⟩
abbrev cX3_readAll : ByteArray := prog_5_method_9_code
def yX3_readAll : MethodName := ⟨RX3, "readAll", "(I)V"⟩
abbrev cX3_readOne : ByteArray := prog_5_method_10_code
def yX3_readOne : MethodName := ⟨RX3, "readOne", "(I)V"⟩
abbrev cX3_readOpened : ByteArray := prog_5_method_11_code
def yX3_readOpened : MethodName := ⟨RX3, "readOpened", "(I)V"⟩
abbrev cX3_readComparison : ByteArray := prog_5_method_12_code
def yX3_readComparison : MethodName := ⟨RX3, "readComparison", "()V"⟩
abbrev cX3_fail : ByteArray := prog_5_method_13_code
def yX3_fail : MethodName := ⟨RX3, "fail", "()V"⟩
abbrev cX3_note : ByteArray := prog_5_method_14_code
def yX3_note : MethodName := ⟨RX3, "note", "(III)V"⟩
abbrev cX3_isValue : ByteArray := prog_5_method_15_code
def yX3_isValue : MethodName := ⟨RX3, "isValue", "()Z"⟩
abbrev cX3_step : ByteArray := prog_5_method_16_code
def yX3_step : MethodName := ⟨RX3, "step", "()V"⟩
abbrev cX3_copy : ByteArray := prog_5_method_17_code
def yX3_copy : MethodName := ⟨RX3, "copy", "(LFarHeights$Law;)V"⟩
def RX4 : String := "FarHeights$Morning"
def TX4 : u_T := fun k => match k with
  | 0 => ("FarHeights$Thing", "n", "I", false)
  | 1 => ("FarHeights$Thing", "a", "I", false)
  | 2 => ("FarHeights$Thing", "ran", "I", false)
  | 3 => ("FarHeights$Thing", "parted", "Z", false)
  | _ => ("FarHeights$Thing", "bodies", "[I", true)
def tyX4 : Nat → FieldType := fun k => match k with
  | 0 => .int
  | 1 => .int
  | 2 => .int
  | 3 => .boolean
  | _ => .array .int
abbrev wsX40 : List Cond := u_ws RX4 TX4 5
theorem nmX4 : ∀ a, a < 5 → ∀ b, b < 5 → a ≠ b → (TX4 a).2.1 ≠ (TX4 b).2.1 := by decide +kernel
theorem tyX4_ok : ∀ k, k < 5 → parseFieldDescriptor (TX4 k).2.2.1 = some (tyX4 k) := by decide +kernel
abbrev cX4_init : ByteArray := prog_6_method_1_code
def yX4_init : MethodName := ⟨RX4, "<init>", "()V"⟩
abbrev cX4_bends : ByteArray := prog_6_method_2_code
def yX4_bends : MethodName := ⟨RX4, "bends", "(I)I"⟩
def RX5 : String := "FarHeights$Net"
def TX5 : u_T := fun k => match k with
  | 0 => ("FarHeights$Net", "stations", "I", false)
  | 1 => ("FarHeights$Net", "places", "[I", true)
  | 2 => ("FarHeights$Net", "legs", "I", false)
  | 3 => ("FarHeights$Net", "firsts", "[I", true)
  | 4 => ("FarHeights$Net", "seconds", "[I", true)
  | 5 => ("FarHeights$Net", "rises", "[I", true)
  | 6 => ("FarHeights$Net", "slips", "[I", true)
  | 7 => ("FarHeights$Net", "doubts", "[I", true)
  | 8 => ("FarHeights$Net", "lastLegs", "[I", true)
  | 9 => ("FarHeights$Net", "levels", "[I", true)
  | _ => ("FarHeights$Net", "tried", "[I", true)
def tyX5 : Nat → FieldType := fun k => match k with
  | 0 => .int
  | 1 => .array .int
  | 2 => .int
  | 3 => .array .int
  | 4 => .array .int
  | 5 => .array .int
  | 6 => .array .int
  | 7 => .array .int
  | 8 => .array .int
  | 9 => .array .int
  | _ => .array .int
abbrev wsX50 : List Cond := u_ws RX5 TX5 11
theorem nmX5 : ∀ a, a < 11 → ∀ b, b < 11 → a ≠ b → (TX5 a).2.1 ≠ (TX5 b).2.1 := by decide +kernel
theorem tyX5_ok : ∀ k, k < 11 → parseFieldDescriptor (TX5 k).2.2.1 = some (tyX5 k) := by decide +kernel
abbrev cX5_init : ByteArray := prog_7_method_1_code
def yX5_init : MethodName := ⟨RX5, "<init>", "()V"⟩
abbrev cX5_hasLevel : ByteArray := prog_7_method_2_code
def yX5_hasLevel : MethodName := ⟨RX5, "hasLevel", "(I)Z"⟩
abbrev cX5_addStation : ByteArray := prog_7_method_3_code
def yX5_addStation : MethodName := ⟨RX5, "addStation", "(I)I"⟩
abbrev cX5_addLeg : ByteArray := prog_7_method_4_code
def yX5_addLeg : MethodName := ⟨RX5, "addLeg", "(IIII)I"⟩
abbrev cX5_carry : ByteArray := prog_7_method_5_code
def yX5_carry : MethodName := ⟨RX5, "carry", "()V"⟩
abbrev cX5_doubtsWithEasy : ByteArray := prog_7_method_6_code
def yX5_doubtsWithEasy : MethodName := ⟨RX5, "doubtsWithEasy", "(I)I"⟩
abbrev cX5_spread : ByteArray := prog_7_method_7_code
def yX5_spread : MethodName := ⟨RX5, "spread", "([II)V"⟩
abbrev cX5_lessen : ByteArray := prog_7_method_8_code
def yX5_lessen : MethodName := ⟨RX5, "lessen", "([IIII)V"⟩
abbrev cX5_findLastLeg : ByteArray := prog_7_method_9_code
def yX5_findLastLeg : MethodName := ⟨RX5, "findLastLeg", "(I)I"⟩
abbrev cX5_otherEnd : ByteArray := prog_7_method_10_code
def yX5_otherEnd : MethodName := ⟨RX5, "otherEnd", "(II)I"⟩
abbrev cX5_carriedLevel : ByteArray := prog_7_method_11_code
def yX5_carriedLevel : MethodName := ⟨RX5, "carriedLevel", "(I)I"⟩
abbrev cX5_copy : ByteArray := prog_7_method_12_code
def yX5_copy : MethodName := ⟨RX5, "copy", "(LFarHeights$Net;)V"⟩
def RX6 : String := "FarHeights$Noon"
def TX6 : u_T := fun k => match k with
  | 0 => ("FarHeights$Thing", "n", "I", false)
  | 1 => ("FarHeights$Thing", "a", "I", false)
  | 2 => ("FarHeights$Thing", "ran", "I", false)
  | 3 => ("FarHeights$Thing", "parted", "Z", false)
  | _ => ("FarHeights$Thing", "bodies", "[I", true)
def tyX6 : Nat → FieldType := fun k => match k with
  | 0 => .int
  | 1 => .int
  | 2 => .int
  | 3 => .boolean
  | _ => .array .int
abbrev wsX60 : List Cond := u_ws RX6 TX6 5
theorem nmX6 : ∀ a, a < 5 → ∀ b, b < 5 → a ≠ b → (TX6 a).2.1 ≠ (TX6 b).2.1 := by decide +kernel
theorem tyX6_ok : ∀ k, k < 5 → parseFieldDescriptor (TX6 k).2.2.1 = some (tyX6 k) := by decide +kernel
abbrev cX6_init : ByteArray := prog_8_method_1_code
def yX6_init : MethodName := ⟨RX6, "<init>", "()V"⟩
abbrev cX6_sees : ByteArray := prog_8_method_2_code
def yX6_sees : MethodName := ⟨RX6, "sees", "(I)I"⟩
def RX7 : String := "FarHeights$Peak"
def TX7 : u_T := fun k => match k with
  | 0 => ("FarHeights$Thing", "n", "I", false)
  | 1 => ("FarHeights$Thing", "a", "I", false)
  | 2 => ("FarHeights$Thing", "ran", "I", false)
  | 3 => ("FarHeights$Thing", "parted", "Z", false)
  | _ => ("FarHeights$Thing", "bodies", "[I", true)
def tyX7 : Nat → FieldType := fun k => match k with
  | 0 => .int
  | 1 => .int
  | 2 => .int
  | 3 => .boolean
  | _ => .array .int
abbrev wsX70 : List Cond := u_ws RX7 TX7 5
theorem nmX7 : ∀ a, a < 5 → ∀ b, b < 5 → a ≠ b → (TX7 a).2.1 ≠ (TX7 b).2.1 := by decide +kernel
theorem tyX7_ok : ∀ k, k < 5 → parseFieldDescriptor (TX7 k).2.2.1 = some (tyX7 k) := by decide +kernel
abbrev cX7_init : ByteArray := prog_9_method_1_code
def yX7_init : MethodName := ⟨RX7, "<init>", "()V"⟩
abbrev cX7_sees : ByteArray := prog_9_method_2_code
def yX7_sees : MethodName := ⟨RX7, "sees", "(I)I"⟩
abbrev cX7_bends : ByteArray := prog_9_method_3_code
def yX7_bends : MethodName := ⟨RX7, "bends", "(I)I"⟩
abbrev cX7_leans : ByteArray := prog_9_method_4_code
def yX7_leans : MethodName := ⟨RX7, "leans", "(I)I"⟩
abbrev cX7_tells : ByteArray := prog_9_method_5_code
def yX7_tells : MethodName := ⟨RX7, "tells", "(I)I"⟩
def RX8 : String := "FarHeights$Sight"
def TX8 : u_T := fun k => match k with
  | _ => ("", "", "", false)
def tyX8 : Nat → FieldType := fun k => match k with
  | _ => .int
abbrev wsX80 : List Cond := u_ws RX8 TX8 0
theorem nmX8 : ∀ a, a < 0 → ∀ b, b < 0 → a ≠ b → (TX8 a).2.1 ≠ (TX8 b).2.1 := by decide +kernel
theorem tyX8_ok : ∀ k, k < 0 → parseFieldDescriptor (TX8 k).2.2.1 = some (tyX8 k) := by decide +kernel
abbrev cX8_init : ByteArray := prog_10_method_1_code
def yX8_init : MethodName := ⟨RX8, "<init>", "()V"⟩
abbrev cX8_sees : ByteArray := prog_10_method_2_code
def yX8_sees : MethodName := ⟨RX8, "sees", "(I)I"⟩
abbrev cX8_bends : ByteArray := prog_10_method_3_code
def yX8_bends : MethodName := ⟨RX8, "bends", "(I)I"⟩
abbrev cX8_leans : ByteArray := prog_10_method_4_code
def yX8_leans : MethodName := ⟨RX8, "leans", "(I)I"⟩
abbrev cX8_tells : ByteArray := prog_10_method_5_code
def yX8_tells : MethodName := ⟨RX8, "tells", "(I)I"⟩
def RX9 : String := "FarHeights$Thing"
def TX9 : u_T := fun k => match k with
  | _ => ("", "", "", false)
def tyX9 : Nat → FieldType := fun k => match k with
  | _ => .int
abbrev wsX90 : List Cond := u_ws RX9 TX9 0
theorem nmX9 : ∀ a, a < 0 → ∀ b, b < 0 → a ≠ b → (TX9 a).2.1 ≠ (TX9 b).2.1 := by decide +kernel
theorem tyX9_ok : ∀ k, k < 0 → parseFieldDescriptor (TX9 k).2.2.1 = some (tyX9 k) := by decide +kernel
abbrev cX9_init : ByteArray := prog_11_method_1_code
def yX9_init : MethodName := ⟨RX9, "<init>", "()V"⟩
abbrev cX9_begin : ByteArray := prog_11_method_6_code
def yX9_begin : MethodName := ⟨RX9, "begin", "(II)V"⟩
abbrev cX9_body : ByteArray := prog_11_method_7_code
def yX9_body : MethodName := ⟨RX9, "body", "(I)I"⟩
def RX10 : String := "FarHeights$View"
def TX10 : u_T := fun k => match k with
  | 0 => ("FarHeights$View", "net", "LFarHeights$Net;", true)
  | 1 => ("FarHeights$View", "law", "LFarHeights$Law;", true)
  | 2 => ("FarHeights$View", "points", "I", false)
  | 3 => ("FarHeights$View", "places", "[I", true)
  | 4 => ("FarHeights$View", "masses", "[I", true)
  | 5 => ("FarHeights$View", "massLaw", "I", false)
  | 6 => ("FarHeights$View", "sights", "I", false)
  | 7 => ("FarHeights$View", "kinds", "[I", true)
  | 8 => ("FarHeights$View", "froms", "[I", true)
  | 9 => ("FarHeights$View", "targets", "[I", true)
  | 10 => ("FarHeights$View", "slants", "[I", true)
  | 11 => ("FarHeights$View", "whens", "[I", true)
  | 12 => ("FarHeights$View", "falseSights", "I", false)
  | 13 => ("FarHeights$View", "lows", "[I", true)
  | 14 => ("FarHeights$View", "highs", "[I", true)
  | _ => ("FarHeights$View", "states", "[I", true)
def tyX10 : Nat → FieldType := fun k => match k with
  | 0 => .object "FarHeights$Net"
  | 1 => .object "FarHeights$Law"
  | 2 => .int
  | 3 => .array .int
  | 4 => .array .int
  | 5 => .int
  | 6 => .int
  | 7 => .array .int
  | 8 => .array .int
  | 9 => .array .int
  | 10 => .array .int
  | 11 => .array .int
  | 12 => .int
  | 13 => .array .int
  | 14 => .array .int
  | _ => .array .int
abbrev wsX100 : List Cond := u_ws RX10 TX10 16
theorem nmX10 : ∀ a, a < 16 → ∀ b, b < 16 → a ≠ b → (TX10 a).2.1 ≠ (TX10 b).2.1 := by decide +kernel
theorem tyX10_ok : ∀ k, k < 16 → parseFieldDescriptor (TX10 k).2.2.1 = some (tyX10 k) := by decide +kernel
abbrev cX10_init : ByteArray := prog_12_method_1_code
def yX10_init : MethodName := ⟨RX10, "<init>", "()V"⟩
abbrev cX10_addPoint : ByteArray := prog_12_method_2_code
def yX10_addPoint : MethodName := ⟨RX10, "addPoint", "(II)I"⟩
abbrev cX10_addSight : ByteArray := prog_12_method_3_code
def yX10_addSight : MethodName := ⟨RX10, "addSight", "(IIIII)I"⟩
abbrev cX10_away : ByteArray := prog_12_method_4_code
def yX10_away : MethodName := ⟨RX10, "away", "(II)I"⟩
abbrev cX10_awayOf : ByteArray := prog_12_method_5_code
def yX10_awayOf : MethodName := ⟨RX10, "awayOf", "(I)I"⟩
abbrev cX10_lean : ByteArray := prog_12_method_6_code
def yX10_lean : MethodName := ⟨RX10, "lean", "(I)I"⟩
abbrev cX10_toldOf : ByteArray := prog_12_method_7_code
def yX10_toldOf : MethodName := ⟨RX10, "toldOf", "(I)I"⟩
abbrev cX10_footFrom : ByteArray := prog_12_method_8_code
def yX10_footFrom : MethodName := ⟨RX10, "footFrom", "(IIIII)I"⟩
abbrev cX10_reach : ByteArray := prog_12_method_9_code
def yX10_reach : MethodName := ⟨RX10, "reach", "(III)I"⟩
abbrev cX10_footOf : ByteArray := prog_12_method_10_code
def yX10_footOf : MethodName := ⟨RX10, "footOf", "(I)I"⟩
abbrev cX10_reachOf : ByteArray := prog_12_method_11_code
def yX10_reachOf : MethodName := ⟨RX10, "reachOf", "(I)I"⟩
abbrev cX10_isFalse : ByteArray := prog_12_method_12_code
def yX10_isFalse : MethodName := ⟨RX10, "isFalse", "(I)Z"⟩
abbrev cX10_counts : ByteArray := prog_12_method_13_code
def yX10_counts : MethodName := ⟨RX10, "counts", "(I)Z"⟩
abbrev cX10_countedSights : ByteArray := prog_12_method_14_code
def yX10_countedSights : MethodName := ⟨RX10, "countedSights", "()I"⟩
abbrev cX10_measure : ByteArray := prog_12_method_15_code
def yX10_measure : MethodName := ⟨RX10, "measure", "(II)I"⟩
abbrev cX10_measureAll : ByteArray := prog_12_method_16_code
def yX10_measureAll : MethodName := ⟨RX10, "measureAll", "()Z"⟩
abbrev cX10_mayBeSeen : ByteArray := prog_12_method_17_code
def yX10_mayBeSeen : MethodName := ⟨RX10, "mayBeSeen", "(IIII)Z"⟩
abbrev cX10_hides : ByteArray := prog_12_method_18_code
def yX10_hides : MethodName := ⟨RX10, "hides", "(III)Z"⟩
abbrev cX10_waysHighest : ByteArray := prog_12_method_19_code
def yX10_waysHighest : MethodName := ⟨RX10, "waysHighest", "(I)J"⟩
abbrev cX10_waysInAll : ByteArray := prog_12_method_20_code
def yX10_waysInAll : MethodName := ⟨RX10, "waysInAll", "()J"⟩
abbrev cX10_feetUpTo : ByteArray := prog_12_method_21_code
def yX10_feetUpTo : MethodName := ⟨RX10, "feetUpTo", "(II)I"⟩
abbrev cX10_copy : ByteArray := prog_12_method_22_code
def yX10_copy : MethodName := ⟨RX10, "copy", "(LFarHeights$View;)V"⟩
def RX11 : String := "FarHeights"
def TX11 : u_T := fun k => match k with
  | 0 => ("FarHeights", "view", "LFarHeights$View;", true)
  | 1 => ("FarHeights", "net", "LFarHeights$Net;", true)
  | 2 => ("FarHeights", "law", "LFarHeights$Law;", true)
  | 3 => ("FarHeights", "keptView", "LFarHeights$View;", true)
  | 4 => ("FarHeights", "kept", "Z", false)
  | 5 => ("FarHeights", "draft", "LFarHeights$Law;", true)
  | 6 => ("FarHeights", "tape", "[B", true)
  | 7 => ("FarHeights", "taped", "I", false)
  | 8 => ("FarHeights", "rows", "[I", true)
  | 9 => ("FarHeights", "rowCount", "I", false)
  | 10 => ("FarHeights", "sheetSorts", "[I", true)
  | 11 => ("FarHeights", "sheetSizes", "[I", true)
  | 12 => ("FarHeights", "sheetItems", "[J", true)
  | 13 => ("FarHeights", "shelfHolds", "[I", true)
  | 14 => ("FarHeights", "shelfNumbers", "[I", true)
  | 15 => ("FarHeights", "shelfSizes", "[I", true)
  | 16 => ("FarHeights", "things", "[LFarHeights$Thing;", true)
  | _ => ("FarHeights", "latest", "LFarHeights$Thing;", false)
def tyX11 : Nat → FieldType := fun k => match k with
  | 0 => .object "FarHeights$View"
  | 1 => .object "FarHeights$Net"
  | 2 => .object "FarHeights$Law"
  | 3 => .object "FarHeights$View"
  | 4 => .boolean
  | 5 => .object "FarHeights$Law"
  | 6 => .array .byte
  | 7 => .int
  | 8 => .array .int
  | 9 => .int
  | 10 => .array .int
  | 11 => .array .int
  | 12 => .array .long
  | 13 => .array .int
  | 14 => .array .int
  | 15 => .array .int
  | 16 => .array (.object "FarHeights$Thing")
  | _ => .object "FarHeights$Thing"
abbrev wsX110 : List Cond := u_ws RX11 TX11 18
theorem nmX11 : ∀ a, a < 18 → ∀ b, b < 18 → a ≠ b → (TX11 a).2.1 ≠ (TX11 b).2.1 := by decide +kernel
theorem tyX11_ok : ∀ k, k < 18 → parseFieldDescriptor (TX11 k).2.2.1 = some (tyX11 k) := by decide +kernel
abbrev cX11_init : ByteArray := prog_1_method_1_code
def yX11_init : MethodName := ⟨RX11, "<init>", "()V"⟩
abbrev cX11_station : ByteArray := prog_1_method_2_code
def yX11_station : MethodName := ⟨RX11, "station", "(I)I"⟩
abbrev cX11_leg : ByteArray := prog_1_method_3_code
def yX11_leg : MethodName := ⟨RX11, "leg", "(IIII)I"⟩
abbrev cX11_mend : ByteArray := prog_1_method_4_code
def yX11_mend : MethodName := ⟨RX11, "mend", "(III)I"⟩
abbrev cX11_stationOf : ByteArray := prog_1_method_5_code
def yX11_stationOf : MethodName := ⟨RX11, "stationOf", "(II)I"⟩
abbrev cX11_again : ByteArray := prog_1_method_6_code
def yX11_again : MethodName := ⟨RX11, "again", "()I"⟩
abbrev cX11_point : ByteArray := prog_1_method_7_code
def yX11_point : MethodName := ⟨RX11, "point", "(II)I"⟩
abbrev cX11_mass : ByteArray := prog_1_method_8_code
def yX11_mass : MethodName := ⟨RX11, "mass", "(II)I"⟩
abbrev cX11_masses : ByteArray := prog_1_method_9_code
def yX11_masses : MethodName := ⟨RX11, "masses", "(I)I"⟩
abbrev cX11_sight : ByteArray := prog_1_method_10_code
def yX11_sight : MethodName := ⟨RX11, "sight", "(IIIII)I"⟩
abbrev cX11_sightOf : ByteArray := prog_1_method_11_code
def yX11_sightOf : MethodName := ⟨RX11, "sightOf", "(II)I"⟩
abbrev cX11_falls : ByteArray := prog_1_method_12_code
def yX11_falls : MethodName := ⟨RX11, "falls", "(IZ)I"⟩
abbrev cX11_foot : ByteArray := prog_1_method_13_code
def yX11_foot : MethodName := ⟨RX11, "foot", "(II)I"⟩
abbrev cX11_span : ByteArray := prog_1_method_14_code
def yX11_span : MethodName := ⟨RX11, "span", "(II)I"⟩
abbrev cX11_counted : ByteArray := prog_1_method_15_code
def yX11_counted : MethodName := ⟨RX11, "counted", "(I)I"⟩
abbrev cX11_hangs : ByteArray := prog_1_method_16_code
def yX11_hangs : MethodName := ⟨RX11, "hangs", "(I)I"⟩
abbrev cX11_mayBe : ByteArray := prog_1_method_17_code
def yX11_mayBe : MethodName := ⟨RX11, "mayBe", "(III)I"⟩
abbrev cX11_next : ByteArray := prog_1_method_18_code
def yX11_next : MethodName := ⟨RX11, "next", "(II)I"⟩
abbrev cX11_behind : ByteArray := prog_1_method_19_code
def yX11_behind : MethodName := ⟨RX11, "behind", "(II)I"⟩
abbrev cX11_highest : ByteArray := prog_1_method_20_code
def yX11_highest : MethodName := ⟨RX11, "highest", "(II)J"⟩
abbrev cX11_said : ByteArray := prog_1_method_21_code
def yX11_said : MethodName := ⟨RX11, "said", "(I)I"⟩
abbrev cX11_believed : ByteArray := prog_1_method_22_code
def yX11_believed : MethodName := ⟨RX11, "believed", "(II)I"⟩
abbrev cX11_feed : ByteArray := prog_1_method_23_code
def yX11_feed : MethodName := ⟨RX11, "feed", "(JI)I"⟩
abbrev cX11_read : ByteArray := prog_1_method_24_code
def yX11_read : MethodName := ⟨RX11, "read", "()I"⟩
abbrev cX11_prove : ByteArray := prog_1_method_25_code
def yX11_prove : MethodName := ⟨RX11, "prove", "()I"⟩
abbrev cX11_row : ByteArray := prog_1_method_26_code
def yX11_row : MethodName := ⟨RX11, "row", "(II)I"⟩
abbrev cX11_alterRow : ByteArray := prog_1_method_27_code
def yX11_alterRow : MethodName := ⟨RX11, "alterRow", "(III)I"⟩
abbrev cX11_judge : ByteArray := prog_1_method_28_code
def yX11_judge : MethodName := ⟨RX11, "judge", "()I"⟩
abbrev cX11_sheet : ByteArray := prog_1_method_29_code
def yX11_sheet : MethodName := ⟨RX11, "sheet", "(III)I"⟩
abbrev cX11_put : ByteArray := prog_1_method_30_code
def yX11_put : MethodName := ⟨RX11, "put", "(III)I"⟩
abbrev cX11_item : ByteArray := prog_1_method_31_code
def yX11_item : MethodName := ⟨RX11, "item", "(III)I"⟩
abbrev cX11_book : ByteArray := prog_1_method_32_code
def yX11_book : MethodName := ⟨RX11, "book", "(IIII)I"⟩
abbrev cX11_shelf : ByteArray := prog_1_method_33_code
def yX11_shelf : MethodName := ⟨RX11, "shelf", "(III)I"⟩
abbrev cX11_taken : ByteArray := prog_1_method_34_code
def yX11_taken : MethodName := ⟨RX11, "taken", "(II)I"⟩
abbrev cX11_act : ByteArray := prog_1_method_35_code
def yX11_act : MethodName := ⟨RX11, "act", "(III)I"⟩
abbrev cX11_trace : ByteArray := prog_1_method_36_code
def yX11_trace : MethodName := ⟨RX11, "trace", "(I)I"⟩
abbrev cX11_many : ByteArray := prog_1_method_37_code
def yX11_many : MethodName := ⟨RX11, "many", "(I)I"⟩
abbrev cX11_keep : ByteArray := prog_1_method_38_code
def yX11_keep : MethodName := ⟨RX11, "keep", "()I"⟩
abbrev cX11_back : ByteArray := prog_1_method_39_code
def yX11_back : MethodName := ⟨RX11, "back", "()I"⟩
abbrev cX11_within : ByteArray := prog_1_method_40_code
def yX11_within : MethodName := ⟨RX11, "within", "(III)Z"⟩
abbrev cX11_isRise : ByteArray := prog_1_method_41_code
def yX11_isRise : MethodName := ⟨RX11, "isRise", "(I)Z"⟩
abbrev cX11_isSlip : ByteArray := prog_1_method_42_code
def yX11_isSlip : MethodName := ⟨RX11, "isSlip", "(I)Z"⟩
abbrev cX11_isMass : ByteArray := prog_1_method_43_code
def yX11_isMass : MethodName := ⟨RX11, "isMass", "(I)Z"⟩
abbrev cX11_isKind : ByteArray := prog_1_method_44_code
def yX11_isKind : MethodName := ⟨RX11, "isKind", "(I)Z"⟩
abbrev cX11_isSlant : ByteArray := prog_1_method_45_code
def yX11_isSlant : MethodName := ⟨RX11, "isSlant", "(I)Z"⟩
abbrev cX11_isWhen : ByteArray := prog_1_method_46_code
def yX11_isWhen : MethodName := ⟨RX11, "isWhen", "(I)Z"⟩
abbrev cX11_isSheet : ByteArray := prog_1_method_47_code
def yX11_isSheet : MethodName := ⟨RX11, "isSheet", "(I)Z"⟩
abbrev cX11_isShelf : ByteArray := prog_1_method_48_code
def yX11_isShelf : MethodName := ⟨RX11, "isShelf", "(I)Z"⟩
abbrev cX11_isStation : ByteArray := prog_1_method_49_code
def yX11_isStation : MethodName := ⟨RX11, "isStation", "(I)Z"⟩
abbrev cX11_isPoint : ByteArray := prog_1_method_50_code
def yX11_isPoint : MethodName := ⟨RX11, "isPoint", "(I)Z"⟩
abbrev cX11_isSight : ByteArray := prog_1_method_51_code
def yX11_isSight : MethodName := ⟨RX11, "isSight", "(I)Z"⟩
abbrev cX11_isRowPart : ByteArray := prog_1_method_52_code
def yX11_isRowPart : MethodName := ⟨RX11, "isRowPart", "(II)Z"⟩
abbrev cX11_slackOf : ByteArray := prog_1_method_53_code
def yX11_slackOf : MethodName := ⟨RX11, "slackOf", "(II)I"⟩
abbrev cX11_bendOf : ByteArray := prog_1_method_54_code
def yX11_bendOf : MethodName := ⟨RX11, "bendOf", "(III)I"⟩
abbrev cX11_sharedDivisor : ByteArray := prog_1_method_55_code
def yX11_sharedDivisor : MethodName := ⟨RX11, "sharedDivisor", "(JJ)J"⟩
abbrev cX11_isRightRow : ByteArray := prog_1_method_56_code
def yX11_isRightRow : MethodName := ⟨RX11, "isRightRow", "(I)Z"⟩
abbrev cX11_narrowed : ByteArray := prog_1_method_57_code
def yX11_narrowed : MethodName := ⟨RX11, "narrowed", "(II)J"⟩
abbrev cX11_refusalOfRow : ByteArray := prog_1_method_58_code
def yX11_refusalOfRow : MethodName := ⟨RX11, "refusalOfRow", "(II)I"⟩
abbrev cX11_holdRow : ByteArray := prog_1_method_59_code
def yX11_holdRow : MethodName := ⟨RX11, "holdRow", "(II)V"⟩
abbrev cX11_kindOn : ByteArray := prog_1_method_60_code
def yX11_kindOn : MethodName := ⟨RX11, "kindOn", "(I)I"⟩
abbrev cX11_isUnder : ByteArray := prog_1_method_61_code
def yX11_isUnder : MethodName := ⟨RX11, "isUnder", "(II)Z"⟩
abbrev cX11_thingOn : ByteArray := prog_1_method_62_code
def yX11_thingOn : MethodName := ⟨RX11, "thingOn", "(I)LFarHeights$Thing;"⟩
def RX12 : String := "FarHeightsModel"
def TX12 : u_T := fun k => match k with
  | 0 => ("FarHeightsModel", "stations", "I", false)
  | 1 => ("FarHeightsModel", "places", "[I", true)
  | 2 => ("FarHeightsModel", "legs", "I", false)
  | 3 => ("FarHeightsModel", "leg", "[I", true)
  | 4 => ("FarHeightsModel", "points", "I", false)
  | 5 => ("FarHeightsModel", "point", "[I", true)
  | 6 => ("FarHeightsModel", "massLaw", "I", false)
  | 7 => ("FarHeightsModel", "sights", "I", false)
  | 8 => ("FarHeightsModel", "sight", "[I", true)
  | 9 => ("FarHeightsModel", "lines", "I", false)
  | 10 => ("FarHeightsModel", "lineEnd", "[I", true)
  | 11 => ("FarHeightsModel", "lineBends", "[I", true)
  | 12 => ("FarHeightsModel", "way", "[I", true)
  | 13 => ("FarHeightsModel", "doubts", "[I", true)
  | 14 => ("FarHeightsModel", "lasts", "[I", true)
  | 15 => ("FarHeightsModel", "levels", "[I", true)
  | 16 => ("FarHeightsModel", "spanLow", "I", false)
  | 17 => ("FarHeightsModel", "spanHigh", "I", false)
  | 18 => ("FarHeightsModel", "lows", "[I", true)
  | 19 => ("FarHeightsModel", "highs", "[I", true)
  | 20 => ("FarHeightsModel", "spans", "[Z", true)
  | 21 => ("FarHeightsModel", "tape", "[I", true)
  | 22 => ("FarHeightsModel", "tapeMany", "I", false)
  | 23 => ("FarHeightsModel", "tokenKind", "I", false)
  | 24 => ("FarHeightsModel", "tokenAt", "I", false)
  | 25 => ("FarHeightsModel", "tokenEnd", "I", false)
  | 26 => ("FarHeightsModel", "tokenValue", "J", false)
  | 27 => ("FarHeightsModel", "fault", "I", false)
  | 28 => ("FarHeightsModel", "fresh", "[I", true)
  | 29 => ("FarHeightsModel", "waiting", "[I", true)
  | 30 => ("FarHeightsModel", "freshEnd", "[I", true)
  | 31 => ("FarHeightsModel", "freshBends", "[I", true)
  | 32 => ("FarHeightsModel", "freshMany", "I", false)
  | 33 => ("FarHeightsModel", "waits", "I", false)
  | 34 => ("FarHeightsModel", "facts", "[I", true)
  | 35 => ("FarHeightsModel", "stack", "[I", true)
  | 36 => ("FarHeightsModel", "rows", "[I", true)
  | 37 => ("FarHeightsModel", "rowMany", "I", false)
  | 38 => ("FarHeightsModel", "sorts", "[I", true)
  | 39 => ("FarHeightsModel", "sizes", "[I", true)
  | 40 => ("FarHeightsModel", "sheets", "[J", true)
  | 41 => ("FarHeightsModel", "held", "[I", true)
  | 42 => ("FarHeightsModel", "heldNumber", "[I", true)
  | 43 => ("FarHeightsModel", "heldSize", "[I", true)
  | 44 => ("FarHeightsModel", "kind", "I", false)
  | 45 => ("FarHeightsModel", "number", "I", false)
  | 46 => ("FarHeightsModel", "its", "I", false)
  | 47 => ("FarHeightsModel", "traced", "[I", true)
  | 48 => ("FarHeightsModel", "bodies", "I", false)
  | 49 => ("FarHeightsModel", "isParted", "Z", false)
  | 50 => ("FarHeightsModel", "isKept", "Z", false)
  | 51 => ("FarHeightsModel", "kept", "[I", true)
  | 52 => ("FarHeightsModel", "movedTo", "I", false)
  | _ => ("FarHeightsModel", "many", "[I", true)
def tyX12 : Nat → FieldType := fun k => match k with
  | 0 => .int
  | 1 => .array .int
  | 2 => .int
  | 3 => .array .int
  | 4 => .int
  | 5 => .array .int
  | 6 => .int
  | 7 => .int
  | 8 => .array .int
  | 9 => .int
  | 10 => .array .int
  | 11 => .array .int
  | 12 => .array .int
  | 13 => .array .int
  | 14 => .array .int
  | 15 => .array .int
  | 16 => .int
  | 17 => .int
  | 18 => .array .int
  | 19 => .array .int
  | 20 => .array .boolean
  | 21 => .array .int
  | 22 => .int
  | 23 => .int
  | 24 => .int
  | 25 => .int
  | 26 => .long
  | 27 => .int
  | 28 => .array .int
  | 29 => .array .int
  | 30 => .array .int
  | 31 => .array .int
  | 32 => .int
  | 33 => .int
  | 34 => .array .int
  | 35 => .array .int
  | 36 => .array .int
  | 37 => .int
  | 38 => .array .int
  | 39 => .array .int
  | 40 => .array .long
  | 41 => .array .int
  | 42 => .array .int
  | 43 => .array .int
  | 44 => .int
  | 45 => .int
  | 46 => .int
  | 47 => .array .int
  | 48 => .int
  | 49 => .boolean
  | 50 => .boolean
  | 51 => .array .int
  | 52 => .int
  | _ => .array .int
abbrev wsX120 : List Cond := u_ws RX12 TX12 54
theorem nmX12 : ∀ a, a < 54 → ∀ b, b < 54 → a ≠ b → (TX12 a).2.1 ≠ (TX12 b).2.1 := by decide +kernel
theorem tyX12_ok : ∀ k, k < 54 → parseFieldDescriptor (TX12 k).2.2.1 = some (tyX12 k) := by decide +kernel
abbrev cX12_init : ByteArray := prog_14_method_1_code
def yX12_init : MethodName := ⟨RX12, "<init>", "()V"⟩
abbrev cX12_in : ByteArray := prog_14_method_2_code
def yX12_in : MethodName := ⟨RX12, "in", "(III)Z"⟩
abbrev cX12_isStation : ByteArray := prog_14_method_3_code
def yX12_isStation : MethodName := ⟨RX12, "isStation", "(I)Z"⟩
abbrev cX12_isPoint : ByteArray := prog_14_method_4_code
def yX12_isPoint : MethodName := ⟨RX12, "isPoint", "(I)Z"⟩
abbrev cX12_isSight : ByteArray := prog_14_method_5_code
def yX12_isSight : MethodName := ⟨RX12, "isSight", "(I)Z"⟩
abbrev cX12_station : ByteArray := prog_14_method_6_code
def yX12_station : MethodName := ⟨RX12, "station", "(I)I"⟩
abbrev cX12_leg : ByteArray := prog_14_method_7_code
def yX12_leg : MethodName := ⟨RX12, "leg", "(IIII)I"⟩
abbrev cX12_mend : ByteArray := prog_14_method_8_code
def yX12_mend : MethodName := ⟨RX12, "mend", "(III)I"⟩
abbrev cX12_nearer : ByteArray := prog_14_method_9_code
def yX12_nearer : MethodName := ⟨RX12, "nearer", "(III)V"⟩
abbrev cX12_findDoubts : ByteArray := prog_14_method_10_code
def yX12_findDoubts : MethodName := ⟨RX12, "findDoubts", "()V"⟩
abbrev cX12_hasLevel : ByteArray := prog_14_method_11_code
def yX12_hasLevel : MethodName := ⟨RX12, "hasLevel", "(I)Z"⟩
abbrev cX12_comes : ByteArray := prog_14_method_12_code
def yX12_comes : MethodName := ⟨RX12, "comes", "(III)Z"⟩
abbrev cX12_findLevels : ByteArray := prog_14_method_13_code
def yX12_findLevels : MethodName := ⟨RX12, "findLevels", "()V"⟩
abbrev cX12_leanAt : ByteArray := prog_14_method_14_code
def yX12_leanAt : MethodName := ⟨RX12, "leanAt", "(I)I"⟩
abbrev cX12_stationOf : ByteArray := prog_14_method_15_code
def yX12_stationOf : MethodName := ⟨RX12, "stationOf", "(II)I"⟩
abbrev cX12_allDoubts : ByteArray := prog_14_method_16_code
def yX12_allDoubts : MethodName := ⟨RX12, "allDoubts", "()I"⟩
abbrev cX12_again : ByteArray := prog_14_method_17_code
def yX12_again : MethodName := ⟨RX12, "again", "()I"⟩
abbrev cX12_point : ByteArray := prog_14_method_18_code
def yX12_point : MethodName := ⟨RX12, "point", "(II)I"⟩
abbrev cX12_mass : ByteArray := prog_14_method_19_code
def yX12_mass : MethodName := ⟨RX12, "mass", "(II)I"⟩
abbrev cX12_masses : ByteArray := prog_14_method_20_code
def yX12_masses : MethodName := ⟨RX12, "masses", "(I)I"⟩
abbrev cX12_awayOf : ByteArray := prog_14_method_21_code
def yX12_awayOf : MethodName := ⟨RX12, "awayOf", "(II)I"⟩
abbrev cX12_addSight : ByteArray := prog_14_method_22_code
def yX12_addSight : MethodName := ⟨RX12, "addSight", "(IIIIII)I"⟩
abbrev cX12_isSlant : ByteArray := prog_14_method_23_code
def yX12_isSlant : MethodName := ⟨RX12, "isSlant", "(I)Z"⟩
abbrev cX12_isWhen : ByteArray := prog_14_method_24_code
def yX12_isWhen : MethodName := ⟨RX12, "isWhen", "(I)Z"⟩
abbrev cX12_sight : ByteArray := prog_14_method_25_code
def yX12_sight : MethodName := ⟨RX12, "sight", "(IIIII)I"⟩
abbrev cX12_bendBy : ByteArray := prog_14_method_26_code
def yX12_bendBy : MethodName := ⟨RX12, "bendBy", "(III)I"⟩
abbrev cX12_slackBy : ByteArray := prog_14_method_27_code
def yX12_slackBy : MethodName := ⟨RX12, "slackBy", "(II)I"⟩
abbrev cX12_toldOf : ByteArray := prog_14_method_28_code
def yX12_toldOf : MethodName := ⟨RX12, "toldOf", "(I)I"⟩
abbrev cX12_sightOf : ByteArray := prog_14_method_29_code
def yX12_sightOf : MethodName := ⟨RX12, "sightOf", "(II)I"⟩
abbrev cX12_falls : ByteArray := prog_14_method_30_code
def yX12_falls : MethodName := ⟨RX12, "falls", "(IZ)I"⟩
abbrev cX12_footOf : ByteArray := prog_14_method_31_code
def yX12_footOf : MethodName := ⟨RX12, "footOf", "(IIIII)I"⟩
abbrev cX12_sightFoot : ByteArray := prog_14_method_32_code
def yX12_sightFoot : MethodName := ⟨RX12, "sightFoot", "(I)I"⟩
abbrev cX12_widthOf : ByteArray := prog_14_method_33_code
def yX12_widthOf : MethodName := ⟨RX12, "widthOf", "(I)I"⟩
abbrev cX12_foot : ByteArray := prog_14_method_34_code
def yX12_foot : MethodName := ⟨RX12, "foot", "(II)I"⟩
abbrev cX12_counts : ByteArray := prog_14_method_35_code
def yX12_counts : MethodName := ⟨RX12, "counts", "(I)Z"⟩
abbrev cX12_findSpan : ByteArray := prog_14_method_36_code
def yX12_findSpan : MethodName := ⟨RX12, "findSpan", "(II)I"⟩
abbrev cX12_noSpan : ByteArray := prog_14_method_37_code
def yX12_noSpan : MethodName := ⟨RX12, "noSpan", "(I)I"⟩
abbrev cX12_span : ByteArray := prog_14_method_38_code
def yX12_span : MethodName := ⟨RX12, "span", "(II)I"⟩
abbrev cX12_counted : ByteArray := prog_14_method_39_code
def yX12_counted : MethodName := ⟨RX12, "counted", "(I)I"⟩
abbrev cX12_hangs : ByteArray := prog_14_method_40_code
def yX12_hangs : MethodName := ⟨RX12, "hangs", "(I)I"⟩
abbrev cX12_mayBe : ByteArray := prog_14_method_41_code
def yX12_mayBe : MethodName := ⟨RX12, "mayBe", "(III)I"⟩
abbrev cX12_next : ByteArray := prog_14_method_42_code
def yX12_next : MethodName := ⟨RX12, "next", "(II)I"⟩
abbrev cX12_behind : ByteArray := prog_14_method_43_code
def yX12_behind : MethodName := ⟨RX12, "behind", "(II)I"⟩
abbrev cX12_within : ByteArray := prog_14_method_44_code
def yX12_within : MethodName := ⟨RX12, "within", "(JJ)J"⟩
abbrev cX12_highest : ByteArray := prog_14_method_45_code
def yX12_highest : MethodName := ⟨RX12, "highest", "(II)J"⟩
abbrev cX12_said : ByteArray := prog_14_method_46_code
def yX12_said : MethodName := ⟨RX12, "said", "(I)I"⟩
abbrev cX12_believed : ByteArray := prog_14_method_47_code
def yX12_believed : MethodName := ⟨RX12, "believed", "(II)I"⟩
abbrev cX12_feed : ByteArray := prog_14_method_48_code
def yX12_feed : MethodName := ⟨RX12, "feed", "(JI)I"⟩
abbrev cX12_isLetter : ByteArray := prog_14_method_49_code
def yX12_isLetter : MethodName := ⟨RX12, "isLetter", "(I)Z"⟩
abbrev cX12_isDigit : ByteArray := prog_14_method_50_code
def yX12_isDigit : MethodName := ⟨RX12, "isDigit", "(I)Z"⟩
abbrev cX12_advance : ByteArray := prog_14_method_51_code
def yX12_advance : MethodName := ⟨RX12, "advance", "()V"⟩
abbrev cX12_isGood : ByteArray := prog_14_method_52_code
def yX12_isGood : MethodName := ⟨RX12, "isGood", "()Z"⟩
abbrev cX12_faulty : ByteArray := prog_14_method_53_code
def yX12_faulty : MethodName := ⟨RX12, "faulty", "()V"⟩
abbrev cX12_isWord : ByteArray := prog_14_method_54_code
def yX12_isWord : MethodName := ⟨RX12, "isWord", "(J)Z"⟩
abbrev cX12_isMark : ByteArray := prog_14_method_55_code
def yX12_isMark : MethodName := ⟨RX12, "isMark", "(I)Z"⟩
abbrev cX12_want : ByteArray := prog_14_method_56_code
def yX12_want : MethodName := ⟨RX12, "want", "(Z)V"⟩
abbrev cX12_wantNumber : ByteArray := prog_14_method_57_code
def yX12_wantNumber : MethodName := ⟨RX12, "wantNumber", "(I)I"⟩
abbrev cX12_emit : ByteArray := prog_14_method_58_code
def yX12_emit : MethodName := ⟨RX12, "emit", "(I)V"⟩
abbrev cX12_settle : ByteArray := prog_14_method_59_code
def yX12_settle : MethodName := ⟨RX12, "settle", "(I)V"⟩
abbrev cX12_hold : ByteArray := prog_14_method_60_code
def yX12_hold : MethodName := ⟨RX12, "hold", "(I)V"⟩
abbrev cX12_wordHere : ByteArray := prog_14_method_61_code
def yX12_wordHere : MethodName := ⟨RX12, "wordHere", "()I"⟩
abbrev cX12_wantValue : ByteArray := prog_14_method_62_code
def yX12_wantValue : MethodName := ⟨RX12, "wantValue", "()V"⟩
abbrev cX12_wantAsk : ByteArray := prog_14_method_63_code
def yX12_wantAsk : MethodName := ⟨RX12, "wantAsk", "()V"⟩
abbrev cX12_wantCond : ByteArray := prog_14_method_64_code
def yX12_wantCond : MethodName := ⟨RX12, "wantCond", "()V"⟩
abbrev cX12_read : ByteArray := prog_14_method_65_code
def yX12_read : MethodName := ⟨RX12, "read", "()I"⟩
abbrev cX12_joined : ByteArray := prog_14_method_66_code
def yX12_joined : MethodName := ⟨RX12, "joined", "(III)I"⟩
abbrev cX12_holds : ByteArray := prog_14_method_67_code
def yX12_holds : MethodName := ⟨RX12, "holds", "(I)Z"⟩
abbrev cX12_toldBy : ByteArray := prog_14_method_68_code
def yX12_toldBy : MethodName := ⟨RX12, "toldBy", "(IIII)I"⟩
abbrev cX12_prove : ByteArray := prog_14_method_69_code
def yX12_prove : MethodName := ⟨RX12, "prove", "()I"⟩
abbrev cX12_isRow : ByteArray := prog_14_method_70_code
def yX12_isRow : MethodName := ⟨RX12, "isRow", "(II)Z"⟩
abbrev cX12_row : ByteArray := prog_14_method_71_code
def yX12_row : MethodName := ⟨RX12, "row", "(II)I"⟩
abbrev cX12_alterRow : ByteArray := prog_14_method_72_code
def yX12_alterRow : MethodName := ⟨RX12, "alterRow", "(III)I"⟩
abbrev cX12_judge : ByteArray := prog_14_method_73_code
def yX12_judge : MethodName := ⟨RX12, "judge", "()I"⟩
abbrev cX12_isShelf : ByteArray := prog_14_method_74_code
def yX12_isShelf : MethodName := ⟨RX12, "isShelf", "(I)Z"⟩
abbrev cX12_sheet : ByteArray := prog_14_method_75_code
def yX12_sheet : MethodName := ⟨RX12, "sheet", "(III)I"⟩
abbrev cX12_put : ByteArray := prog_14_method_76_code
def yX12_put : MethodName := ⟨RX12, "put", "(III)I"⟩
abbrev cX12_lacksSort : ByteArray := prog_14_method_77_code
def yX12_lacksSort : MethodName := ⟨RX12, "lacksSort", "(II)I"⟩
abbrev cX12_item : ByteArray := prog_14_method_78_code
def yX12_item : MethodName := ⟨RX12, "item", "(III)I"⟩
abbrev cX12_book : ByteArray := prog_14_method_79_code
def yX12_book : MethodName := ⟨RX12, "book", "(IIII)I"⟩
abbrev cX12_isThing : ByteArray := prog_14_method_80_code
def yX12_isThing : MethodName := ⟨RX12, "isThing", "(II)Z"⟩
abbrev cX12_shelf : ByteArray := prog_14_method_81_code
def yX12_shelf : MethodName := ⟨RX12, "shelf", "(III)I"⟩
abbrev cX12_kindOn : ByteArray := prog_14_method_82_code
def yX12_kindOn : MethodName := ⟨RX12, "kindOn", "(I)I"⟩
abbrev cX12_isUnder : ByteArray := prog_14_method_83_code
def yX12_isUnder : MethodName := ⟨RX12, "isUnder", "(II)Z"⟩
abbrev cX12_taken : ByteArray := prog_14_method_84_code
def yX12_taken : MethodName := ⟨RX12, "taken", "(II)I"⟩
abbrev cX12_ran : ByteArray := prog_14_method_85_code
def yX12_ran : MethodName := ⟨RX12, "ran", "(I)V"⟩
abbrev cX12_seesIt : ByteArray := prog_14_method_86_code
def yX12_seesIt : MethodName := ⟨RX12, "seesIt", "(I)I"⟩
abbrev cX12_sightBends : ByteArray := prog_14_method_87_code
def yX12_sightBends : MethodName := ⟨RX12, "sightBends", "(I)I"⟩
abbrev cX12_bendsIt : ByteArray := prog_14_method_88_code
def yX12_bendsIt : MethodName := ⟨RX12, "bendsIt", "(I)I"⟩
abbrev cX12_sightLeans : ByteArray := prog_14_method_89_code
def yX12_sightLeans : MethodName := ⟨RX12, "sightLeans", "(I)I"⟩
abbrev cX12_leansIt : ByteArray := prog_14_method_90_code
def yX12_leansIt : MethodName := ⟨RX12, "leansIt", "(I)I"⟩
abbrev cX12_sightTells : ByteArray := prog_14_method_91_code
def yX12_sightTells : MethodName := ⟨RX12, "sightTells", "(I)I"⟩
abbrev cX12_tellsIt : ByteArray := prog_14_method_92_code
def yX12_tellsIt : MethodName := ⟨RX12, "tellsIt", "(I)I"⟩
abbrev cX12_act : ByteArray := prog_14_method_93_code
def yX12_act : MethodName := ⟨RX12, "act", "(III)I"⟩
abbrev cX12_trace : ByteArray := prog_14_method_94_code
def yX12_trace : MethodName := ⟨RX12, "trace", "(I)I"⟩
abbrev cX12_countedAll : ByteArray := prog_14_method_95_code
def yX12_countedAll : MethodName := ⟨RX12, "countedAll", "()I"⟩
abbrev cX12_many : ByteArray := prog_14_method_96_code
def yX12_many : MethodName := ⟨RX12, "many", "(I)I"⟩
abbrev cX12_move : ByteArray := prog_14_method_97_code
def yX12_move : MethodName := ⟨RX12, "move", "([IIZ)V"⟩
abbrev cX12_moveAll : ByteArray := prog_14_method_98_code
def yX12_moveAll : MethodName := ⟨RX12, "moveAll", "(Z)V"⟩
abbrev cX12_keep : ByteArray := prog_14_method_99_code
def yX12_keep : MethodName := ⟨RX12, "keep", "()I"⟩
abbrev cX12_back : ByteArray := prog_14_method_100_code
def yX12_back : MethodName := ⟨RX12, "back", "()I"⟩
def RJ9 : String := "java/lang/Math"
def TJ9 : u_T := fun k => match k with
  | _ => ("", "", "", false)
def tyJ9 : Nat → FieldType := fun k => match k with
  | _ => .int
abbrev wsJ90 : List Cond := u_ws RJ9 TJ9 0
theorem nmJ9 : ∀ a, a < 0 → ∀ b, b < 0 → a ≠ b → (TJ9 a).2.1 ≠ (TJ9 b).2.1 := by decide +kernel
theorem tyJ9_ok : ∀ k, k < 0 → parseFieldDescriptor (TJ9 k).2.2.1 = some (tyJ9 k) := by decide +kernel
abbrev cJ9_abs_0f7a4 : ByteArray := prog_15_method_59_code
def yJ9_abs_0f7a4 : MethodName := ⟨RJ9, "abs", "(I)I"⟩
abbrev cJ9_max_7cf53 : ByteArray := prog_15_method_65_code
def yJ9_max_7cf53 : MethodName := ⟨RJ9, "max", "(II)I"⟩
abbrev cJ9_min_7cf53 : ByteArray := prog_15_method_69_code
def yJ9_min_7cf53 : MethodName := ⟨RJ9, "min", "(II)I"⟩
def RJ10 : String := "java/lang/System"
def TJ10 : u_T := fun k => match k with
  | _ => ("", "", "", false)
def tyJ10 : Nat → FieldType := fun k => match k with
  | _ => .int
abbrev wsJ100 : List Cond := u_ws RJ10 TJ10 0
theorem nmJ10 : ∀ a, a < 0 → ∀ b, b < 0 → a ≠ b → (TJ10 a).2.1 ≠ (TJ10 b).2.1 := by decide +kernel
theorem tyJ10_ok : ∀ k, k < 0 → parseFieldDescriptor (TJ10 k).2.2.1 = some (tyJ10 k) := by decide +kernel
def RL : String := "FarHeightsLaw"
abbrev cL_law : ByteArray := code
def yL_law : MethodName := ⟨RL, "law", "([I)Z"⟩
abbrev vwCl : List vw_C := [(RX0, TX0, 5), (RX1, TX1, 5), (RX2, TX2, 5), (RX3, TX3, 14), (RX4, TX4, 5), (RX5, TX5, 11), (RX6, TX6, 5), (RX7, TX7, 5), (RX10, TX10, 16), (RX11, TX11, 18), (RX12, TX12, 54)]

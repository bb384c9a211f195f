theorem hq_s (i : Nat) (q : MethodName × Nat) (h : lw_privs[i]? = some q) : hW (.selects q.1.cls q.1 q.1) := ⟨by unfold lw_tbl; exact List.mem_append_left _ (List.mem_map.mpr ⟨q, List.mem_of_getElem? h, rfl⟩), rfl⟩
theorem hs_0 : hW (.selects "FarHeights$Net" ⟨"FarHeights$Net", "spread", "([II)V"⟩ ⟨"FarHeights$Net", "spread", "([II)V"⟩) := hq_s 0 (⟨"FarHeights$Net", "spread", "([II)V"⟩, _) rfl
theorem hs_1 : hW (.selects "FarHeights$Net" ⟨"FarHeights$Net", "findLastLeg", "(I)I"⟩ ⟨"FarHeights$Net", "findLastLeg", "(I)I"⟩) := hq_s 1 (⟨"FarHeights$Net", "findLastLeg", "(I)I"⟩, _) rfl
theorem hs_2 : hW (.selects "FarHeights$Net" ⟨"FarHeights$Net", "otherEnd", "(II)I"⟩ ⟨"FarHeights$Net", "otherEnd", "(II)I"⟩) := hq_s 2 (⟨"FarHeights$Net", "otherEnd", "(II)I"⟩, _) rfl
theorem hs_3 : hW (.selects "FarHeights$Net" ⟨"FarHeights$Net", "carriedLevel", "(I)I"⟩ ⟨"FarHeights$Net", "carriedLevel", "(I)I"⟩) := hq_s 3 (⟨"FarHeights$Net", "carriedLevel", "(I)I"⟩, _) rfl
theorem hs_4 : hW (.selects "FarHeights" ⟨"FarHeights", "isStation", "(I)Z"⟩ ⟨"FarHeights", "isStation", "(I)Z"⟩) := hq_s 4 (⟨"FarHeights", "isStation", "(I)Z"⟩, _) rfl
theorem hs_5 : hW (.selects "FarHeights" ⟨"FarHeights", "isPoint", "(I)Z"⟩ ⟨"FarHeights", "isPoint", "(I)Z"⟩) := hq_s 5 (⟨"FarHeights", "isPoint", "(I)Z"⟩, _) rfl
theorem hs_6 : hW (.selects "FarHeights" ⟨"FarHeights", "isSight", "(I)Z"⟩ ⟨"FarHeights", "isSight", "(I)Z"⟩) := hq_s 6 (⟨"FarHeights", "isSight", "(I)Z"⟩, _) rfl
theorem hs_7 : hW (.selects "FarHeights$Law" ⟨"FarHeights$Law", "holds", "(IIII)Z"⟩ ⟨"FarHeights$Law", "holds", "(IIII)Z"⟩) := hq_s 7 (⟨"FarHeights$Law", "holds", "(IIII)Z"⟩, _) rfl
theorem hs_8 : hW (.selects "FarHeights$View" ⟨"FarHeights$View", "feetUpTo", "(II)I"⟩ ⟨"FarHeights$View", "feetUpTo", "(II)I"⟩) := hq_s 8 (⟨"FarHeights$View", "feetUpTo", "(II)I"⟩, _) rfl
theorem hs_9 : hW (.selects "FarHeights$Law" ⟨"FarHeights$Law", "step", "()V"⟩ ⟨"FarHeights$Law", "step", "()V"⟩) := hq_s 9 (⟨"FarHeights$Law", "step", "()V"⟩, _) rfl
theorem hs_10 : hW (.selects "FarHeights$Law" ⟨"FarHeights$Law", "readLine", "()V"⟩ ⟨"FarHeights$Law", "readLine", "()V"⟩) := hq_s 10 (⟨"FarHeights$Law", "readLine", "()V"⟩, _) rfl
theorem hs_11 : hW (.selects "FarHeights$Law" ⟨"FarHeights$Law", "fail", "()V"⟩ ⟨"FarHeights$Law", "fail", "()V"⟩) := hq_s 11 (⟨"FarHeights$Law", "fail", "()V"⟩, _) rfl
theorem hs_12 : hW (.selects "FarHeights$Law" ⟨"FarHeights$Law", "readCond", "(I)V"⟩ ⟨"FarHeights$Law", "readCond", "(I)V"⟩) := hq_s 12 (⟨"FarHeights$Law", "readCond", "(I)V"⟩, _) rfl
theorem hs_13 : hW (.selects "FarHeights$Law" ⟨"FarHeights$Law", "readAll", "(I)V"⟩ ⟨"FarHeights$Law", "readAll", "(I)V"⟩) := hq_s 13 (⟨"FarHeights$Law", "readAll", "(I)V"⟩, _) rfl
theorem hs_14 : hW (.selects "FarHeights$Law" ⟨"FarHeights$Law", "readOne", "(I)V"⟩ ⟨"FarHeights$Law", "readOne", "(I)V"⟩) := hq_s 14 (⟨"FarHeights$Law", "readOne", "(I)V"⟩, _) rfl
theorem hs_15 : hW (.selects "FarHeights$Law" ⟨"FarHeights$Law", "readOpened", "(I)V"⟩ ⟨"FarHeights$Law", "readOpened", "(I)V"⟩) := hq_s 15 (⟨"FarHeights$Law", "readOpened", "(I)V"⟩, _) rfl
theorem hs_16 : hW (.selects "FarHeights$Law" ⟨"FarHeights$Law", "readComparison", "()V"⟩ ⟨"FarHeights$Law", "readComparison", "()V"⟩) := hq_s 16 (⟨"FarHeights$Law", "readComparison", "()V"⟩, _) rfl
theorem hs_17 : hW (.selects "FarHeights$Law" ⟨"FarHeights$Law", "isValue", "()Z"⟩ ⟨"FarHeights$Law", "isValue", "()Z"⟩) := hq_s 17 (⟨"FarHeights$Law", "isValue", "()Z"⟩, _) rfl
theorem hs_18 : hW (.selects "FarHeights$Law" ⟨"FarHeights$Law", "note", "(III)V"⟩ ⟨"FarHeights$Law", "note", "(III)V"⟩) := hq_s 18 (⟨"FarHeights$Law", "note", "(III)V"⟩, _) rfl
theorem hs_19 : hW (.selects "FarHeights" ⟨"FarHeights", "isRowPart", "(II)Z"⟩ ⟨"FarHeights", "isRowPart", "(II)Z"⟩) := hq_s 19 (⟨"FarHeights", "isRowPart", "(II)Z"⟩, _) rfl
theorem hs_20 : hW (.selects "FarHeights" ⟨"FarHeights", "isRightRow", "(I)Z"⟩ ⟨"FarHeights", "isRightRow", "(I)Z"⟩) := hq_s 20 (⟨"FarHeights", "isRightRow", "(I)Z"⟩, _) rfl
theorem hs_21 : hW (.selects "FarHeights" ⟨"FarHeights", "refusalOfRow", "(II)I"⟩ ⟨"FarHeights", "refusalOfRow", "(II)I"⟩) := hq_s 21 (⟨"FarHeights", "refusalOfRow", "(II)I"⟩, _) rfl
theorem hs_22 : hW (.selects "FarHeights" ⟨"FarHeights", "holdRow", "(II)V"⟩ ⟨"FarHeights", "holdRow", "(II)V"⟩) := hq_s 22 (⟨"FarHeights", "holdRow", "(II)V"⟩, _) rfl
theorem hs_23 : hW (.selects "FarHeights" ⟨"FarHeights", "kindOn", "(I)I"⟩ ⟨"FarHeights", "kindOn", "(I)I"⟩) := hq_s 23 (⟨"FarHeights", "kindOn", "(I)I"⟩, _) rfl
theorem hs_24 : hW (.selects "FarHeights" ⟨"FarHeights", "thingOn", "(I)LFarHeights$Thing;"⟩ ⟨"FarHeights", "thingOn", "(I)LFarHeights$Thing;"⟩) := hq_s 24 (⟨"FarHeights", "thingOn", "(I)LFarHeights$Thing;"⟩, _) rfl
theorem hs_25 : hW (.selects "FarHeightsModel" ⟨"FarHeightsModel", "isStation", "(I)Z"⟩ ⟨"FarHeightsModel", "isStation", "(I)Z"⟩) := hq_s 25 (⟨"FarHeightsModel", "isStation", "(I)Z"⟩, _) rfl
theorem hs_26 : hW (.selects "FarHeightsModel" ⟨"FarHeightsModel", "leanAt", "(I)I"⟩ ⟨"FarHeightsModel", "leanAt", "(I)I"⟩) := hq_s 26 (⟨"FarHeightsModel", "leanAt", "(I)I"⟩, _) rfl
theorem hs_27 : hW (.selects "FarHeightsModel" ⟨"FarHeightsModel", "awayOf", "(II)I"⟩ ⟨"FarHeightsModel", "awayOf", "(II)I"⟩) := hq_s 27 (⟨"FarHeightsModel", "awayOf", "(II)I"⟩, _) rfl
theorem hs_28 : hW (.selects "FarHeightsModel" ⟨"FarHeightsModel", "findLevels", "()V"⟩ ⟨"FarHeightsModel", "findLevels", "()V"⟩) := hq_s 28 (⟨"FarHeightsModel", "findLevels", "()V"⟩, _) rfl
theorem hs_29 : hW (.selects "FarHeightsModel" ⟨"FarHeightsModel", "findDoubts", "()V"⟩ ⟨"FarHeightsModel", "findDoubts", "()V"⟩) := hq_s 29 (⟨"FarHeightsModel", "findDoubts", "()V"⟩, _) rfl
theorem hs_30 : hW (.selects "FarHeightsModel" ⟨"FarHeightsModel", "nearer", "(III)V"⟩ ⟨"FarHeightsModel", "nearer", "(III)V"⟩) := hq_s 30 (⟨"FarHeightsModel", "nearer", "(III)V"⟩, _) rfl
theorem hs_31 : hW (.selects "FarHeightsModel" ⟨"FarHeightsModel", "hasLevel", "(I)Z"⟩ ⟨"FarHeightsModel", "hasLevel", "(I)Z"⟩) := hq_s 31 (⟨"FarHeightsModel", "hasLevel", "(I)Z"⟩, _) rfl
theorem hs_32 : hW (.selects "FarHeightsModel" ⟨"FarHeightsModel", "comes", "(III)Z"⟩ ⟨"FarHeightsModel", "comes", "(III)Z"⟩) := hq_s 32 (⟨"FarHeightsModel", "comes", "(III)Z"⟩, _) rfl
theorem hs_33 : hW (.selects "FarHeightsModel" ⟨"FarHeightsModel", "allDoubts", "()I"⟩ ⟨"FarHeightsModel", "allDoubts", "()I"⟩) := hq_s 33 (⟨"FarHeightsModel", "allDoubts", "()I"⟩, _) rfl
theorem hs_34 : hW (.selects "FarHeightsModel" ⟨"FarHeightsModel", "isPoint", "(I)Z"⟩ ⟨"FarHeightsModel", "isPoint", "(I)Z"⟩) := hq_s 34 (⟨"FarHeightsModel", "isPoint", "(I)Z"⟩, _) rfl
theorem hs_35 : hW (.selects "FarHeightsModel" ⟨"FarHeightsModel", "addSight", "(IIIIII)I"⟩ ⟨"FarHeightsModel", "addSight", "(IIIIII)I"⟩) := hq_s 35 (⟨"FarHeightsModel", "addSight", "(IIIIII)I"⟩, _) rfl
theorem hs_36 : hW (.selects "FarHeightsModel" ⟨"FarHeightsModel", "isSight", "(I)Z"⟩ ⟨"FarHeightsModel", "isSight", "(I)Z"⟩) := hq_s 36 (⟨"FarHeightsModel", "isSight", "(I)Z"⟩, _) rfl
theorem hs_37 : hW (.selects "FarHeightsModel" ⟨"FarHeightsModel", "toldOf", "(I)I"⟩ ⟨"FarHeightsModel", "toldOf", "(I)I"⟩) := hq_s 37 (⟨"FarHeightsModel", "toldOf", "(I)I"⟩, _) rfl
theorem hs_38 : hW (.selects "FarHeightsModel" ⟨"FarHeightsModel", "toldBy", "(IIII)I"⟩ ⟨"FarHeightsModel", "toldBy", "(IIII)I"⟩) := hq_s 38 (⟨"FarHeightsModel", "toldBy", "(IIII)I"⟩, _) rfl
theorem hs_39 : hW (.selects "FarHeightsModel" ⟨"FarHeightsModel", "holds", "(I)Z"⟩ ⟨"FarHeightsModel", "holds", "(I)Z"⟩) := hq_s 39 (⟨"FarHeightsModel", "holds", "(I)Z"⟩, _) rfl
theorem hs_40 : hW (.selects "FarHeightsModel" ⟨"FarHeightsModel", "bendBy", "(III)I"⟩ ⟨"FarHeightsModel", "bendBy", "(III)I"⟩) := hq_s 40 (⟨"FarHeightsModel", "bendBy", "(III)I"⟩, _) rfl
theorem hs_41 : hW (.selects "FarHeightsModel" ⟨"FarHeightsModel", "sightFoot", "(I)I"⟩ ⟨"FarHeightsModel", "sightFoot", "(I)I"⟩) := hq_s 41 (⟨"FarHeightsModel", "sightFoot", "(I)I"⟩, _) rfl
theorem hs_42 : hW (.selects "FarHeightsModel" ⟨"FarHeightsModel", "footOf", "(IIIII)I"⟩ ⟨"FarHeightsModel", "footOf", "(IIIII)I"⟩) := hq_s 42 (⟨"FarHeightsModel", "footOf", "(IIIII)I"⟩, _) rfl
theorem hs_43 : hW (.selects "FarHeightsModel" ⟨"FarHeightsModel", "widthOf", "(I)I"⟩ ⟨"FarHeightsModel", "widthOf", "(I)I"⟩) := hq_s 43 (⟨"FarHeightsModel", "widthOf", "(I)I"⟩, _) rfl
theorem hs_44 : hW (.selects "FarHeightsModel" ⟨"FarHeightsModel", "noSpan", "(I)I"⟩ ⟨"FarHeightsModel", "noSpan", "(I)I"⟩) := hq_s 44 (⟨"FarHeightsModel", "noSpan", "(I)I"⟩, _) rfl
theorem hs_45 : hW (.selects "FarHeightsModel" ⟨"FarHeightsModel", "findSpan", "(II)I"⟩ ⟨"FarHeightsModel", "findSpan", "(II)I"⟩) := hq_s 45 (⟨"FarHeightsModel", "findSpan", "(II)I"⟩, _) rfl
theorem hs_46 : hW (.selects "FarHeightsModel" ⟨"FarHeightsModel", "counts", "(I)Z"⟩ ⟨"FarHeightsModel", "counts", "(I)Z"⟩) := hq_s 46 (⟨"FarHeightsModel", "counts", "(I)Z"⟩, _) rfl
theorem hs_47 : hW (.selects "FarHeightsModel" ⟨"FarHeightsModel", "advance", "()V"⟩ ⟨"FarHeightsModel", "advance", "()V"⟩) := hq_s 47 (⟨"FarHeightsModel", "advance", "()V"⟩, _) rfl
theorem hs_48 : hW (.selects "FarHeightsModel" ⟨"FarHeightsModel", "isGood", "()Z"⟩ ⟨"FarHeightsModel", "isGood", "()Z"⟩) := hq_s 48 (⟨"FarHeightsModel", "isGood", "()Z"⟩, _) rfl
theorem hs_49 : hW (.selects "FarHeightsModel" ⟨"FarHeightsModel", "isWord", "(J)Z"⟩ ⟨"FarHeightsModel", "isWord", "(J)Z"⟩) := hq_s 49 (⟨"FarHeightsModel", "isWord", "(J)Z"⟩, _) rfl
theorem hs_50 : hW (.selects "FarHeightsModel" ⟨"FarHeightsModel", "want", "(Z)V"⟩ ⟨"FarHeightsModel", "want", "(Z)V"⟩) := hq_s 50 (⟨"FarHeightsModel", "want", "(Z)V"⟩, _) rfl
theorem hs_51 : hW (.selects "FarHeightsModel" ⟨"FarHeightsModel", "faulty", "()V"⟩ ⟨"FarHeightsModel", "faulty", "()V"⟩) := hq_s 51 (⟨"FarHeightsModel", "faulty", "()V"⟩, _) rfl
theorem hs_52 : hW (.selects "FarHeightsModel" ⟨"FarHeightsModel", "wantNumber", "(I)I"⟩ ⟨"FarHeightsModel", "wantNumber", "(I)I"⟩) := hq_s 52 (⟨"FarHeightsModel", "wantNumber", "(I)I"⟩, _) rfl
theorem hs_53 : hW (.selects "FarHeightsModel" ⟨"FarHeightsModel", "wantCond", "()V"⟩ ⟨"FarHeightsModel", "wantCond", "()V"⟩) := hq_s 53 (⟨"FarHeightsModel", "wantCond", "()V"⟩, _) rfl
theorem hs_54 : hW (.selects "FarHeightsModel" ⟨"FarHeightsModel", "hold", "(I)V"⟩ ⟨"FarHeightsModel", "hold", "(I)V"⟩) := hq_s 54 (⟨"FarHeightsModel", "hold", "(I)V"⟩, _) rfl
theorem hs_55 : hW (.selects "FarHeightsModel" ⟨"FarHeightsModel", "isMark", "(I)Z"⟩ ⟨"FarHeightsModel", "isMark", "(I)Z"⟩) := hq_s 55 (⟨"FarHeightsModel", "isMark", "(I)Z"⟩, _) rfl
theorem hs_56 : hW (.selects "FarHeightsModel" ⟨"FarHeightsModel", "wantAsk", "()V"⟩ ⟨"FarHeightsModel", "wantAsk", "()V"⟩) := hq_s 56 (⟨"FarHeightsModel", "wantAsk", "()V"⟩, _) rfl
theorem hs_57 : hW (.selects "FarHeightsModel" ⟨"FarHeightsModel", "wantValue", "()V"⟩ ⟨"FarHeightsModel", "wantValue", "()V"⟩) := hq_s 57 (⟨"FarHeightsModel", "wantValue", "()V"⟩, _) rfl
theorem hs_58 : hW (.selects "FarHeightsModel" ⟨"FarHeightsModel", "wordHere", "()I"⟩ ⟨"FarHeightsModel", "wordHere", "()I"⟩) := hq_s 58 (⟨"FarHeightsModel", "wordHere", "()I"⟩, _) rfl
theorem hs_59 : hW (.selects "FarHeightsModel" ⟨"FarHeightsModel", "emit", "(I)V"⟩ ⟨"FarHeightsModel", "emit", "(I)V"⟩) := hq_s 59 (⟨"FarHeightsModel", "emit", "(I)V"⟩, _) rfl
theorem hs_60 : hW (.selects "FarHeightsModel" ⟨"FarHeightsModel", "settle", "(I)V"⟩ ⟨"FarHeightsModel", "settle", "(I)V"⟩) := hq_s 60 (⟨"FarHeightsModel", "settle", "(I)V"⟩, _) rfl
theorem hs_61 : hW (.selects "FarHeightsModel" ⟨"FarHeightsModel", "isRow", "(II)Z"⟩ ⟨"FarHeightsModel", "isRow", "(II)Z"⟩) := hq_s 61 (⟨"FarHeightsModel", "isRow", "(II)Z"⟩, _) rfl
theorem hs_62 : hW (.selects "FarHeightsModel" ⟨"FarHeightsModel", "lacksSort", "(II)I"⟩ ⟨"FarHeightsModel", "lacksSort", "(II)I"⟩) := hq_s 62 (⟨"FarHeightsModel", "lacksSort", "(II)I"⟩, _) rfl
theorem hs_63 : hW (.selects "FarHeightsModel" ⟨"FarHeightsModel", "isThing", "(II)Z"⟩ ⟨"FarHeightsModel", "isThing", "(II)Z"⟩) := hq_s 63 (⟨"FarHeightsModel", "isThing", "(II)Z"⟩, _) rfl
theorem hs_64 : hW (.selects "FarHeightsModel" ⟨"FarHeightsModel", "kindOn", "(I)I"⟩ ⟨"FarHeightsModel", "kindOn", "(I)I"⟩) := hq_s 64 (⟨"FarHeightsModel", "kindOn", "(I)I"⟩, _) rfl
theorem hs_65 : hW (.selects "FarHeightsModel" ⟨"FarHeightsModel", "seesIt", "(I)I"⟩ ⟨"FarHeightsModel", "seesIt", "(I)I"⟩) := hq_s 65 (⟨"FarHeightsModel", "seesIt", "(I)I"⟩, _) rfl
theorem hs_66 : hW (.selects "FarHeightsModel" ⟨"FarHeightsModel", "ran", "(I)V"⟩ ⟨"FarHeightsModel", "ran", "(I)V"⟩) := hq_s 66 (⟨"FarHeightsModel", "ran", "(I)V"⟩, _) rfl
theorem hs_67 : hW (.selects "FarHeightsModel" ⟨"FarHeightsModel", "bendsIt", "(I)I"⟩ ⟨"FarHeightsModel", "bendsIt", "(I)I"⟩) := hq_s 67 (⟨"FarHeightsModel", "bendsIt", "(I)I"⟩, _) rfl
theorem hs_68 : hW (.selects "FarHeightsModel" ⟨"FarHeightsModel", "sightBends", "(I)I"⟩ ⟨"FarHeightsModel", "sightBends", "(I)I"⟩) := hq_s 68 (⟨"FarHeightsModel", "sightBends", "(I)I"⟩, _) rfl
theorem hs_69 : hW (.selects "FarHeightsModel" ⟨"FarHeightsModel", "leansIt", "(I)I"⟩ ⟨"FarHeightsModel", "leansIt", "(I)I"⟩) := hq_s 69 (⟨"FarHeightsModel", "leansIt", "(I)I"⟩, _) rfl
theorem hs_70 : hW (.selects "FarHeightsModel" ⟨"FarHeightsModel", "sightLeans", "(I)I"⟩ ⟨"FarHeightsModel", "sightLeans", "(I)I"⟩) := hq_s 70 (⟨"FarHeightsModel", "sightLeans", "(I)I"⟩, _) rfl
theorem hs_71 : hW (.selects "FarHeightsModel" ⟨"FarHeightsModel", "tellsIt", "(I)I"⟩ ⟨"FarHeightsModel", "tellsIt", "(I)I"⟩) := hq_s 71 (⟨"FarHeightsModel", "tellsIt", "(I)I"⟩, _) rfl
theorem hs_72 : hW (.selects "FarHeightsModel" ⟨"FarHeightsModel", "sightTells", "(I)I"⟩ ⟨"FarHeightsModel", "sightTells", "(I)I"⟩) := hq_s 72 (⟨"FarHeightsModel", "sightTells", "(I)I"⟩, _) rfl
theorem hs_73 : hW (.selects "FarHeightsModel" ⟨"FarHeightsModel", "countedAll", "()I"⟩ ⟨"FarHeightsModel", "countedAll", "()I"⟩) := hq_s 73 (⟨"FarHeightsModel", "countedAll", "()I"⟩, _) rfl
theorem hs_74 : hW (.selects "FarHeightsModel" ⟨"FarHeightsModel", "moveAll", "(Z)V"⟩ ⟨"FarHeightsModel", "moveAll", "(Z)V"⟩) := hq_s 74 (⟨"FarHeightsModel", "moveAll", "(Z)V"⟩, _) rfl
theorem hs_75 : hW (.selects "FarHeightsModel" ⟨"FarHeightsModel", "move", "([IIZ)V"⟩ ⟨"FarHeightsModel", "move", "([IIZ)V"⟩) := hq_s 75 (⟨"FarHeightsModel", "move", "([IIZ)V"⟩, _) rfl
theorem hin_X0 : ∀ w ∈ u_ws RX0 TX0 5, hW w := by
  intro w hw
  obtain ⟨k, hk, rfl⟩ := List.mem_map.mp hw
  have hk := List.mem_range.mp hk
  match k, hk with
  | 0, _ => exact k2_53
  | 1, _ => exact k2_54
  | 2, _ => exact k2_55
  | 3, _ => exact k2_56
  | 4, _ => exact k2_57
  | k + 5, hk => exact absurd hk (by omega)
theorem hin_X1 : ∀ w ∈ u_ws RX1 TX1 5, hW w := by
  intro w hw
  obtain ⟨k, hk, rfl⟩ := List.mem_map.mp hw
  have hk := List.mem_range.mp hk
  match k, hk with
  | 0, _ => exact k2_65
  | 1, _ => exact k2_66
  | 2, _ => exact k2_67
  | 3, _ => exact k2_68
  | 4, _ => exact k2_69
  | k + 5, hk => exact absurd hk (by omega)
theorem hin_X2 : ∀ w ∈ u_ws RX2 TX2 5, hW w := by
  intro w hw
  obtain ⟨k, hk, rfl⟩ := List.mem_map.mp hw
  have hk := List.mem_range.mp hk
  match k, hk with
  | 0, _ => exact k2_77
  | 1, _ => exact k2_78
  | 2, _ => exact k2_79
  | 3, _ => exact k2_80
  | 4, _ => exact k2_81
  | k + 5, hk => exact absurd hk (by omega)
theorem hin_X3 : ∀ w ∈ u_ws RX3 TX3 14, hW w := by
  intro w hw
  obtain ⟨k, hk, rfl⟩ := List.mem_map.mp hw
  have hk := List.mem_range.mp hk
  match k, hk with
  | 0, _ => exact k1_103
  | 1, _ => exact k1_105
  | 2, _ => exact k1_107
  | 3, _ => exact k1_109
  | 4, _ => exact k1_111
  | 5, _ => exact k1_113
  | 6, _ => exact k1_115
  | 7, _ => exact k1_117
  | 8, _ => exact k1_119
  | 9, _ => exact k1_121
  | 10, _ => exact k1_123
  | 11, _ => exact k1_125
  | 12, _ => exact k1_127
  | 13, _ => exact k1_129
  | k + 14, hk => exact absurd hk (by omega)
theorem hin_X4 : ∀ w ∈ u_ws RX4 TX4 5, hW w := by
  intro w hw
  obtain ⟨k, hk, rfl⟩ := List.mem_map.mp hw
  have hk := List.mem_range.mp hk
  match k, hk with
  | 0, _ => exact k2_22
  | 1, _ => exact k2_24
  | 2, _ => exact k2_26
  | 3, _ => exact k2_28
  | 4, _ => exact k2_30
  | k + 5, hk => exact absurd hk (by omega)
theorem hin_X5 : ∀ w ∈ u_ws RX5 TX5 11, hW w := by
  intro w hw
  obtain ⟨k, hk, rfl⟩ := List.mem_map.mp hw
  have hk := List.mem_range.mp hk
  match k, hk with
  | 0, _ => exact k1_58
  | 1, _ => exact k1_60
  | 2, _ => exact k1_62
  | 3, _ => exact k1_64
  | 4, _ => exact k1_66
  | 5, _ => exact k1_68
  | 6, _ => exact k1_70
  | 7, _ => exact k1_72
  | 8, _ => exact k1_74
  | 9, _ => exact k1_76
  | 10, _ => exact k1_78
  | k + 11, hk => exact absurd hk (by omega)
theorem hin_X6 : ∀ w ∈ u_ws RX6 TX6 5, hW w := by
  intro w hw
  obtain ⟨k, hk, rfl⟩ := List.mem_map.mp hw
  have hk := List.mem_range.mp hk
  match k, hk with
  | 0, _ => exact k2_41
  | 1, _ => exact k2_42
  | 2, _ => exact k2_43
  | 3, _ => exact k2_44
  | 4, _ => exact k2_45
  | k + 5, hk => exact absurd hk (by omega)
theorem hin_X7 : ∀ w ∈ u_ws RX7 TX7 5, hW w := by
  intro w hw
  obtain ⟨k, hk, rfl⟩ := List.mem_map.mp hw
  have hk := List.mem_range.mp hk
  match k, hk with
  | 0, _ => exact k2_89
  | 1, _ => exact k2_90
  | 2, _ => exact k2_91
  | 3, _ => exact k2_92
  | 4, _ => exact k2_93
  | k + 5, hk => exact absurd hk (by omega)
theorem hin_X10 : ∀ w ∈ u_ws RX10 TX10 16, hW w := by
  intro w hw
  obtain ⟨k, hk, rfl⟩ := List.mem_map.mp hw
  have hk := List.mem_range.mp hk
  match k, hk with
  | 0, _ => exact k1_162
  | 1, _ => exact k1_164
  | 2, _ => exact k1_166
  | 3, _ => exact k1_168
  | 4, _ => exact k1_170
  | 5, _ => exact k1_172
  | 6, _ => exact k1_174
  | 7, _ => exact k1_176
  | 8, _ => exact k1_178
  | 9, _ => exact k1_180
  | 10, _ => exact k1_182
  | 11, _ => exact k1_184
  | 12, _ => exact k1_186
  | 13, _ => exact k1_188
  | 14, _ => exact k1_190
  | 15, _ => exact k1_192
  | k + 16, hk => exact absurd hk (by omega)
theorem hin_X11 : ∀ w ∈ u_ws RX11 TX11 18, hW w := by
  intro w hw
  obtain ⟨k, hk, rfl⟩ := List.mem_map.mp hw
  have hk := List.mem_range.mp hk
  match k, hk with
  | 0, _ => exact k2_113
  | 1, _ => exact k2_115
  | 2, _ => exact k2_117
  | 3, _ => exact k2_119
  | 4, _ => exact k2_121
  | 5, _ => exact k2_123
  | 6, _ => exact k2_125
  | 7, _ => exact k2_127
  | 8, _ => exact k2_129
  | 9, _ => exact k2_131
  | 10, _ => exact k2_133
  | 11, _ => exact k2_135
  | 12, _ => exact k2_137
  | 13, _ => exact k2_139
  | 14, _ => exact k2_141
  | 15, _ => exact k2_143
  | 16, _ => exact k2_145
  | 17, _ => exact k2_147
  | k + 18, hk => exact absurd hk (by omega)
theorem hin_X12 : ∀ w ∈ u_ws RX12 TX12 54, hW w := by
  intro w hw
  obtain ⟨k, hk, rfl⟩ := List.mem_map.mp hw
  have hk := List.mem_range.mp hk
  match k, hk with
  | 0, _ => exact k5_58
  | 1, _ => exact k5_60
  | 2, _ => exact k5_62
  | 3, _ => exact k5_64
  | 4, _ => exact k5_66
  | 5, _ => exact k5_68
  | 6, _ => exact k5_70
  | 7, _ => exact k5_72
  | 8, _ => exact k5_74
  | 9, _ => exact k5_76
  | 10, _ => exact k5_78
  | 11, _ => exact k5_80
  | 12, _ => exact k5_82
  | 13, _ => exact k5_84
  | 14, _ => exact k5_86
  | 15, _ => exact k5_88
  | 16, _ => exact k5_90
  | 17, _ => exact k5_92
  | 18, _ => exact k5_94
  | 19, _ => exact k5_96
  | 20, _ => exact k5_98
  | 21, _ => exact k5_100
  | 22, _ => exact k5_102
  | 23, _ => exact k5_104
  | 24, _ => exact k5_106
  | 25, _ => exact k5_108
  | 26, _ => exact k5_110
  | 27, _ => exact k5_112
  | 28, _ => exact k5_114
  | 29, _ => exact k5_116
  | 30, _ => exact k5_118
  | 31, _ => exact k5_120
  | 32, _ => exact k5_122
  | 33, _ => exact k5_124
  | 34, _ => exact k5_126
  | 35, _ => exact k5_128
  | 36, _ => exact k5_130
  | 37, _ => exact k5_132
  | 38, _ => exact k5_134
  | 39, _ => exact k5_136
  | 40, _ => exact k5_138
  | 41, _ => exact k5_140
  | 42, _ => exact k5_142
  | 43, _ => exact k5_144
  | 44, _ => exact k5_146
  | 45, _ => exact k5_148
  | 46, _ => exact k5_150
  | 47, _ => exact k5_152
  | 48, _ => exact k5_154
  | 49, _ => exact k5_156
  | 50, _ => exact k5_158
  | 51, _ => exact k5_160
  | 52, _ => exact k5_162
  | 53, _ => exact k5_164
  | k + 54, hk => exact absurd hk (by omega)
theorem f_X5_9_5 : hFl "FarHeights$Net" 9 5 0 0 := ⟨RX5, TX5, 11, "FarHeights$Net", rfl, hin_X5, by decide, rfl, k1_36, Or.inl rfl⟩
theorem f_X11_105_5 : hFl "FarHeights" 105 5 0 0 := ⟨RX5, TX5, 11, "FarHeights$Net", rfl, hin_X5, by decide, rfl, k1_37, Or.inl rfl⟩
theorem f_X5_15_5 : hFl "FarHeights$Net" 15 5 1 3 := ⟨RX5, TX5, 11, "FarHeights$Net", rfl, hin_X5, by decide, rfl, k1_38, Or.inl rfl⟩
theorem f_X10_69_5 : hFl "FarHeights$View" 69 5 1 3 := ⟨RX5, TX5, 11, "FarHeights$Net", rfl, hin_X5, by decide, rfl, k1_39, Or.inl rfl⟩
theorem f_X11_141_5 : hFl "FarHeights" 141 5 1 3 := ⟨RX5, TX5, 11, "FarHeights$Net", rfl, hin_X5, by decide, rfl, k1_40, Or.inl rfl⟩
theorem f_X5_19_5 : hFl "FarHeights$Net" 19 5 2 0 := ⟨RX5, TX5, 11, "FarHeights$Net", rfl, hin_X5, by decide, rfl, k1_41, Or.inl rfl⟩
theorem f_X11_124_5 : hFl "FarHeights" 124 5 2 0 := ⟨RX5, TX5, 11, "FarHeights$Net", rfl, hin_X5, by decide, rfl, k1_42, Or.inl rfl⟩
theorem f_X5_22_5 : hFl "FarHeights$Net" 22 5 3 3 := ⟨RX5, TX5, 11, "FarHeights$Net", rfl, hin_X5, by decide, rfl, k1_43, Or.inl rfl⟩
theorem f_X5_25_5 : hFl "FarHeights$Net" 25 5 4 3 := ⟨RX5, TX5, 11, "FarHeights$Net", rfl, hin_X5, by decide, rfl, k1_44, Or.inl rfl⟩
theorem f_X5_28_5 : hFl "FarHeights$Net" 28 5 5 3 := ⟨RX5, TX5, 11, "FarHeights$Net", rfl, hin_X5, by decide, rfl, k1_45, Or.inl rfl⟩
theorem f_X11_132_5 : hFl "FarHeights" 132 5 5 3 := ⟨RX5, TX5, 11, "FarHeights$Net", rfl, hin_X5, by decide, rfl, k1_46, Or.inl rfl⟩
theorem f_X5_31_5 : hFl "FarHeights$Net" 31 5 6 3 := ⟨RX5, TX5, 11, "FarHeights$Net", rfl, hin_X5, by decide, rfl, k1_47, Or.inl rfl⟩
theorem f_X11_138_5 : hFl "FarHeights" 138 5 6 3 := ⟨RX5, TX5, 11, "FarHeights$Net", rfl, hin_X5, by decide, rfl, k1_48, Or.inl rfl⟩
theorem f_X5_34_5 : hFl "FarHeights$Net" 34 5 7 3 := ⟨RX5, TX5, 11, "FarHeights$Net", rfl, hin_X5, by decide, rfl, k1_49, Or.inl rfl⟩
theorem f_X11_154_5 : hFl "FarHeights" 154 5 7 3 := ⟨RX5, TX5, 11, "FarHeights$Net", rfl, hin_X5, by decide, rfl, k1_50, Or.inl rfl⟩
theorem f_X10_99_5 : hFl "FarHeights$View" 99 5 7 3 := ⟨RX5, TX5, 11, "FarHeights$Net", rfl, hin_X5, by decide, rfl, k1_51, Or.inl rfl⟩
theorem f_X5_37_5 : hFl "FarHeights$Net" 37 5 8 3 := ⟨RX5, TX5, 11, "FarHeights$Net", rfl, hin_X5, by decide, rfl, k1_52, Or.inl rfl⟩
theorem f_X11_157_5 : hFl "FarHeights" 157 5 8 3 := ⟨RX5, TX5, 11, "FarHeights$Net", rfl, hin_X5, by decide, rfl, k1_53, Or.inl rfl⟩
theorem f_X5_40_5 : hFl "FarHeights$Net" 40 5 9 3 := ⟨RX5, TX5, 11, "FarHeights$Net", rfl, hin_X5, by decide, rfl, k1_54, Or.inl rfl⟩
theorem f_X11_151_5 : hFl "FarHeights" 151 5 9 3 := ⟨RX5, TX5, 11, "FarHeights$Net", rfl, hin_X5, by decide, rfl, k1_55, Or.inl rfl⟩
theorem f_X10_93_5 : hFl "FarHeights$View" 93 5 9 3 := ⟨RX5, TX5, 11, "FarHeights$Net", rfl, hin_X5, by decide, rfl, k1_56, Or.inl rfl⟩
theorem f_X5_43_5 : hFl "FarHeights$Net" 43 5 10 3 := ⟨RX5, TX5, 11, "FarHeights$Net", rfl, hin_X5, by decide, rfl, k1_57, Or.inl rfl⟩
theorem f_X3_9_3 : hFl "FarHeights$Law" 9 3 0 0 := ⟨RX3, TX3, 14, "FarHeights$Law", rfl, hin_X3, by decide, rfl, k1_88, Or.inl rfl⟩
theorem f_X11_294_3 : hFl "FarHeights" 294 3 0 0 := ⟨RX3, TX3, 14, "FarHeights$Law", rfl, hin_X3, by decide, rfl, k1_89, Or.inl rfl⟩
theorem f_X3_15_3 : hFl "FarHeights$Law" 15 3 1 3 := ⟨RX3, TX3, 14, "FarHeights$Law", rfl, hin_X3, by decide, rfl, k1_90, Or.inl rfl⟩
theorem f_X3_19_3 : hFl "FarHeights$Law" 19 3 2 3 := ⟨RX3, TX3, 14, "FarHeights$Law", rfl, hin_X3, by decide, rfl, k1_91, Or.inl rfl⟩
theorem f_X3_22_3 : hFl "FarHeights$Law" 22 3 3 0 := ⟨RX3, TX3, 14, "FarHeights$Law", rfl, hin_X3, by decide, rfl, k1_92, Or.inl rfl⟩
theorem f_X3_25_3 : hFl "FarHeights$Law" 25 3 4 3 := ⟨RX3, TX3, 14, "FarHeights$Law", rfl, hin_X3, by decide, rfl, k1_93, Or.inl rfl⟩
theorem f_X3_28_3 : hFl "FarHeights$Law" 28 3 5 3 := ⟨RX3, TX3, 14, "FarHeights$Law", rfl, hin_X3, by decide, rfl, k1_94, Or.inl rfl⟩
theorem f_X3_31_3 : hFl "FarHeights$Law" 31 3 6 3 := ⟨RX3, TX3, 14, "FarHeights$Law", rfl, hin_X3, by decide, rfl, k1_95, Or.inl rfl⟩
theorem f_X3_34_3 : hFl "FarHeights$Law" 34 3 7 3 := ⟨RX3, TX3, 14, "FarHeights$Law", rfl, hin_X3, by decide, rfl, k1_96, Or.inl rfl⟩
theorem f_X3_38_3 : hFl "FarHeights$Law" 38 3 8 0 := ⟨RX3, TX3, 14, "FarHeights$Law", rfl, hin_X3, by decide, rfl, k1_97, Or.inl rfl⟩
theorem f_X3_41_3 : hFl "FarHeights$Law" 41 3 9 0 := ⟨RX3, TX3, 14, "FarHeights$Law", rfl, hin_X3, by decide, rfl, k1_98, Or.inl rfl⟩
theorem f_X3_44_3 : hFl "FarHeights$Law" 44 3 10 0 := ⟨RX3, TX3, 14, "FarHeights$Law", rfl, hin_X3, by decide, rfl, k1_99, Or.inl rfl⟩
theorem f_X3_47_3 : hFl "FarHeights$Law" 47 3 11 0 := ⟨RX3, TX3, 14, "FarHeights$Law", rfl, hin_X3, by decide, rfl, k1_100, Or.inl rfl⟩
theorem f_X3_50_3 : hFl "FarHeights$Law" 50 3 12 0 := ⟨RX3, TX3, 14, "FarHeights$Law", rfl, hin_X3, by decide, rfl, k1_101, Or.inl rfl⟩
theorem f_X3_53_3 : hFl "FarHeights$Law" 53 3 13 0 := ⟨RX3, TX3, 14, "FarHeights$Law", rfl, hin_X3, by decide, rfl, k1_102, Or.inl rfl⟩
theorem f_X10_12_8 : hFl "FarHeights$View" 12 8 0 3 := ⟨RX10, TX10, 16, "FarHeights$View", rfl, hin_X10, by decide, rfl, k1_132, Or.inl rfl⟩
theorem f_X11_16_8 : hFl "FarHeights" 16 8 0 3 := ⟨RX10, TX10, 16, "FarHeights$View", rfl, hin_X10, by decide, rfl, k1_133, Or.inl rfl⟩
theorem f_X10_21_8 : hFl "FarHeights$View" 21 8 1 3 := ⟨RX10, TX10, 16, "FarHeights$View", rfl, hin_X10, by decide, rfl, k1_134, Or.inl rfl⟩
theorem f_X11_21_8 : hFl "FarHeights" 21 8 1 3 := ⟨RX10, TX10, 16, "FarHeights$View", rfl, hin_X10, by decide, rfl, k1_135, Or.inl rfl⟩
theorem f_X10_25_8 : hFl "FarHeights$View" 25 8 2 0 := ⟨RX10, TX10, 16, "FarHeights$View", rfl, hin_X10, by decide, rfl, k1_136, Or.inl rfl⟩
theorem f_X11_166_8 : hFl "FarHeights" 166 8 2 0 := ⟨RX10, TX10, 16, "FarHeights$View", rfl, hin_X10, by decide, rfl, k1_137, Or.inl rfl⟩
theorem f_X10_29_8 : hFl "FarHeights$View" 29 8 3 3 := ⟨RX10, TX10, 16, "FarHeights$View", rfl, hin_X10, by decide, rfl, k1_138, Or.inl rfl⟩
theorem f_X10_33_8 : hFl "FarHeights$View" 33 8 4 3 := ⟨RX10, TX10, 16, "FarHeights$View", rfl, hin_X10, by decide, rfl, k1_139, Or.inl rfl⟩
theorem f_X11_176_8 : hFl "FarHeights" 176 8 4 3 := ⟨RX10, TX10, 16, "FarHeights$View", rfl, hin_X10, by decide, rfl, k1_140, Or.inl rfl⟩
theorem f_X10_36_8 : hFl "FarHeights$View" 36 8 5 0 := ⟨RX10, TX10, 16, "FarHeights$View", rfl, hin_X10, by decide, rfl, k1_141, Or.inl rfl⟩
theorem f_X11_179_8 : hFl "FarHeights" 179 8 5 0 := ⟨RX10, TX10, 16, "FarHeights$View", rfl, hin_X10, by decide, rfl, k1_142, Or.inl rfl⟩
theorem f_X10_39_8 : hFl "FarHeights$View" 39 8 6 0 := ⟨RX10, TX10, 16, "FarHeights$View", rfl, hin_X10, by decide, rfl, k1_143, Or.inl rfl⟩
theorem f_X11_191_8 : hFl "FarHeights" 191 8 6 0 := ⟨RX10, TX10, 16, "FarHeights$View", rfl, hin_X10, by decide, rfl, k1_144, Or.inl rfl⟩
theorem f_X10_42_8 : hFl "FarHeights$View" 42 8 7 3 := ⟨RX10, TX10, 16, "FarHeights$View", rfl, hin_X10, by decide, rfl, k1_145, Or.inl rfl⟩
theorem f_X11_201_8 : hFl "FarHeights" 201 8 7 3 := ⟨RX10, TX10, 16, "FarHeights$View", rfl, hin_X10, by decide, rfl, k1_146, Or.inl rfl⟩
theorem f_X10_45_8 : hFl "FarHeights$View" 45 8 8 3 := ⟨RX10, TX10, 16, "FarHeights$View", rfl, hin_X10, by decide, rfl, k1_147, Or.inl rfl⟩
theorem f_X11_204_8 : hFl "FarHeights" 204 8 8 3 := ⟨RX10, TX10, 16, "FarHeights$View", rfl, hin_X10, by decide, rfl, k1_148, Or.inl rfl⟩
theorem f_X10_48_8 : hFl "FarHeights$View" 48 8 9 3 := ⟨RX10, TX10, 16, "FarHeights$View", rfl, hin_X10, by decide, rfl, k1_149, Or.inl rfl⟩
theorem f_X11_207_8 : hFl "FarHeights" 207 8 9 3 := ⟨RX10, TX10, 16, "FarHeights$View", rfl, hin_X10, by decide, rfl, k1_150, Or.inl rfl⟩
theorem f_X10_51_8 : hFl "FarHeights$View" 51 8 10 3 := ⟨RX10, TX10, 16, "FarHeights$View", rfl, hin_X10, by decide, rfl, k1_151, Or.inl rfl⟩
theorem f_X11_210_8 : hFl "FarHeights" 210 8 10 3 := ⟨RX10, TX10, 16, "FarHeights$View", rfl, hin_X10, by decide, rfl, k1_152, Or.inl rfl⟩
theorem f_X10_54_8 : hFl "FarHeights$View" 54 8 11 3 := ⟨RX10, TX10, 16, "FarHeights$View", rfl, hin_X10, by decide, rfl, k1_153, Or.inl rfl⟩
theorem f_X10_57_8 : hFl "FarHeights$View" 57 8 12 0 := ⟨RX10, TX10, 16, "FarHeights$View", rfl, hin_X10, by decide, rfl, k1_154, Or.inl rfl⟩
theorem f_X11_229_8 : hFl "FarHeights" 229 8 12 0 := ⟨RX10, TX10, 16, "FarHeights$View", rfl, hin_X10, by decide, rfl, k1_155, Or.inl rfl⟩
theorem f_X10_60_8 : hFl "FarHeights$View" 60 8 13 3 := ⟨RX10, TX10, 16, "FarHeights$View", rfl, hin_X10, by decide, rfl, k1_156, Or.inl rfl⟩
theorem f_X11_242_8 : hFl "FarHeights" 242 8 13 3 := ⟨RX10, TX10, 16, "FarHeights$View", rfl, hin_X10, by decide, rfl, k1_157, Or.inl rfl⟩
theorem f_X10_63_8 : hFl "FarHeights$View" 63 8 14 3 := ⟨RX10, TX10, 16, "FarHeights$View", rfl, hin_X10, by decide, rfl, k1_158, Or.inl rfl⟩
theorem f_X11_245_8 : hFl "FarHeights" 245 8 14 3 := ⟨RX10, TX10, 16, "FarHeights$View", rfl, hin_X10, by decide, rfl, k1_159, Or.inl rfl⟩
theorem f_X10_66_8 : hFl "FarHeights$View" 66 8 15 3 := ⟨RX10, TX10, 16, "FarHeights$View", rfl, hin_X10, by decide, rfl, k1_160, Or.inl rfl⟩
theorem f_X11_267_8 : hFl "FarHeights" 267 8 15 3 := ⟨RX10, TX10, 16, "FarHeights$View", rfl, hin_X10, by decide, rfl, k1_161, Or.inl rfl⟩
theorem f_X9_9_0 : hFl "FarHeights$Thing" 9 0 0 0 := ⟨RX0, TX0, 5, "FarHeights$Thing", rfl, hin_X0, by decide, rfl, k1_211, Or.inl rfl⟩
theorem f_X9_9_1 : hFl "FarHeights$Thing" 9 1 0 0 := ⟨RX1, TX1, 5, "FarHeights$Thing", rfl, hin_X1, by decide, rfl, k1_211, Or.inl rfl⟩
theorem f_X9_9_2 : hFl "FarHeights$Thing" 9 2 0 0 := ⟨RX2, TX2, 5, "FarHeights$Thing", rfl, hin_X2, by decide, rfl, k1_211, Or.inl rfl⟩
theorem f_X9_9_4 : hFl "FarHeights$Thing" 9 4 0 0 := ⟨RX4, TX4, 5, "FarHeights$Thing", rfl, hin_X4, by decide, rfl, k1_211, Or.inl rfl⟩
theorem f_X9_9_6 : hFl "FarHeights$Thing" 9 6 0 0 := ⟨RX6, TX6, 5, "FarHeights$Thing", rfl, hin_X6, by decide, rfl, k1_211, Or.inl rfl⟩
theorem f_X9_9_7 : hFl "FarHeights$Thing" 9 7 0 0 := ⟨RX7, TX7, 5, "FarHeights$Thing", rfl, hin_X7, by decide, rfl, k1_211, Or.inl rfl⟩
theorem f_X6_23_2 : hFl "FarHeights$Noon" 23 2 0 0 := ⟨RX2, TX2, 5, "FarHeights$Noon", rfl, hin_X2, by decide, rfl, k1_212, Or.inr k1_213⟩
theorem f_X6_23_6 : hFl "FarHeights$Noon" 23 6 0 0 := ⟨RX6, TX6, 5, "FarHeights$Noon", rfl, hin_X6, by decide, rfl, k1_212, Or.inr k1_213⟩
theorem f_X7_26_7 : hFl "FarHeights$Peak" 26 7 0 0 := ⟨RX7, TX7, 5, "FarHeights$Peak", rfl, hin_X7, by decide, rfl, k1_214, Or.inr k1_215⟩
theorem f_X2_26_2 : hFl "FarHeights$Hidden" 26 2 0 0 := ⟨RX2, TX2, 5, "FarHeights$Hidden", rfl, hin_X2, by decide, rfl, k1_216, Or.inr k1_217⟩
theorem f_X1_26_1 : hFl "FarHeights$Far" 26 1 0 0 := ⟨RX1, TX1, 5, "FarHeights$Far", rfl, hin_X1, by decide, rfl, k1_218, Or.inr k1_219⟩
theorem f_X8_26_0 : hFl "FarHeights$Sight" 26 0 0 0 := ⟨RX0, TX0, 5, "FarHeights$Sight", rfl, hin_X0, by decide, rfl, k1_220, Or.inr k1_221⟩
theorem f_X8_26_1 : hFl "FarHeights$Sight" 26 1 0 0 := ⟨RX1, TX1, 5, "FarHeights$Sight", rfl, hin_X1, by decide, rfl, k1_220, Or.inr k1_221⟩
theorem f_X8_26_2 : hFl "FarHeights$Sight" 26 2 0 0 := ⟨RX2, TX2, 5, "FarHeights$Sight", rfl, hin_X2, by decide, rfl, k1_220, Or.inr k1_221⟩
theorem f_X8_26_4 : hFl "FarHeights$Sight" 26 4 0 0 := ⟨RX4, TX4, 5, "FarHeights$Sight", rfl, hin_X4, by decide, rfl, k1_220, Or.inr k1_221⟩
theorem f_X8_26_6 : hFl "FarHeights$Sight" 26 6 0 0 := ⟨RX6, TX6, 5, "FarHeights$Sight", rfl, hin_X6, by decide, rfl, k1_220, Or.inr k1_221⟩
theorem f_X9_15_0 : hFl "FarHeights$Thing" 15 0 1 0 := ⟨RX0, TX0, 5, "FarHeights$Thing", rfl, hin_X0, by decide, rfl, k1_222, Or.inl rfl⟩
theorem f_X9_15_1 : hFl "FarHeights$Thing" 15 1 1 0 := ⟨RX1, TX1, 5, "FarHeights$Thing", rfl, hin_X1, by decide, rfl, k1_222, Or.inl rfl⟩
theorem f_X9_15_2 : hFl "FarHeights$Thing" 15 2 1 0 := ⟨RX2, TX2, 5, "FarHeights$Thing", rfl, hin_X2, by decide, rfl, k1_222, Or.inl rfl⟩
theorem f_X9_15_4 : hFl "FarHeights$Thing" 15 4 1 0 := ⟨RX4, TX4, 5, "FarHeights$Thing", rfl, hin_X4, by decide, rfl, k1_222, Or.inl rfl⟩
theorem f_X9_15_6 : hFl "FarHeights$Thing" 15 6 1 0 := ⟨RX6, TX6, 5, "FarHeights$Thing", rfl, hin_X6, by decide, rfl, k1_222, Or.inl rfl⟩
theorem f_X9_15_7 : hFl "FarHeights$Thing" 15 7 1 0 := ⟨RX7, TX7, 5, "FarHeights$Thing", rfl, hin_X7, by decide, rfl, k1_222, Or.inl rfl⟩
theorem f_X8_19_0 : hFl "FarHeights$Sight" 19 0 1 0 := ⟨RX0, TX0, 5, "FarHeights$Sight", rfl, hin_X0, by decide, rfl, k1_223, Or.inr k1_224⟩
theorem f_X8_19_1 : hFl "FarHeights$Sight" 19 1 1 0 := ⟨RX1, TX1, 5, "FarHeights$Sight", rfl, hin_X1, by decide, rfl, k1_223, Or.inr k1_224⟩
theorem f_X8_19_2 : hFl "FarHeights$Sight" 19 2 1 0 := ⟨RX2, TX2, 5, "FarHeights$Sight", rfl, hin_X2, by decide, rfl, k1_223, Or.inr k1_224⟩
theorem f_X8_19_4 : hFl "FarHeights$Sight" 19 4 1 0 := ⟨RX4, TX4, 5, "FarHeights$Sight", rfl, hin_X4, by decide, rfl, k1_223, Or.inr k1_224⟩
theorem f_X8_19_6 : hFl "FarHeights$Sight" 19 6 1 0 := ⟨RX6, TX6, 5, "FarHeights$Sight", rfl, hin_X6, by decide, rfl, k1_223, Or.inr k1_224⟩
theorem f_X7_19_7 : hFl "FarHeights$Peak" 19 7 1 0 := ⟨RX7, TX7, 5, "FarHeights$Peak", rfl, hin_X7, by decide, rfl, k1_225, Or.inr k1_226⟩
theorem f_X9_18_0 : hFl "FarHeights$Thing" 18 0 2 0 := ⟨RX0, TX0, 5, "FarHeights$Thing", rfl, hin_X0, by decide, rfl, k1_227, Or.inl rfl⟩
theorem f_X9_18_1 : hFl "FarHeights$Thing" 18 1 2 0 := ⟨RX1, TX1, 5, "FarHeights$Thing", rfl, hin_X1, by decide, rfl, k1_227, Or.inl rfl⟩
theorem f_X9_18_2 : hFl "FarHeights$Thing" 18 2 2 0 := ⟨RX2, TX2, 5, "FarHeights$Thing", rfl, hin_X2, by decide, rfl, k1_227, Or.inl rfl⟩
theorem f_X9_18_4 : hFl "FarHeights$Thing" 18 4 2 0 := ⟨RX4, TX4, 5, "FarHeights$Thing", rfl, hin_X4, by decide, rfl, k1_227, Or.inl rfl⟩
theorem f_X9_18_6 : hFl "FarHeights$Thing" 18 6 2 0 := ⟨RX6, TX6, 5, "FarHeights$Thing", rfl, hin_X6, by decide, rfl, k1_227, Or.inl rfl⟩
theorem f_X9_18_7 : hFl "FarHeights$Thing" 18 7 2 0 := ⟨RX7, TX7, 5, "FarHeights$Thing", rfl, hin_X7, by decide, rfl, k1_227, Or.inl rfl⟩
theorem f_X8_9_0 : hFl "FarHeights$Sight" 9 0 2 0 := ⟨RX0, TX0, 5, "FarHeights$Sight", rfl, hin_X0, by decide, rfl, k1_228, Or.inr k1_229⟩
theorem f_X8_9_1 : hFl "FarHeights$Sight" 9 1 2 0 := ⟨RX1, TX1, 5, "FarHeights$Sight", rfl, hin_X1, by decide, rfl, k1_228, Or.inr k1_229⟩
theorem f_X8_9_2 : hFl "FarHeights$Sight" 9 2 2 0 := ⟨RX2, TX2, 5, "FarHeights$Sight", rfl, hin_X2, by decide, rfl, k1_228, Or.inr k1_229⟩
theorem f_X8_9_4 : hFl "FarHeights$Sight" 9 4 2 0 := ⟨RX4, TX4, 5, "FarHeights$Sight", rfl, hin_X4, by decide, rfl, k1_228, Or.inr k1_229⟩
theorem f_X8_9_6 : hFl "FarHeights$Sight" 9 6 2 0 := ⟨RX6, TX6, 5, "FarHeights$Sight", rfl, hin_X6, by decide, rfl, k1_228, Or.inr k1_229⟩
theorem f_X1_9_1 : hFl "FarHeights$Far" 9 1 2 0 := ⟨RX1, TX1, 5, "FarHeights$Far", rfl, hin_X1, by decide, rfl, k1_230, Or.inr k1_231⟩
theorem f_X2_9_2 : hFl "FarHeights$Hidden" 9 2 2 0 := ⟨RX2, TX2, 5, "FarHeights$Hidden", rfl, hin_X2, by decide, rfl, k1_232, Or.inr k1_233⟩
theorem f_X6_9_2 : hFl "FarHeights$Noon" 9 2 2 0 := ⟨RX2, TX2, 5, "FarHeights$Noon", rfl, hin_X2, by decide, rfl, k1_234, Or.inr k1_235⟩
theorem f_X6_9_6 : hFl "FarHeights$Noon" 9 6 2 0 := ⟨RX6, TX6, 5, "FarHeights$Noon", rfl, hin_X6, by decide, rfl, k1_234, Or.inr k1_235⟩
theorem f_X7_9_7 : hFl "FarHeights$Peak" 9 7 2 0 := ⟨RX7, TX7, 5, "FarHeights$Peak", rfl, hin_X7, by decide, rfl, k1_236, Or.inr k1_237⟩
theorem f_X4_9_1 : hFl "FarHeights$Morning" 9 1 2 0 := ⟨RX1, TX1, 5, "FarHeights$Morning", rfl, hin_X1, by decide, rfl, k1_238, Or.inr k1_239⟩
theorem f_X4_9_4 : hFl "FarHeights$Morning" 9 4 2 0 := ⟨RX4, TX4, 5, "FarHeights$Morning", rfl, hin_X4, by decide, rfl, k1_238, Or.inr k1_239⟩
theorem f_X0_9_0 : hFl "FarHeights$Both" 9 0 2 0 := ⟨RX0, TX0, 5, "FarHeights$Both", rfl, hin_X0, by decide, rfl, k2_0, Or.inr k2_1⟩
theorem f_X11_353_0 : hFl "FarHeights" 353 0 2 0 := ⟨RX0, TX0, 5, "FarHeights$Thing", rfl, hin_X0, by decide, rfl, k2_2, Or.inl rfl⟩
theorem f_X11_353_1 : hFl "FarHeights" 353 1 2 0 := ⟨RX1, TX1, 5, "FarHeights$Thing", rfl, hin_X1, by decide, rfl, k2_2, Or.inl rfl⟩
theorem f_X11_353_2 : hFl "FarHeights" 353 2 2 0 := ⟨RX2, TX2, 5, "FarHeights$Thing", rfl, hin_X2, by decide, rfl, k2_2, Or.inl rfl⟩
theorem f_X11_353_4 : hFl "FarHeights" 353 4 2 0 := ⟨RX4, TX4, 5, "FarHeights$Thing", rfl, hin_X4, by decide, rfl, k2_2, Or.inl rfl⟩
theorem f_X11_353_6 : hFl "FarHeights" 353 6 2 0 := ⟨RX6, TX6, 5, "FarHeights$Thing", rfl, hin_X6, by decide, rfl, k2_2, Or.inl rfl⟩
theorem f_X11_353_7 : hFl "FarHeights" 353 7 2 0 := ⟨RX7, TX7, 5, "FarHeights$Thing", rfl, hin_X7, by decide, rfl, k2_2, Or.inl rfl⟩
theorem f_X9_21_0 : hFl "FarHeights$Thing" 21 0 3 1 := ⟨RX0, TX0, 5, "FarHeights$Thing", rfl, hin_X0, by decide, rfl, k2_3, Or.inl rfl⟩
theorem f_X9_21_1 : hFl "FarHeights$Thing" 21 1 3 1 := ⟨RX1, TX1, 5, "FarHeights$Thing", rfl, hin_X1, by decide, rfl, k2_3, Or.inl rfl⟩
theorem f_X9_21_2 : hFl "FarHeights$Thing" 21 2 3 1 := ⟨RX2, TX2, 5, "FarHeights$Thing", rfl, hin_X2, by decide, rfl, k2_3, Or.inl rfl⟩
theorem f_X9_21_4 : hFl "FarHeights$Thing" 21 4 3 1 := ⟨RX4, TX4, 5, "FarHeights$Thing", rfl, hin_X4, by decide, rfl, k2_3, Or.inl rfl⟩
theorem f_X9_21_6 : hFl "FarHeights$Thing" 21 6 3 1 := ⟨RX6, TX6, 5, "FarHeights$Thing", rfl, hin_X6, by decide, rfl, k2_3, Or.inl rfl⟩
theorem f_X9_21_7 : hFl "FarHeights$Thing" 21 7 3 1 := ⟨RX7, TX7, 5, "FarHeights$Thing", rfl, hin_X7, by decide, rfl, k2_3, Or.inl rfl⟩
theorem f_X8_29_0 : hFl "FarHeights$Sight" 29 0 3 1 := ⟨RX0, TX0, 5, "FarHeights$Sight", rfl, hin_X0, by decide, rfl, k2_4, Or.inr k2_5⟩
theorem f_X8_29_1 : hFl "FarHeights$Sight" 29 1 3 1 := ⟨RX1, TX1, 5, "FarHeights$Sight", rfl, hin_X1, by decide, rfl, k2_4, Or.inr k2_5⟩
theorem f_X8_29_2 : hFl "FarHeights$Sight" 29 2 3 1 := ⟨RX2, TX2, 5, "FarHeights$Sight", rfl, hin_X2, by decide, rfl, k2_4, Or.inr k2_5⟩
theorem f_X8_29_4 : hFl "FarHeights$Sight" 29 4 3 1 := ⟨RX4, TX4, 5, "FarHeights$Sight", rfl, hin_X4, by decide, rfl, k2_4, Or.inr k2_5⟩
theorem f_X8_29_6 : hFl "FarHeights$Sight" 29 6 3 1 := ⟨RX6, TX6, 5, "FarHeights$Sight", rfl, hin_X6, by decide, rfl, k2_4, Or.inr k2_5⟩
theorem f_X11_343_0 : hFl "FarHeights" 343 0 3 1 := ⟨RX0, TX0, 5, "FarHeights$Thing", rfl, hin_X0, by decide, rfl, k2_6, Or.inl rfl⟩
theorem f_X11_343_1 : hFl "FarHeights" 343 1 3 1 := ⟨RX1, TX1, 5, "FarHeights$Thing", rfl, hin_X1, by decide, rfl, k2_6, Or.inl rfl⟩
theorem f_X11_343_2 : hFl "FarHeights" 343 2 3 1 := ⟨RX2, TX2, 5, "FarHeights$Thing", rfl, hin_X2, by decide, rfl, k2_6, Or.inl rfl⟩
theorem f_X11_343_4 : hFl "FarHeights" 343 4 3 1 := ⟨RX4, TX4, 5, "FarHeights$Thing", rfl, hin_X4, by decide, rfl, k2_6, Or.inl rfl⟩
theorem f_X11_343_6 : hFl "FarHeights" 343 6 3 1 := ⟨RX6, TX6, 5, "FarHeights$Thing", rfl, hin_X6, by decide, rfl, k2_6, Or.inl rfl⟩
theorem f_X11_343_7 : hFl "FarHeights" 343 7 3 1 := ⟨RX7, TX7, 5, "FarHeights$Thing", rfl, hin_X7, by decide, rfl, k2_6, Or.inl rfl⟩
theorem f_X9_25_0 : hFl "FarHeights$Thing" 25 0 4 3 := ⟨RX0, TX0, 5, "FarHeights$Thing", rfl, hin_X0, by decide, rfl, k2_7, Or.inl rfl⟩
theorem f_X9_25_1 : hFl "FarHeights$Thing" 25 1 4 3 := ⟨RX1, TX1, 5, "FarHeights$Thing", rfl, hin_X1, by decide, rfl, k2_7, Or.inl rfl⟩
theorem f_X9_25_2 : hFl "FarHeights$Thing" 25 2 4 3 := ⟨RX2, TX2, 5, "FarHeights$Thing", rfl, hin_X2, by decide, rfl, k2_7, Or.inl rfl⟩
theorem f_X9_25_4 : hFl "FarHeights$Thing" 25 4 4 3 := ⟨RX4, TX4, 5, "FarHeights$Thing", rfl, hin_X4, by decide, rfl, k2_7, Or.inl rfl⟩
theorem f_X9_25_6 : hFl "FarHeights$Thing" 25 6 4 3 := ⟨RX6, TX6, 5, "FarHeights$Thing", rfl, hin_X6, by decide, rfl, k2_7, Or.inl rfl⟩
theorem f_X9_25_7 : hFl "FarHeights$Thing" 25 7 4 3 := ⟨RX7, TX7, 5, "FarHeights$Thing", rfl, hin_X7, by decide, rfl, k2_7, Or.inl rfl⟩
theorem f_X8_15_0 : hFl "FarHeights$Sight" 15 0 4 3 := ⟨RX0, TX0, 5, "FarHeights$Sight", rfl, hin_X0, by decide, rfl, k2_8, Or.inr k2_9⟩
theorem f_X8_15_1 : hFl "FarHeights$Sight" 15 1 4 3 := ⟨RX1, TX1, 5, "FarHeights$Sight", rfl, hin_X1, by decide, rfl, k2_8, Or.inr k2_9⟩
theorem f_X8_15_2 : hFl "FarHeights$Sight" 15 2 4 3 := ⟨RX2, TX2, 5, "FarHeights$Sight", rfl, hin_X2, by decide, rfl, k2_8, Or.inr k2_9⟩
theorem f_X8_15_4 : hFl "FarHeights$Sight" 15 4 4 3 := ⟨RX4, TX4, 5, "FarHeights$Sight", rfl, hin_X4, by decide, rfl, k2_8, Or.inr k2_9⟩
theorem f_X8_15_6 : hFl "FarHeights$Sight" 15 6 4 3 := ⟨RX6, TX6, 5, "FarHeights$Sight", rfl, hin_X6, by decide, rfl, k2_8, Or.inr k2_9⟩
theorem f_X1_15_1 : hFl "FarHeights$Far" 15 1 4 3 := ⟨RX1, TX1, 5, "FarHeights$Far", rfl, hin_X1, by decide, rfl, k2_10, Or.inr k2_11⟩
theorem f_X2_15_2 : hFl "FarHeights$Hidden" 15 2 4 3 := ⟨RX2, TX2, 5, "FarHeights$Hidden", rfl, hin_X2, by decide, rfl, k2_12, Or.inr k2_13⟩
theorem f_X6_15_2 : hFl "FarHeights$Noon" 15 2 4 3 := ⟨RX2, TX2, 5, "FarHeights$Noon", rfl, hin_X2, by decide, rfl, k2_14, Or.inr k2_15⟩
theorem f_X6_15_6 : hFl "FarHeights$Noon" 15 6 4 3 := ⟨RX6, TX6, 5, "FarHeights$Noon", rfl, hin_X6, by decide, rfl, k2_14, Or.inr k2_15⟩
theorem f_X7_15_7 : hFl "FarHeights$Peak" 15 7 4 3 := ⟨RX7, TX7, 5, "FarHeights$Peak", rfl, hin_X7, by decide, rfl, k2_16, Or.inr k2_17⟩
theorem f_X4_15_1 : hFl "FarHeights$Morning" 15 1 4 3 := ⟨RX1, TX1, 5, "FarHeights$Morning", rfl, hin_X1, by decide, rfl, k2_18, Or.inr k2_19⟩
theorem f_X4_15_4 : hFl "FarHeights$Morning" 15 4 4 3 := ⟨RX4, TX4, 5, "FarHeights$Morning", rfl, hin_X4, by decide, rfl, k2_18, Or.inr k2_19⟩
theorem f_X0_15_0 : hFl "FarHeights$Both" 15 0 4 3 := ⟨RX0, TX0, 5, "FarHeights$Both", rfl, hin_X0, by decide, rfl, k2_20, Or.inr k2_21⟩
theorem f_X11_10_9 : hFl "FarHeights" 10 9 0 3 := ⟨RX11, TX11, 18, "FarHeights", rfl, hin_X11, by decide, rfl, k2_95, Or.inl rfl⟩
theorem f_X11_20_9 : hFl "FarHeights" 20 9 1 3 := ⟨RX11, TX11, 18, "FarHeights", rfl, hin_X11, by decide, rfl, k2_96, Or.inl rfl⟩
theorem f_X11_25_9 : hFl "FarHeights" 25 9 2 3 := ⟨RX11, TX11, 18, "FarHeights", rfl, hin_X11, by decide, rfl, k2_97, Or.inl rfl⟩
theorem f_X11_26_9 : hFl "FarHeights" 26 9 3 3 := ⟨RX11, TX11, 18, "FarHeights", rfl, hin_X11, by decide, rfl, k2_98, Or.inl rfl⟩
theorem f_X11_29_9 : hFl "FarHeights" 29 9 4 1 := ⟨RX11, TX11, 18, "FarHeights", rfl, hin_X11, by decide, rfl, k2_99, Or.inl rfl⟩
theorem f_X11_36_9 : hFl "FarHeights" 36 9 5 3 := ⟨RX11, TX11, 18, "FarHeights", rfl, hin_X11, by decide, rfl, k2_100, Or.inl rfl⟩
theorem f_X11_39_9 : hFl "FarHeights" 39 9 6 3 := ⟨RX11, TX11, 18, "FarHeights", rfl, hin_X11, by decide, rfl, k2_101, Or.inl rfl⟩
theorem f_X11_43_9 : hFl "FarHeights" 43 9 7 0 := ⟨RX11, TX11, 18, "FarHeights", rfl, hin_X11, by decide, rfl, k2_102, Or.inl rfl⟩
theorem f_X11_47_9 : hFl "FarHeights" 47 9 8 3 := ⟨RX11, TX11, 18, "FarHeights", rfl, hin_X11, by decide, rfl, k2_103, Or.inl rfl⟩
theorem f_X11_51_9 : hFl "FarHeights" 51 9 9 0 := ⟨RX11, TX11, 18, "FarHeights", rfl, hin_X11, by decide, rfl, k2_104, Or.inl rfl⟩
theorem f_X11_54_9 : hFl "FarHeights" 54 9 10 3 := ⟨RX11, TX11, 18, "FarHeights", rfl, hin_X11, by decide, rfl, k2_105, Or.inl rfl⟩
theorem f_X11_57_9 : hFl "FarHeights" 57 9 11 3 := ⟨RX11, TX11, 18, "FarHeights", rfl, hin_X11, by decide, rfl, k2_106, Or.inl rfl⟩
theorem f_X11_60_9 : hFl "FarHeights" 60 9 12 3 := ⟨RX11, TX11, 18, "FarHeights", rfl, hin_X11, by decide, rfl, k2_107, Or.inl rfl⟩
theorem f_X11_64_9 : hFl "FarHeights" 64 9 13 3 := ⟨RX11, TX11, 18, "FarHeights", rfl, hin_X11, by decide, rfl, k2_108, Or.inl rfl⟩
theorem f_X11_67_9 : hFl "FarHeights" 67 9 14 3 := ⟨RX11, TX11, 18, "FarHeights", rfl, hin_X11, by decide, rfl, k2_109, Or.inl rfl⟩
theorem f_X11_70_9 : hFl "FarHeights" 70 9 15 3 := ⟨RX11, TX11, 18, "FarHeights", rfl, hin_X11, by decide, rfl, k2_110, Or.inl rfl⟩
theorem f_X11_75_9 : hFl "FarHeights" 75 9 16 3 := ⟨RX11, TX11, 18, "FarHeights", rfl, hin_X11, by decide, rfl, k2_111, Or.inl rfl⟩
theorem f_X11_79_9 : hFl "FarHeights" 79 9 17 3 := ⟨RX11, TX11, 18, "FarHeights", rfl, hin_X11, by decide, rfl, k2_112, Or.inl rfl⟩
theorem f_X12_102_10 : hFl "FarHeightsModel" 102 10 0 0 := ⟨RX12, TX12, 54, "FarHeightsModel", rfl, hin_X12, by decide, rfl, k5_4, Or.inl rfl⟩
theorem f_X12_7_10 : hFl "FarHeightsModel" 7 10 1 3 := ⟨RX12, TX12, 54, "FarHeightsModel", rfl, hin_X12, by decide, rfl, k5_5, Or.inl rfl⟩
theorem f_X12_120_10 : hFl "FarHeightsModel" 120 10 2 0 := ⟨RX12, TX12, 54, "FarHeightsModel", rfl, hin_X12, by decide, rfl, k5_6, Or.inl rfl⟩
theorem f_X12_13_10 : hFl "FarHeightsModel" 13 10 3 3 := ⟨RX12, TX12, 54, "FarHeightsModel", rfl, hin_X12, by decide, rfl, k5_7, Or.inl rfl⟩
theorem f_X12_110_10 : hFl "FarHeightsModel" 110 10 4 0 := ⟨RX12, TX12, 54, "FarHeightsModel", rfl, hin_X12, by decide, rfl, k5_8, Or.inl rfl⟩
theorem f_X12_16_10 : hFl "FarHeightsModel" 16 10 5 3 := ⟨RX12, TX12, 54, "FarHeightsModel", rfl, hin_X12, by decide, rfl, k5_9, Or.inl rfl⟩
theorem f_X12_142_10 : hFl "FarHeightsModel" 142 10 6 0 := ⟨RX12, TX12, 54, "FarHeightsModel", rfl, hin_X12, by decide, rfl, k5_10, Or.inl rfl⟩
theorem f_X12_113_10 : hFl "FarHeightsModel" 113 10 7 0 := ⟨RX12, TX12, 54, "FarHeightsModel", rfl, hin_X12, by decide, rfl, k5_11, Or.inl rfl⟩
theorem f_X12_19_10 : hFl "FarHeightsModel" 19 10 8 3 := ⟨RX12, TX12, 54, "FarHeightsModel", rfl, hin_X12, by decide, rfl, k5_12, Or.inl rfl⟩
theorem f_X12_328_10 : hFl "FarHeightsModel" 328 10 9 0 := ⟨RX12, TX12, 54, "FarHeightsModel", rfl, hin_X12, by decide, rfl, k5_13, Or.inl rfl⟩
theorem f_X12_22_10 : hFl "FarHeightsModel" 22 10 10 3 := ⟨RX12, TX12, 54, "FarHeightsModel", rfl, hin_X12, by decide, rfl, k5_14, Or.inl rfl⟩
theorem f_X12_25_10 : hFl "FarHeightsModel" 25 10 11 3 := ⟨RX12, TX12, 54, "FarHeightsModel", rfl, hin_X12, by decide, rfl, k5_15, Or.inl rfl⟩
theorem f_X12_28_10 : hFl "FarHeightsModel" 28 10 12 3 := ⟨RX12, TX12, 54, "FarHeightsModel", rfl, hin_X12, by decide, rfl, k5_16, Or.inl rfl⟩
theorem f_X12_31_10 : hFl "FarHeightsModel" 31 10 13 3 := ⟨RX12, TX12, 54, "FarHeightsModel", rfl, hin_X12, by decide, rfl, k5_17, Or.inl rfl⟩
theorem f_X12_34_10 : hFl "FarHeightsModel" 34 10 14 3 := ⟨RX12, TX12, 54, "FarHeightsModel", rfl, hin_X12, by decide, rfl, k5_18, Or.inl rfl⟩
theorem f_X12_37_10 : hFl "FarHeightsModel" 37 10 15 3 := ⟨RX12, TX12, 54, "FarHeightsModel", rfl, hin_X12, by decide, rfl, k5_19, Or.inl rfl⟩
theorem f_X12_200_10 : hFl "FarHeightsModel" 200 10 16 0 := ⟨RX12, TX12, 54, "FarHeightsModel", rfl, hin_X12, by decide, rfl, k5_20, Or.inl rfl⟩
theorem f_X12_203_10 : hFl "FarHeightsModel" 203 10 17 0 := ⟨RX12, TX12, 54, "FarHeightsModel", rfl, hin_X12, by decide, rfl, k5_21, Or.inl rfl⟩
theorem f_X12_40_10 : hFl "FarHeightsModel" 40 10 18 3 := ⟨RX12, TX12, 54, "FarHeightsModel", rfl, hin_X12, by decide, rfl, k5_22, Or.inl rfl⟩
theorem f_X12_43_10 : hFl "FarHeightsModel" 43 10 19 3 := ⟨RX12, TX12, 54, "FarHeightsModel", rfl, hin_X12, by decide, rfl, k5_23, Or.inl rfl⟩
theorem f_X12_46_10 : hFl "FarHeightsModel" 46 10 20 3 := ⟨RX12, TX12, 54, "FarHeightsModel", rfl, hin_X12, by decide, rfl, k5_24, Or.inl rfl⟩
theorem f_X12_50_10 : hFl "FarHeightsModel" 50 10 21 3 := ⟨RX12, TX12, 54, "FarHeightsModel", rfl, hin_X12, by decide, rfl, k5_25, Or.inl rfl⟩
theorem f_X12_223_10 : hFl "FarHeightsModel" 223 10 22 0 := ⟨RX12, TX12, 54, "FarHeightsModel", rfl, hin_X12, by decide, rfl, k5_26, Or.inl rfl⟩
theorem f_X12_238_10 : hFl "FarHeightsModel" 238 10 23 0 := ⟨RX12, TX12, 54, "FarHeightsModel", rfl, hin_X12, by decide, rfl, k5_27, Or.inl rfl⟩
theorem f_X12_231_10 : hFl "FarHeightsModel" 231 10 24 0 := ⟨RX12, TX12, 54, "FarHeightsModel", rfl, hin_X12, by decide, rfl, k5_28, Or.inl rfl⟩
theorem f_X12_228_10 : hFl "FarHeightsModel" 228 10 25 0 := ⟨RX12, TX12, 54, "FarHeightsModel", rfl, hin_X12, by decide, rfl, k5_29, Or.inl rfl⟩
theorem f_X12_234_10 : hFl "FarHeightsModel" 234 10 26 2 := ⟨RX12, TX12, 54, "FarHeightsModel", rfl, hin_X12, by decide, rfl, k5_30, Or.inl rfl⟩
theorem f_X12_255_10 : hFl "FarHeightsModel" 255 10 27 0 := ⟨RX12, TX12, 54, "FarHeightsModel", rfl, hin_X12, by decide, rfl, k5_31, Or.inl rfl⟩
theorem f_X12_53_10 : hFl "FarHeightsModel" 53 10 28 3 := ⟨RX12, TX12, 54, "FarHeightsModel", rfl, hin_X12, by decide, rfl, k5_32, Or.inl rfl⟩
theorem f_X12_56_10 : hFl "FarHeightsModel" 56 10 29 3 := ⟨RX12, TX12, 54, "FarHeightsModel", rfl, hin_X12, by decide, rfl, k5_33, Or.inl rfl⟩
theorem f_X12_59_10 : hFl "FarHeightsModel" 59 10 30 3 := ⟨RX12, TX12, 54, "FarHeightsModel", rfl, hin_X12, by decide, rfl, k5_34, Or.inl rfl⟩
theorem f_X12_62_10 : hFl "FarHeightsModel" 62 10 31 3 := ⟨RX12, TX12, 54, "FarHeightsModel", rfl, hin_X12, by decide, rfl, k5_35, Or.inl rfl⟩
theorem f_X12_272_10 : hFl "FarHeightsModel" 272 10 32 0 := ⟨RX12, TX12, 54, "FarHeightsModel", rfl, hin_X12, by decide, rfl, k5_36, Or.inl rfl⟩
theorem f_X12_275_10 : hFl "FarHeightsModel" 275 10 33 0 := ⟨RX12, TX12, 54, "FarHeightsModel", rfl, hin_X12, by decide, rfl, k5_37, Or.inl rfl⟩
theorem f_X12_65_10 : hFl "FarHeightsModel" 65 10 34 3 := ⟨RX12, TX12, 54, "FarHeightsModel", rfl, hin_X12, by decide, rfl, k5_38, Or.inl rfl⟩
theorem f_X12_68_10 : hFl "FarHeightsModel" 68 10 35 3 := ⟨RX12, TX12, 54, "FarHeightsModel", rfl, hin_X12, by decide, rfl, k5_39, Or.inl rfl⟩
theorem f_X12_71_10 : hFl "FarHeightsModel" 71 10 36 3 := ⟨RX12, TX12, 54, "FarHeightsModel", rfl, hin_X12, by decide, rfl, k5_40, Or.inl rfl⟩
theorem f_X12_337_10 : hFl "FarHeightsModel" 337 10 37 0 := ⟨RX12, TX12, 54, "FarHeightsModel", rfl, hin_X12, by decide, rfl, k5_41, Or.inl rfl⟩
theorem f_X12_74_10 : hFl "FarHeightsModel" 74 10 38 3 := ⟨RX12, TX12, 54, "FarHeightsModel", rfl, hin_X12, by decide, rfl, k5_42, Or.inl rfl⟩
theorem f_X12_77_10 : hFl "FarHeightsModel" 77 10 39 3 := ⟨RX12, TX12, 54, "FarHeightsModel", rfl, hin_X12, by decide, rfl, k5_43, Or.inl rfl⟩
theorem f_X12_80_10 : hFl "FarHeightsModel" 80 10 40 3 := ⟨RX12, TX12, 54, "FarHeightsModel", rfl, hin_X12, by decide, rfl, k5_44, Or.inl rfl⟩
theorem f_X12_84_10 : hFl "FarHeightsModel" 84 10 41 3 := ⟨RX12, TX12, 54, "FarHeightsModel", rfl, hin_X12, by decide, rfl, k5_45, Or.inl rfl⟩
theorem f_X12_87_10 : hFl "FarHeightsModel" 87 10 42 3 := ⟨RX12, TX12, 54, "FarHeightsModel", rfl, hin_X12, by decide, rfl, k5_46, Or.inl rfl⟩
theorem f_X12_90_10 : hFl "FarHeightsModel" 90 10 43 3 := ⟨RX12, TX12, 54, "FarHeightsModel", rfl, hin_X12, by decide, rfl, k5_47, Or.inl rfl⟩
theorem f_X12_364_10 : hFl "FarHeightsModel" 364 10 44 0 := ⟨RX12, TX12, 54, "FarHeightsModel", rfl, hin_X12, by decide, rfl, k5_48, Or.inl rfl⟩
theorem f_X12_373_10 : hFl "FarHeightsModel" 373 10 45 0 := ⟨RX12, TX12, 54, "FarHeightsModel", rfl, hin_X12, by decide, rfl, k5_49, Or.inl rfl⟩
theorem f_X12_370_10 : hFl "FarHeightsModel" 370 10 46 0 := ⟨RX12, TX12, 54, "FarHeightsModel", rfl, hin_X12, by decide, rfl, k5_50, Or.inl rfl⟩
theorem f_X12_93_10 : hFl "FarHeightsModel" 93 10 47 3 := ⟨RX12, TX12, 54, "FarHeightsModel", rfl, hin_X12, by decide, rfl, k5_51, Or.inl rfl⟩
theorem f_X12_361_10 : hFl "FarHeightsModel" 361 10 48 0 := ⟨RX12, TX12, 54, "FarHeightsModel", rfl, hin_X12, by decide, rfl, k5_52, Or.inl rfl⟩
theorem f_X12_382_10 : hFl "FarHeightsModel" 382 10 49 1 := ⟨RX12, TX12, 54, "FarHeightsModel", rfl, hin_X12, by decide, rfl, k5_53, Or.inl rfl⟩
theorem f_X12_414_10 : hFl "FarHeightsModel" 414 10 50 1 := ⟨RX12, TX12, 54, "FarHeightsModel", rfl, hin_X12, by decide, rfl, k5_54, Or.inl rfl⟩
theorem f_X12_96_10 : hFl "FarHeightsModel" 96 10 51 3 := ⟨RX12, TX12, 54, "FarHeightsModel", rfl, hin_X12, by decide, rfl, k5_55, Or.inl rfl⟩
theorem f_X12_404_10 : hFl "FarHeightsModel" 404 10 52 0 := ⟨RX12, TX12, 54, "FarHeightsModel", rfl, hin_X12, by decide, rfl, k5_56, Or.inl rfl⟩
theorem f_X12_99_10 : hFl "FarHeightsModel" 99 10 53 3 := ⟨RX12, TX12, 54, "FarHeightsModel", rfl, hin_X12, by decide, rfl, k5_57, Or.inl rfl⟩
theorem p_X11_8_5 : hFp "FarHeights" 8 5 0 false := ⟨RX10, TX10, 16, tyX10, .int, rfl, tyX10_ok, nmX10, rfl, (fun h => by cases h), by decide +kernel, rfl⟩
theorem p_X11_8_12 : hFp "FarHeights" 8 12 0 false := ⟨RX10, TX10, 16, tyX10, .int, rfl, tyX10_ok, nmX10, rfl, (fun h => by cases h), by decide +kernel, rfl⟩
theorem p_X11_9_0 : hFp "FarHeights" 9 0 3 true := ⟨RX11, TX11, 18, tyX11, .object "FarHeights$View", rfl, tyX11_ok, nmX11, rfl, fun _ => rfl, by decide +kernel, Or.inl ⟨_, rfl⟩⟩
theorem p_X11_9_1 : hFp "FarHeights" 9 1 3 true := ⟨RX11, TX11, 18, tyX11, .object "FarHeights$Net", rfl, tyX11_ok, nmX11, rfl, fun _ => rfl, by decide +kernel, Or.inl ⟨_, rfl⟩⟩
theorem p_X11_9_2 : hFp "FarHeights" 9 2 3 true := ⟨RX11, TX11, 18, tyX11, .object "FarHeights$Law", rfl, tyX11_ok, nmX11, rfl, fun _ => rfl, by decide +kernel, Or.inl ⟨_, rfl⟩⟩
theorem p_X11_9_3 : hFp "FarHeights" 9 3 3 true := ⟨RX11, TX11, 18, tyX11, .object "FarHeights$View", rfl, tyX11_ok, nmX11, rfl, fun _ => rfl, by decide +kernel, Or.inl ⟨_, rfl⟩⟩
theorem p_X11_9_4 : hFp "FarHeights" 9 4 1 false := ⟨RX11, TX11, 18, tyX11, .boolean, rfl, tyX11_ok, nmX11, rfl, (fun h => by cases h), by decide +kernel, rfl⟩
theorem p_X11_9_5 : hFp "FarHeights" 9 5 3 true := ⟨RX11, TX11, 18, tyX11, .object "FarHeights$Law", rfl, tyX11_ok, nmX11, rfl, fun _ => rfl, by decide +kernel, Or.inl ⟨_, rfl⟩⟩
theorem p_X11_9_6 : hFp "FarHeights" 9 6 3 true := ⟨RX11, TX11, 18, tyX11, .array .byte, rfl, tyX11_ok, nmX11, rfl, fun _ => rfl, by decide +kernel, Or.inr ⟨_, rfl⟩⟩
theorem p_X11_9_7 : hFp "FarHeights" 9 7 0 false := ⟨RX11, TX11, 18, tyX11, .int, rfl, tyX11_ok, nmX11, rfl, (fun h => by cases h), by decide +kernel, rfl⟩
theorem p_X11_9_8 : hFp "FarHeights" 9 8 3 true := ⟨RX11, TX11, 18, tyX11, .array .int, rfl, tyX11_ok, nmX11, rfl, fun _ => rfl, by decide +kernel, Or.inr ⟨_, rfl⟩⟩
theorem p_X11_9_9 : hFp "FarHeights" 9 9 0 false := ⟨RX11, TX11, 18, tyX11, .int, rfl, tyX11_ok, nmX11, rfl, (fun h => by cases h), by decide +kernel, rfl⟩
theorem p_X11_9_10 : hFp "FarHeights" 9 10 3 true := ⟨RX11, TX11, 18, tyX11, .array .int, rfl, tyX11_ok, nmX11, rfl, fun _ => rfl, by decide +kernel, Or.inr ⟨_, rfl⟩⟩
theorem p_X11_9_11 : hFp "FarHeights" 9 11 3 true := ⟨RX11, TX11, 18, tyX11, .array .int, rfl, tyX11_ok, nmX11, rfl, fun _ => rfl, by decide +kernel, Or.inr ⟨_, rfl⟩⟩
theorem p_X11_9_12 : hFp "FarHeights" 9 12 3 true := ⟨RX11, TX11, 18, tyX11, .array .long, rfl, tyX11_ok, nmX11, rfl, fun _ => rfl, by decide +kernel, Or.inr ⟨_, rfl⟩⟩
theorem p_X11_9_13 : hFp "FarHeights" 9 13 3 true := ⟨RX11, TX11, 18, tyX11, .array .int, rfl, tyX11_ok, nmX11, rfl, fun _ => rfl, by decide +kernel, Or.inr ⟨_, rfl⟩⟩
theorem p_X11_9_14 : hFp "FarHeights" 9 14 3 true := ⟨RX11, TX11, 18, tyX11, .array .int, rfl, tyX11_ok, nmX11, rfl, fun _ => rfl, by decide +kernel, Or.inr ⟨_, rfl⟩⟩
theorem p_X11_9_15 : hFp "FarHeights" 9 15 3 true := ⟨RX11, TX11, 18, tyX11, .array .int, rfl, tyX11_ok, nmX11, rfl, fun _ => rfl, by decide +kernel, Or.inr ⟨_, rfl⟩⟩
theorem p_X11_9_16 : hFp "FarHeights" 9 16 3 true := ⟨RX11, TX11, 18, tyX11, .array (.object "FarHeights$Thing"), rfl, tyX11_ok, nmX11, rfl, fun _ => rfl, by decide +kernel, Or.inr ⟨_, rfl⟩⟩
theorem p_X11_9_17 : hFp "FarHeights" 9 17 3 false := ⟨RX11, TX11, 18, tyX11, .object "FarHeights$Thing", rfl, tyX11_ok, nmX11, rfl, (fun h => by cases h), by decide +kernel, Or.inl ⟨_, rfl⟩⟩
theorem p_X0_0_2 : hFp "FarHeights$Both" 0 2 0 false := ⟨RX0, TX0, 5, tyX0, .int, rfl, tyX0_ok, nmX0, rfl, (fun h => by cases h), by decide +kernel, rfl⟩
theorem p_X1_1_2 : hFp "FarHeights$Far" 1 2 0 false := ⟨RX1, TX1, 5, tyX1, .int, rfl, tyX1_ok, nmX1, rfl, (fun h => by cases h), by decide +kernel, rfl⟩
theorem p_X2_2_2 : hFp "FarHeights$Hidden" 2 2 0 false := ⟨RX2, TX2, 5, tyX2, .int, rfl, tyX2_ok, nmX2, rfl, (fun h => by cases h), by decide +kernel, rfl⟩
theorem p_X3_3_0 : hFp "FarHeights$Law" 3 0 0 false := ⟨RX3, TX3, 14, tyX3, .int, rfl, tyX3_ok, nmX3, rfl, (fun h => by cases h), by decide +kernel, rfl⟩
theorem p_X3_3_1 : hFp "FarHeights$Law" 3 1 3 true := ⟨RX3, TX3, 14, tyX3, .array .int, rfl, tyX3_ok, nmX3, rfl, fun _ => rfl, by decide +kernel, Or.inr ⟨_, rfl⟩⟩
theorem p_X3_3_2 : hFp "FarHeights$Law" 3 2 3 true := ⟨RX3, TX3, 14, tyX3, .array .int, rfl, tyX3_ok, nmX3, rfl, fun _ => rfl, by decide +kernel, Or.inr ⟨_, rfl⟩⟩
theorem p_X3_3_3 : hFp "FarHeights$Law" 3 3 0 false := ⟨RX3, TX3, 14, tyX3, .int, rfl, tyX3_ok, nmX3, rfl, (fun h => by cases h), by decide +kernel, rfl⟩
theorem p_X3_3_4 : hFp "FarHeights$Law" 3 4 3 true := ⟨RX3, TX3, 14, tyX3, .array .int, rfl, tyX3_ok, nmX3, rfl, fun _ => rfl, by decide +kernel, Or.inr ⟨_, rfl⟩⟩
theorem p_X3_3_5 : hFp "FarHeights$Law" 3 5 3 true := ⟨RX3, TX3, 14, tyX3, .array .int, rfl, tyX3_ok, nmX3, rfl, fun _ => rfl, by decide +kernel, Or.inr ⟨_, rfl⟩⟩
theorem p_X3_3_6 : hFp "FarHeights$Law" 3 6 3 true := ⟨RX3, TX3, 14, tyX3, .array .int, rfl, tyX3_ok, nmX3, rfl, fun _ => rfl, by decide +kernel, Or.inr ⟨_, rfl⟩⟩
theorem p_X3_3_7 : hFp "FarHeights$Law" 3 7 3 false := ⟨RX3, TX3, 14, tyX3, .array .byte, rfl, tyX3_ok, nmX3, rfl, (fun h => by cases h), by decide +kernel, Or.inr ⟨_, rfl⟩⟩
theorem p_X3_3_8 : hFp "FarHeights$Law" 3 8 0 false := ⟨RX3, TX3, 14, tyX3, .int, rfl, tyX3_ok, nmX3, rfl, (fun h => by cases h), by decide +kernel, rfl⟩
theorem p_X3_3_9 : hFp "FarHeights$Law" 3 9 0 false := ⟨RX3, TX3, 14, tyX3, .int, rfl, tyX3_ok, nmX3, rfl, (fun h => by cases h), by decide +kernel, rfl⟩
theorem p_X3_3_10 : hFp "FarHeights$Law" 3 10 0 false := ⟨RX3, TX3, 14, tyX3, .int, rfl, tyX3_ok, nmX3, rfl, (fun h => by cases h), by decide +kernel, rfl⟩
theorem p_X3_3_11 : hFp "FarHeights$Law" 3 11 0 false := ⟨RX3, TX3, 14, tyX3, .int, rfl, tyX3_ok, nmX3, rfl, (fun h => by cases h), by decide +kernel, rfl⟩
theorem p_X3_3_12 : hFp "FarHeights$Law" 3 12 0 false := ⟨RX3, TX3, 14, tyX3, .int, rfl, tyX3_ok, nmX3, rfl, (fun h => by cases h), by decide +kernel, rfl⟩
theorem p_X3_3_13 : hFp "FarHeights$Law" 3 13 0 false := ⟨RX3, TX3, 14, tyX3, .int, rfl, tyX3_ok, nmX3, rfl, (fun h => by cases h), by decide +kernel, rfl⟩
theorem p_X4_1_2 : hFp "FarHeights$Morning" 1 2 0 false := ⟨RX1, TX1, 5, tyX1, .int, rfl, tyX1_ok, nmX1, rfl, (fun h => by cases h), by decide +kernel, rfl⟩
theorem p_X4_4_2 : hFp "FarHeights$Morning" 4 2 0 false := ⟨RX4, TX4, 5, tyX4, .int, rfl, tyX4_ok, nmX4, rfl, (fun h => by cases h), by decide +kernel, rfl⟩
theorem p_X5_5_0 : hFp "FarHeights$Net" 5 0 0 false := ⟨RX5, TX5, 11, tyX5, .int, rfl, tyX5_ok, nmX5, rfl, (fun h => by cases h), by decide +kernel, rfl⟩
theorem p_X5_5_1 : hFp "FarHeights$Net" 5 1 3 true := ⟨RX5, TX5, 11, tyX5, .array .int, rfl, tyX5_ok, nmX5, rfl, fun _ => rfl, by decide +kernel, Or.inr ⟨_, rfl⟩⟩
theorem p_X5_5_2 : hFp "FarHeights$Net" 5 2 0 false := ⟨RX5, TX5, 11, tyX5, .int, rfl, tyX5_ok, nmX5, rfl, (fun h => by cases h), by decide +kernel, rfl⟩
theorem p_X5_5_3 : hFp "FarHeights$Net" 5 3 3 true := ⟨RX5, TX5, 11, tyX5, .array .int, rfl, tyX5_ok, nmX5, rfl, fun _ => rfl, by decide +kernel, Or.inr ⟨_, rfl⟩⟩
theorem p_X5_5_4 : hFp "FarHeights$Net" 5 4 3 true := ⟨RX5, TX5, 11, tyX5, .array .int, rfl, tyX5_ok, nmX5, rfl, fun _ => rfl, by decide +kernel, Or.inr ⟨_, rfl⟩⟩
theorem p_X5_5_5 : hFp "FarHeights$Net" 5 5 3 true := ⟨RX5, TX5, 11, tyX5, .array .int, rfl, tyX5_ok, nmX5, rfl, fun _ => rfl, by decide +kernel, Or.inr ⟨_, rfl⟩⟩
theorem p_X5_5_6 : hFp "FarHeights$Net" 5 6 3 true := ⟨RX5, TX5, 11, tyX5, .array .int, rfl, tyX5_ok, nmX5, rfl, fun _ => rfl, by decide +kernel, Or.inr ⟨_, rfl⟩⟩
theorem p_X5_5_7 : hFp "FarHeights$Net" 5 7 3 true := ⟨RX5, TX5, 11, tyX5, .array .int, rfl, tyX5_ok, nmX5, rfl, fun _ => rfl, by decide +kernel, Or.inr ⟨_, rfl⟩⟩
theorem p_X5_5_8 : hFp "FarHeights$Net" 5 8 3 true := ⟨RX5, TX5, 11, tyX5, .array .int, rfl, tyX5_ok, nmX5, rfl, fun _ => rfl, by decide +kernel, Or.inr ⟨_, rfl⟩⟩
theorem p_X5_5_9 : hFp "FarHeights$Net" 5 9 3 true := ⟨RX5, TX5, 11, tyX5, .array .int, rfl, tyX5_ok, nmX5, rfl, fun _ => rfl, by decide +kernel, Or.inr ⟨_, rfl⟩⟩
theorem p_X5_5_10 : hFp "FarHeights$Net" 5 10 3 true := ⟨RX5, TX5, 11, tyX5, .array .int, rfl, tyX5_ok, nmX5, rfl, fun _ => rfl, by decide +kernel, Or.inr ⟨_, rfl⟩⟩
theorem p_X6_2_2 : hFp "FarHeights$Noon" 2 2 0 false := ⟨RX2, TX2, 5, tyX2, .int, rfl, tyX2_ok, nmX2, rfl, (fun h => by cases h), by decide +kernel, rfl⟩
theorem p_X6_6_2 : hFp "FarHeights$Noon" 6 2 0 false := ⟨RX6, TX6, 5, tyX6, .int, rfl, tyX6_ok, nmX6, rfl, (fun h => by cases h), by decide +kernel, rfl⟩
theorem p_X7_7_2 : hFp "FarHeights$Peak" 7 2 0 false := ⟨RX7, TX7, 5, tyX7, .int, rfl, tyX7_ok, nmX7, rfl, (fun h => by cases h), by decide +kernel, rfl⟩
theorem p_X8_0_2 : hFp "FarHeights$Sight" 0 2 0 false := ⟨RX0, TX0, 5, tyX0, .int, rfl, tyX0_ok, nmX0, rfl, (fun h => by cases h), by decide +kernel, rfl⟩
theorem p_X8_0_3 : hFp "FarHeights$Sight" 0 3 1 false := ⟨RX0, TX0, 5, tyX0, .boolean, rfl, tyX0_ok, nmX0, rfl, (fun h => by cases h), by decide +kernel, rfl⟩
theorem p_X8_1_2 : hFp "FarHeights$Sight" 1 2 0 false := ⟨RX1, TX1, 5, tyX1, .int, rfl, tyX1_ok, nmX1, rfl, (fun h => by cases h), by decide +kernel, rfl⟩
theorem p_X8_1_3 : hFp "FarHeights$Sight" 1 3 1 false := ⟨RX1, TX1, 5, tyX1, .boolean, rfl, tyX1_ok, nmX1, rfl, (fun h => by cases h), by decide +kernel, rfl⟩
theorem p_X8_2_2 : hFp "FarHeights$Sight" 2 2 0 false := ⟨RX2, TX2, 5, tyX2, .int, rfl, tyX2_ok, nmX2, rfl, (fun h => by cases h), by decide +kernel, rfl⟩
theorem p_X8_2_3 : hFp "FarHeights$Sight" 2 3 1 false := ⟨RX2, TX2, 5, tyX2, .boolean, rfl, tyX2_ok, nmX2, rfl, (fun h => by cases h), by decide +kernel, rfl⟩
theorem p_X8_4_2 : hFp "FarHeights$Sight" 4 2 0 false := ⟨RX4, TX4, 5, tyX4, .int, rfl, tyX4_ok, nmX4, rfl, (fun h => by cases h), by decide +kernel, rfl⟩
theorem p_X8_4_3 : hFp "FarHeights$Sight" 4 3 1 false := ⟨RX4, TX4, 5, tyX4, .boolean, rfl, tyX4_ok, nmX4, rfl, (fun h => by cases h), by decide +kernel, rfl⟩
theorem p_X8_6_2 : hFp "FarHeights$Sight" 6 2 0 false := ⟨RX6, TX6, 5, tyX6, .int, rfl, tyX6_ok, nmX6, rfl, (fun h => by cases h), by decide +kernel, rfl⟩
theorem p_X8_6_3 : hFp "FarHeights$Sight" 6 3 1 false := ⟨RX6, TX6, 5, tyX6, .boolean, rfl, tyX6_ok, nmX6, rfl, (fun h => by cases h), by decide +kernel, rfl⟩
theorem p_X9_0_0 : hFp "FarHeights$Thing" 0 0 0 false := ⟨RX0, TX0, 5, tyX0, .int, rfl, tyX0_ok, nmX0, rfl, (fun h => by cases h), by decide +kernel, rfl⟩
theorem p_X9_0_1 : hFp "FarHeights$Thing" 0 1 0 false := ⟨RX0, TX0, 5, tyX0, .int, rfl, tyX0_ok, nmX0, rfl, (fun h => by cases h), by decide +kernel, rfl⟩
theorem p_X9_0_2 : hFp "FarHeights$Thing" 0 2 0 false := ⟨RX0, TX0, 5, tyX0, .int, rfl, tyX0_ok, nmX0, rfl, (fun h => by cases h), by decide +kernel, rfl⟩
theorem p_X9_0_3 : hFp "FarHeights$Thing" 0 3 1 false := ⟨RX0, TX0, 5, tyX0, .boolean, rfl, tyX0_ok, nmX0, rfl, (fun h => by cases h), by decide +kernel, rfl⟩
theorem p_X9_0_4 : hFp "FarHeights$Thing" 0 4 3 true := ⟨RX0, TX0, 5, tyX0, .array .int, rfl, tyX0_ok, nmX0, rfl, fun _ => rfl, by decide +kernel, Or.inr ⟨_, rfl⟩⟩
theorem p_X9_1_0 : hFp "FarHeights$Thing" 1 0 0 false := ⟨RX1, TX1, 5, tyX1, .int, rfl, tyX1_ok, nmX1, rfl, (fun h => by cases h), by decide +kernel, rfl⟩
theorem p_X9_1_1 : hFp "FarHeights$Thing" 1 1 0 false := ⟨RX1, TX1, 5, tyX1, .int, rfl, tyX1_ok, nmX1, rfl, (fun h => by cases h), by decide +kernel, rfl⟩
theorem p_X9_1_2 : hFp "FarHeights$Thing" 1 2 0 false := ⟨RX1, TX1, 5, tyX1, .int, rfl, tyX1_ok, nmX1, rfl, (fun h => by cases h), by decide +kernel, rfl⟩
theorem p_X9_1_3 : hFp "FarHeights$Thing" 1 3 1 false := ⟨RX1, TX1, 5, tyX1, .boolean, rfl, tyX1_ok, nmX1, rfl, (fun h => by cases h), by decide +kernel, rfl⟩
theorem p_X9_1_4 : hFp "FarHeights$Thing" 1 4 3 true := ⟨RX1, TX1, 5, tyX1, .array .int, rfl, tyX1_ok, nmX1, rfl, fun _ => rfl, by decide +kernel, Or.inr ⟨_, rfl⟩⟩
theorem p_X9_2_0 : hFp "FarHeights$Thing" 2 0 0 false := ⟨RX2, TX2, 5, tyX2, .int, rfl, tyX2_ok, nmX2, rfl, (fun h => by cases h), by decide +kernel, rfl⟩
theorem p_X9_2_1 : hFp "FarHeights$Thing" 2 1 0 false := ⟨RX2, TX2, 5, tyX2, .int, rfl, tyX2_ok, nmX2, rfl, (fun h => by cases h), by decide +kernel, rfl⟩
theorem p_X9_2_2 : hFp "FarHeights$Thing" 2 2 0 false := ⟨RX2, TX2, 5, tyX2, .int, rfl, tyX2_ok, nmX2, rfl, (fun h => by cases h), by decide +kernel, rfl⟩
theorem p_X9_2_3 : hFp "FarHeights$Thing" 2 3 1 false := ⟨RX2, TX2, 5, tyX2, .boolean, rfl, tyX2_ok, nmX2, rfl, (fun h => by cases h), by decide +kernel, rfl⟩
theorem p_X9_2_4 : hFp "FarHeights$Thing" 2 4 3 true := ⟨RX2, TX2, 5, tyX2, .array .int, rfl, tyX2_ok, nmX2, rfl, fun _ => rfl, by decide +kernel, Or.inr ⟨_, rfl⟩⟩
theorem p_X9_4_0 : hFp "FarHeights$Thing" 4 0 0 false := ⟨RX4, TX4, 5, tyX4, .int, rfl, tyX4_ok, nmX4, rfl, (fun h => by cases h), by decide +kernel, rfl⟩
theorem p_X9_4_1 : hFp "FarHeights$Thing" 4 1 0 false := ⟨RX4, TX4, 5, tyX4, .int, rfl, tyX4_ok, nmX4, rfl, (fun h => by cases h), by decide +kernel, rfl⟩
theorem p_X9_4_2 : hFp "FarHeights$Thing" 4 2 0 false := ⟨RX4, TX4, 5, tyX4, .int, rfl, tyX4_ok, nmX4, rfl, (fun h => by cases h), by decide +kernel, rfl⟩
theorem p_X9_4_3 : hFp "FarHeights$Thing" 4 3 1 false := ⟨RX4, TX4, 5, tyX4, .boolean, rfl, tyX4_ok, nmX4, rfl, (fun h => by cases h), by decide +kernel, rfl⟩
theorem p_X9_4_4 : hFp "FarHeights$Thing" 4 4 3 true := ⟨RX4, TX4, 5, tyX4, .array .int, rfl, tyX4_ok, nmX4, rfl, fun _ => rfl, by decide +kernel, Or.inr ⟨_, rfl⟩⟩
theorem p_X9_6_0 : hFp "FarHeights$Thing" 6 0 0 false := ⟨RX6, TX6, 5, tyX6, .int, rfl, tyX6_ok, nmX6, rfl, (fun h => by cases h), by decide +kernel, rfl⟩
theorem p_X9_6_1 : hFp "FarHeights$Thing" 6 1 0 false := ⟨RX6, TX6, 5, tyX6, .int, rfl, tyX6_ok, nmX6, rfl, (fun h => by cases h), by decide +kernel, rfl⟩
theorem p_X9_6_2 : hFp "FarHeights$Thing" 6 2 0 false := ⟨RX6, TX6, 5, tyX6, .int, rfl, tyX6_ok, nmX6, rfl, (fun h => by cases h), by decide +kernel, rfl⟩
theorem p_X9_6_3 : hFp "FarHeights$Thing" 6 3 1 false := ⟨RX6, TX6, 5, tyX6, .boolean, rfl, tyX6_ok, nmX6, rfl, (fun h => by cases h), by decide +kernel, rfl⟩
theorem p_X9_6_4 : hFp "FarHeights$Thing" 6 4 3 true := ⟨RX6, TX6, 5, tyX6, .array .int, rfl, tyX6_ok, nmX6, rfl, fun _ => rfl, by decide +kernel, Or.inr ⟨_, rfl⟩⟩
theorem p_X9_7_0 : hFp "FarHeights$Thing" 7 0 0 false := ⟨RX7, TX7, 5, tyX7, .int, rfl, tyX7_ok, nmX7, rfl, (fun h => by cases h), by decide +kernel, rfl⟩
theorem p_X9_7_1 : hFp "FarHeights$Thing" 7 1 0 false := ⟨RX7, TX7, 5, tyX7, .int, rfl, tyX7_ok, nmX7, rfl, (fun h => by cases h), by decide +kernel, rfl⟩
theorem p_X9_7_2 : hFp "FarHeights$Thing" 7 2 0 false := ⟨RX7, TX7, 5, tyX7, .int, rfl, tyX7_ok, nmX7, rfl, (fun h => by cases h), by decide +kernel, rfl⟩
theorem p_X9_7_3 : hFp "FarHeights$Thing" 7 3 1 false := ⟨RX7, TX7, 5, tyX7, .boolean, rfl, tyX7_ok, nmX7, rfl, (fun h => by cases h), by decide +kernel, rfl⟩
theorem p_X9_7_4 : hFp "FarHeights$Thing" 7 4 3 true := ⟨RX7, TX7, 5, tyX7, .array .int, rfl, tyX7_ok, nmX7, rfl, fun _ => rfl, by decide +kernel, Or.inr ⟨_, rfl⟩⟩
theorem p_X10_8_0 : hFp "FarHeights$View" 8 0 3 true := ⟨RX10, TX10, 16, tyX10, .object "FarHeights$Net", rfl, tyX10_ok, nmX10, rfl, fun _ => rfl, by decide +kernel, Or.inl ⟨_, rfl⟩⟩
theorem p_X10_8_1 : hFp "FarHeights$View" 8 1 3 true := ⟨RX10, TX10, 16, tyX10, .object "FarHeights$Law", rfl, tyX10_ok, nmX10, rfl, fun _ => rfl, by decide +kernel, Or.inl ⟨_, rfl⟩⟩
theorem p_X10_8_2 : hFp "FarHeights$View" 8 2 0 false := ⟨RX10, TX10, 16, tyX10, .int, rfl, tyX10_ok, nmX10, rfl, (fun h => by cases h), by decide +kernel, rfl⟩
theorem p_X10_8_3 : hFp "FarHeights$View" 8 3 3 true := ⟨RX10, TX10, 16, tyX10, .array .int, rfl, tyX10_ok, nmX10, rfl, fun _ => rfl, by decide +kernel, Or.inr ⟨_, rfl⟩⟩
theorem p_X10_8_4 : hFp "FarHeights$View" 8 4 3 true := ⟨RX10, TX10, 16, tyX10, .array .int, rfl, tyX10_ok, nmX10, rfl, fun _ => rfl, by decide +kernel, Or.inr ⟨_, rfl⟩⟩
theorem p_X10_8_5 : hFp "FarHeights$View" 8 5 0 false := ⟨RX10, TX10, 16, tyX10, .int, rfl, tyX10_ok, nmX10, rfl, (fun h => by cases h), by decide +kernel, rfl⟩
theorem p_X10_8_6 : hFp "FarHeights$View" 8 6 0 false := ⟨RX10, TX10, 16, tyX10, .int, rfl, tyX10_ok, nmX10, rfl, (fun h => by cases h), by decide +kernel, rfl⟩
theorem p_X10_8_7 : hFp "FarHeights$View" 8 7 3 true := ⟨RX10, TX10, 16, tyX10, .array .int, rfl, tyX10_ok, nmX10, rfl, fun _ => rfl, by decide +kernel, Or.inr ⟨_, rfl⟩⟩
theorem p_X10_8_8 : hFp "FarHeights$View" 8 8 3 true := ⟨RX10, TX10, 16, tyX10, .array .int, rfl, tyX10_ok, nmX10, rfl, fun _ => rfl, by decide +kernel, Or.inr ⟨_, rfl⟩⟩
theorem p_X10_8_9 : hFp "FarHeights$View" 8 9 3 true := ⟨RX10, TX10, 16, tyX10, .array .int, rfl, tyX10_ok, nmX10, rfl, fun _ => rfl, by decide +kernel, Or.inr ⟨_, rfl⟩⟩
theorem p_X10_8_10 : hFp "FarHeights$View" 8 10 3 true := ⟨RX10, TX10, 16, tyX10, .array .int, rfl, tyX10_ok, nmX10, rfl, fun _ => rfl, by decide +kernel, Or.inr ⟨_, rfl⟩⟩
theorem p_X10_8_11 : hFp "FarHeights$View" 8 11 3 true := ⟨RX10, TX10, 16, tyX10, .array .int, rfl, tyX10_ok, nmX10, rfl, fun _ => rfl, by decide +kernel, Or.inr ⟨_, rfl⟩⟩
theorem p_X10_8_12 : hFp "FarHeights$View" 8 12 0 false := ⟨RX10, TX10, 16, tyX10, .int, rfl, tyX10_ok, nmX10, rfl, (fun h => by cases h), by decide +kernel, rfl⟩
theorem p_X10_8_13 : hFp "FarHeights$View" 8 13 3 true := ⟨RX10, TX10, 16, tyX10, .array .int, rfl, tyX10_ok, nmX10, rfl, fun _ => rfl, by decide +kernel, Or.inr ⟨_, rfl⟩⟩
theorem p_X10_8_14 : hFp "FarHeights$View" 8 14 3 true := ⟨RX10, TX10, 16, tyX10, .array .int, rfl, tyX10_ok, nmX10, rfl, fun _ => rfl, by decide +kernel, Or.inr ⟨_, rfl⟩⟩
theorem p_X10_8_15 : hFp "FarHeights$View" 8 15 3 true := ⟨RX10, TX10, 16, tyX10, .array .int, rfl, tyX10_ok, nmX10, rfl, fun _ => rfl, by decide +kernel, Or.inr ⟨_, rfl⟩⟩
theorem p_X12_10_0 : hFp "FarHeightsModel" 10 0 0 false := ⟨RX12, TX12, 54, tyX12, .int, rfl, tyX12_ok, nmX12, rfl, (fun h => by cases h), by decide +kernel, rfl⟩
theorem p_X12_10_1 : hFp "FarHeightsModel" 10 1 3 true := ⟨RX12, TX12, 54, tyX12, .array .int, rfl, tyX12_ok, nmX12, rfl, fun _ => rfl, by decide +kernel, Or.inr ⟨_, rfl⟩⟩
theorem p_X12_10_2 : hFp "FarHeightsModel" 10 2 0 false := ⟨RX12, TX12, 54, tyX12, .int, rfl, tyX12_ok, nmX12, rfl, (fun h => by cases h), by decide +kernel, rfl⟩
theorem p_X12_10_3 : hFp "FarHeightsModel" 10 3 3 true := ⟨RX12, TX12, 54, tyX12, .array .int, rfl, tyX12_ok, nmX12, rfl, fun _ => rfl, by decide +kernel, Or.inr ⟨_, rfl⟩⟩
theorem p_X12_10_4 : hFp "FarHeightsModel" 10 4 0 false := ⟨RX12, TX12, 54, tyX12, .int, rfl, tyX12_ok, nmX12, rfl, (fun h => by cases h), by decide +kernel, rfl⟩
theorem p_X12_10_5 : hFp "FarHeightsModel" 10 5 3 true := ⟨RX12, TX12, 54, tyX12, .array .int, rfl, tyX12_ok, nmX12, rfl, fun _ => rfl, by decide +kernel, Or.inr ⟨_, rfl⟩⟩
theorem p_X12_10_6 : hFp "FarHeightsModel" 10 6 0 false := ⟨RX12, TX12, 54, tyX12, .int, rfl, tyX12_ok, nmX12, rfl, (fun h => by cases h), by decide +kernel, rfl⟩
theorem p_X12_10_7 : hFp "FarHeightsModel" 10 7 0 false := ⟨RX12, TX12, 54, tyX12, .int, rfl, tyX12_ok, nmX12, rfl, (fun h => by cases h), by decide +kernel, rfl⟩
theorem p_X12_10_8 : hFp "FarHeightsModel" 10 8 3 true := ⟨RX12, TX12, 54, tyX12, .array .int, rfl, tyX12_ok, nmX12, rfl, fun _ => rfl, by decide +kernel, Or.inr ⟨_, rfl⟩⟩
theorem p_X12_10_9 : hFp "FarHeightsModel" 10 9 0 false := ⟨RX12, TX12, 54, tyX12, .int, rfl, tyX12_ok, nmX12, rfl, (fun h => by cases h), by decide +kernel, rfl⟩
theorem p_X12_10_10 : hFp "FarHeightsModel" 10 10 3 true := ⟨RX12, TX12, 54, tyX12, .array .int, rfl, tyX12_ok, nmX12, rfl, fun _ => rfl, by decide +kernel, Or.inr ⟨_, rfl⟩⟩
theorem p_X12_10_11 : hFp "FarHeightsModel" 10 11 3 true := ⟨RX12, TX12, 54, tyX12, .array .int, rfl, tyX12_ok, nmX12, rfl, fun _ => rfl, by decide +kernel, Or.inr ⟨_, rfl⟩⟩
theorem p_X12_10_12 : hFp "FarHeightsModel" 10 12 3 true := ⟨RX12, TX12, 54, tyX12, .array .int, rfl, tyX12_ok, nmX12, rfl, fun _ => rfl, by decide +kernel, Or.inr ⟨_, rfl⟩⟩
theorem p_X12_10_13 : hFp "FarHeightsModel" 10 13 3 true := ⟨RX12, TX12, 54, tyX12, .array .int, rfl, tyX12_ok, nmX12, rfl, fun _ => rfl, by decide +kernel, Or.inr ⟨_, rfl⟩⟩
theorem p_X12_10_14 : hFp "FarHeightsModel" 10 14 3 true := ⟨RX12, TX12, 54, tyX12, .array .int, rfl, tyX12_ok, nmX12, rfl, fun _ => rfl, by decide +kernel, Or.inr ⟨_, rfl⟩⟩
theorem p_X12_10_15 : hFp "FarHeightsModel" 10 15 3 true := ⟨RX12, TX12, 54, tyX12, .array .int, rfl, tyX12_ok, nmX12, rfl, fun _ => rfl, by decide +kernel, Or.inr ⟨_, rfl⟩⟩
theorem p_X12_10_16 : hFp "FarHeightsModel" 10 16 0 false := ⟨RX12, TX12, 54, tyX12, .int, rfl, tyX12_ok, nmX12, rfl, (fun h => by cases h), by decide +kernel, rfl⟩
theorem p_X12_10_17 : hFp "FarHeightsModel" 10 17 0 false := ⟨RX12, TX12, 54, tyX12, .int, rfl, tyX12_ok, nmX12, rfl, (fun h => by cases h), by decide +kernel, rfl⟩
theorem p_X12_10_18 : hFp "FarHeightsModel" 10 18 3 true := ⟨RX12, TX12, 54, tyX12, .array .int, rfl, tyX12_ok, nmX12, rfl, fun _ => rfl, by decide +kernel, Or.inr ⟨_, rfl⟩⟩
theorem p_X12_10_19 : hFp "FarHeightsModel" 10 19 3 true := ⟨RX12, TX12, 54, tyX12, .array .int, rfl, tyX12_ok, nmX12, rfl, fun _ => rfl, by decide +kernel, Or.inr ⟨_, rfl⟩⟩
theorem p_X12_10_20 : hFp "FarHeightsModel" 10 20 3 true := ⟨RX12, TX12, 54, tyX12, .array .boolean, rfl, tyX12_ok, nmX12, rfl, fun _ => rfl, by decide +kernel, Or.inr ⟨_, rfl⟩⟩
theorem p_X12_10_21 : hFp "FarHeightsModel" 10 21 3 true := ⟨RX12, TX12, 54, tyX12, .array .int, rfl, tyX12_ok, nmX12, rfl, fun _ => rfl, by decide +kernel, Or.inr ⟨_, rfl⟩⟩
theorem p_X12_10_22 : hFp "FarHeightsModel" 10 22 0 false := ⟨RX12, TX12, 54, tyX12, .int, rfl, tyX12_ok, nmX12, rfl, (fun h => by cases h), by decide +kernel, rfl⟩
theorem p_X12_10_23 : hFp "FarHeightsModel" 10 23 0 false := ⟨RX12, TX12, 54, tyX12, .int, rfl, tyX12_ok, nmX12, rfl, (fun h => by cases h), by decide +kernel, rfl⟩
theorem p_X12_10_24 : hFp "FarHeightsModel" 10 24 0 false := ⟨RX12, TX12, 54, tyX12, .int, rfl, tyX12_ok, nmX12, rfl, (fun h => by cases h), by decide +kernel, rfl⟩
theorem p_X12_10_25 : hFp "FarHeightsModel" 10 25 0 false := ⟨RX12, TX12, 54, tyX12, .int, rfl, tyX12_ok, nmX12, rfl, (fun h => by cases h), by decide +kernel, rfl⟩
theorem p_X12_10_26 : hFp "FarHeightsModel" 10 26 2 false := ⟨RX12, TX12, 54, tyX12, .long, rfl, tyX12_ok, nmX12, rfl, (fun h => by cases h), by decide +kernel, rfl⟩
theorem p_X12_10_27 : hFp "FarHeightsModel" 10 27 0 false := ⟨RX12, TX12, 54, tyX12, .int, rfl, tyX12_ok, nmX12, rfl, (fun h => by cases h), by decide +kernel, rfl⟩
theorem p_X12_10_28 : hFp "FarHeightsModel" 10 28 3 true := ⟨RX12, TX12, 54, tyX12, .array .int, rfl, tyX12_ok, nmX12, rfl, fun _ => rfl, by decide +kernel, Or.inr ⟨_, rfl⟩⟩
theorem p_X12_10_29 : hFp "FarHeightsModel" 10 29 3 true := ⟨RX12, TX12, 54, tyX12, .array .int, rfl, tyX12_ok, nmX12, rfl, fun _ => rfl, by decide +kernel, Or.inr ⟨_, rfl⟩⟩
theorem p_X12_10_30 : hFp "FarHeightsModel" 10 30 3 true := ⟨RX12, TX12, 54, tyX12, .array .int, rfl, tyX12_ok, nmX12, rfl, fun _ => rfl, by decide +kernel, Or.inr ⟨_, rfl⟩⟩
theorem p_X12_10_31 : hFp "FarHeightsModel" 10 31 3 true := ⟨RX12, TX12, 54, tyX12, .array .int, rfl, tyX12_ok, nmX12, rfl, fun _ => rfl, by decide +kernel, Or.inr ⟨_, rfl⟩⟩
theorem p_X12_10_32 : hFp "FarHeightsModel" 10 32 0 false := ⟨RX12, TX12, 54, tyX12, .int, rfl, tyX12_ok, nmX12, rfl, (fun h => by cases h), by decide +kernel, rfl⟩
theorem p_X12_10_33 : hFp "FarHeightsModel" 10 33 0 false := ⟨RX12, TX12, 54, tyX12, .int, rfl, tyX12_ok, nmX12, rfl, (fun h => by cases h), by decide +kernel, rfl⟩
theorem p_X12_10_34 : hFp "FarHeightsModel" 10 34 3 true := ⟨RX12, TX12, 54, tyX12, .array .int, rfl, tyX12_ok, nmX12, rfl, fun _ => rfl, by decide +kernel, Or.inr ⟨_, rfl⟩⟩
theorem p_X12_10_35 : hFp "FarHeightsModel" 10 35 3 true := ⟨RX12, TX12, 54, tyX12, .array .int, rfl, tyX12_ok, nmX12, rfl, fun _ => rfl, by decide +kernel, Or.inr ⟨_, rfl⟩⟩
theorem p_X12_10_36 : hFp "FarHeightsModel" 10 36 3 true := ⟨RX12, TX12, 54, tyX12, .array .int, rfl, tyX12_ok, nmX12, rfl, fun _ => rfl, by decide +kernel, Or.inr ⟨_, rfl⟩⟩
theorem p_X12_10_37 : hFp "FarHeightsModel" 10 37 0 false := ⟨RX12, TX12, 54, tyX12, .int, rfl, tyX12_ok, nmX12, rfl, (fun h => by cases h), by decide +kernel, rfl⟩
theorem p_X12_10_38 : hFp "FarHeightsModel" 10 38 3 true := ⟨RX12, TX12, 54, tyX12, .array .int, rfl, tyX12_ok, nmX12, rfl, fun _ => rfl, by decide +kernel, Or.inr ⟨_, rfl⟩⟩
theorem p_X12_10_39 : hFp "FarHeightsModel" 10 39 3 true := ⟨RX12, TX12, 54, tyX12, .array .int, rfl, tyX12_ok, nmX12, rfl, fun _ => rfl, by decide +kernel, Or.inr ⟨_, rfl⟩⟩
theorem p_X12_10_40 : hFp "FarHeightsModel" 10 40 3 true := ⟨RX12, TX12, 54, tyX12, .array .long, rfl, tyX12_ok, nmX12, rfl, fun _ => rfl, by decide +kernel, Or.inr ⟨_, rfl⟩⟩
theorem p_X12_10_41 : hFp "FarHeightsModel" 10 41 3 true := ⟨RX12, TX12, 54, tyX12, .array .int, rfl, tyX12_ok, nmX12, rfl, fun _ => rfl, by decide +kernel, Or.inr ⟨_, rfl⟩⟩
theorem p_X12_10_42 : hFp "FarHeightsModel" 10 42 3 true := ⟨RX12, TX12, 54, tyX12, .array .int, rfl, tyX12_ok, nmX12, rfl, fun _ => rfl, by decide +kernel, Or.inr ⟨_, rfl⟩⟩
theorem p_X12_10_43 : hFp "FarHeightsModel" 10 43 3 true := ⟨RX12, TX12, 54, tyX12, .array .int, rfl, tyX12_ok, nmX12, rfl, fun _ => rfl, by decide +kernel, Or.inr ⟨_, rfl⟩⟩
theorem p_X12_10_44 : hFp "FarHeightsModel" 10 44 0 false := ⟨RX12, TX12, 54, tyX12, .int, rfl, tyX12_ok, nmX12, rfl, (fun h => by cases h), by decide +kernel, rfl⟩
theorem p_X12_10_45 : hFp "FarHeightsModel" 10 45 0 false := ⟨RX12, TX12, 54, tyX12, .int, rfl, tyX12_ok, nmX12, rfl, (fun h => by cases h), by decide +kernel, rfl⟩
theorem p_X12_10_46 : hFp "FarHeightsModel" 10 46 0 false := ⟨RX12, TX12, 54, tyX12, .int, rfl, tyX12_ok, nmX12, rfl, (fun h => by cases h), by decide +kernel, rfl⟩
theorem p_X12_10_47 : hFp "FarHeightsModel" 10 47 3 true := ⟨RX12, TX12, 54, tyX12, .array .int, rfl, tyX12_ok, nmX12, rfl, fun _ => rfl, by decide +kernel, Or.inr ⟨_, rfl⟩⟩
theorem p_X12_10_48 : hFp "FarHeightsModel" 10 48 0 false := ⟨RX12, TX12, 54, tyX12, .int, rfl, tyX12_ok, nmX12, rfl, (fun h => by cases h), by decide +kernel, rfl⟩
theorem p_X12_10_49 : hFp "FarHeightsModel" 10 49 1 false := ⟨RX12, TX12, 54, tyX12, .boolean, rfl, tyX12_ok, nmX12, rfl, (fun h => by cases h), by decide +kernel, rfl⟩
theorem p_X12_10_50 : hFp "FarHeightsModel" 10 50 1 false := ⟨RX12, TX12, 54, tyX12, .boolean, rfl, tyX12_ok, nmX12, rfl, (fun h => by cases h), by decide +kernel, rfl⟩
theorem p_X12_10_51 : hFp "FarHeightsModel" 10 51 3 true := ⟨RX12, TX12, 54, tyX12, .array .int, rfl, tyX12_ok, nmX12, rfl, fun _ => rfl, by decide +kernel, Or.inr ⟨_, rfl⟩⟩
theorem p_X12_10_52 : hFp "FarHeightsModel" 10 52 0 false := ⟨RX12, TX12, 54, tyX12, .int, rfl, tyX12_ok, nmX12, rfl, (fun h => by cases h), by decide +kernel, rfl⟩
theorem p_X12_10_53 : hFp "FarHeightsModel" 10 53 3 true := ⟨RX12, TX12, 54, tyX12, .array .int, rfl, tyX12_ok, nmX12, rfl, fun _ => rfl, by decide +kernel, Or.inr ⟨_, rfl⟩⟩
theorem cl_L_7 : hCl "FarHeightsLaw" 7 9 18 := ⟨RX11, TX11, tyX11, rfl, hin_X11, tyX11_ok, k1_16, k1_17, k1_1, by
  intro j hj
  match j, hj with
  | 0, _ => exact ⟨_, rfl, rfl⟩
  | 1, _ => exact ⟨_, rfl, rfl⟩
  | 2, _ => exact ⟨_, rfl, rfl⟩
  | 3, _ => exact ⟨_, rfl, rfl⟩
  | 4, _ => exact ⟨_, rfl, rfl⟩
  | 5, _ => exact ⟨_, rfl, rfl⟩
  | 6, _ => exact ⟨_, rfl, rfl⟩
  | 7, _ => exact ⟨_, rfl, rfl⟩
  | 8, _ => exact ⟨_, rfl, rfl⟩
  | 9, _ => exact ⟨_, rfl, rfl⟩
  | 10, _ => exact ⟨_, rfl, rfl⟩
  | 11, _ => exact ⟨_, rfl, rfl⟩
  | 12, _ => exact ⟨_, rfl, rfl⟩
  | 13, _ => exact ⟨_, rfl, rfl⟩
  | 14, _ => exact ⟨_, rfl, rfl⟩
  | 15, _ => exact ⟨_, rfl, rfl⟩
  | 16, _ => exact ⟨_, rfl, rfl⟩
  | 17, _ => exact ⟨_, rfl, rfl⟩
  | j + 18, hj => exact absurd hj (by omega)⟩
theorem cl_X11_7 : hCl "FarHeights" 7 8 16 := ⟨RX10, TX10, tyX10, rfl, hin_X10, tyX10_ok, k1_24, k1_25, k1_2, by
  intro j hj
  match j, hj with
  | 0, _ => exact ⟨_, rfl, rfl⟩
  | 1, _ => exact ⟨_, rfl, rfl⟩
  | 2, _ => exact ⟨_, rfl, rfl⟩
  | 3, _ => exact ⟨_, rfl, rfl⟩
  | 4, _ => exact ⟨_, rfl, rfl⟩
  | 5, _ => exact ⟨_, rfl, rfl⟩
  | 6, _ => exact ⟨_, rfl, rfl⟩
  | 7, _ => exact ⟨_, rfl, rfl⟩
  | 8, _ => exact ⟨_, rfl, rfl⟩
  | 9, _ => exact ⟨_, rfl, rfl⟩
  | 10, _ => exact ⟨_, rfl, rfl⟩
  | 11, _ => exact ⟨_, rfl, rfl⟩
  | 12, _ => exact ⟨_, rfl, rfl⟩
  | 13, _ => exact ⟨_, rfl, rfl⟩
  | 14, _ => exact ⟨_, rfl, rfl⟩
  | 15, _ => exact ⟨_, rfl, rfl⟩
  | j + 16, hj => exact absurd hj (by omega)⟩
theorem cl_X10_9 : hCl "FarHeights$View" 9 5 11 := ⟨RX5, TX5, tyX5, rfl, hin_X5, tyX5_ok, k1_30, k1_31, k1_3, by
  intro j hj
  match j, hj with
  | 0, _ => exact ⟨_, rfl, rfl⟩
  | 1, _ => exact ⟨_, rfl, rfl⟩
  | 2, _ => exact ⟨_, rfl, rfl⟩
  | 3, _ => exact ⟨_, rfl, rfl⟩
  | 4, _ => exact ⟨_, rfl, rfl⟩
  | 5, _ => exact ⟨_, rfl, rfl⟩
  | 6, _ => exact ⟨_, rfl, rfl⟩
  | 7, _ => exact ⟨_, rfl, rfl⟩
  | 8, _ => exact ⟨_, rfl, rfl⟩
  | 9, _ => exact ⟨_, rfl, rfl⟩
  | 10, _ => exact ⟨_, rfl, rfl⟩
  | j + 11, hj => exact absurd hj (by omega)⟩
theorem cl_X10_18 : hCl "FarHeights$View" 18 3 14 := ⟨RX3, TX3, tyX3, rfl, hin_X3, tyX3_ok, k1_82, k1_83, k1_4, by
  intro j hj
  match j, hj with
  | 0, _ => exact ⟨_, rfl, rfl⟩
  | 1, _ => exact ⟨_, rfl, rfl⟩
  | 2, _ => exact ⟨_, rfl, rfl⟩
  | 3, _ => exact ⟨_, rfl, rfl⟩
  | 4, _ => exact ⟨_, rfl, rfl⟩
  | 5, _ => exact ⟨_, rfl, rfl⟩
  | 6, _ => exact ⟨_, rfl, rfl⟩
  | 7, _ => exact ⟨_, rfl, rfl⟩
  | 8, _ => exact ⟨_, rfl, rfl⟩
  | 9, _ => exact ⟨_, rfl, rfl⟩
  | 10, _ => exact ⟨_, rfl, rfl⟩
  | 11, _ => exact ⟨_, rfl, rfl⟩
  | 12, _ => exact ⟨_, rfl, rfl⟩
  | 13, _ => exact ⟨_, rfl, rfl⟩
  | j + 14, hj => exact absurd hj (by omega)⟩
theorem cl_X11_33 : hCl "FarHeights" 33 3 14 := ⟨RX3, TX3, tyX3, rfl, hin_X3, tyX3_ok, k1_195, k1_83, k1_4, by
  intro j hj
  match j, hj with
  | 0, _ => exact ⟨_, rfl, rfl⟩
  | 1, _ => exact ⟨_, rfl, rfl⟩
  | 2, _ => exact ⟨_, rfl, rfl⟩
  | 3, _ => exact ⟨_, rfl, rfl⟩
  | 4, _ => exact ⟨_, rfl, rfl⟩
  | 5, _ => exact ⟨_, rfl, rfl⟩
  | 6, _ => exact ⟨_, rfl, rfl⟩
  | 7, _ => exact ⟨_, rfl, rfl⟩
  | 8, _ => exact ⟨_, rfl, rfl⟩
  | 9, _ => exact ⟨_, rfl, rfl⟩
  | 10, _ => exact ⟨_, rfl, rfl⟩
  | 11, _ => exact ⟨_, rfl, rfl⟩
  | 12, _ => exact ⟨_, rfl, rfl⟩
  | 13, _ => exact ⟨_, rfl, rfl⟩
  | j + 14, hj => exact absurd hj (by omega)⟩
theorem cl_X11_83 : hCl "FarHeights" 83 4 5 := ⟨RX4, TX4, tyX4, rfl, hin_X4, tyX4_ok, k1_199, k1_200, k1_7, by
  intro j hj
  match j, hj with
  | 0, _ => exact ⟨_, rfl, rfl⟩
  | 1, _ => exact ⟨_, rfl, rfl⟩
  | 2, _ => exact ⟨_, rfl, rfl⟩
  | 3, _ => exact ⟨_, rfl, rfl⟩
  | 4, _ => exact ⟨_, rfl, rfl⟩
  | j + 5, hj => exact absurd hj (by omega)⟩
theorem cl_X11_86 : hCl "FarHeights" 86 6 5 := ⟨RX6, TX6, tyX6, rfl, hin_X6, tyX6_ok, k2_35, k2_36, k1_8, by
  intro j hj
  match j, hj with
  | 0, _ => exact ⟨_, rfl, rfl⟩
  | 1, _ => exact ⟨_, rfl, rfl⟩
  | 2, _ => exact ⟨_, rfl, rfl⟩
  | 3, _ => exact ⟨_, rfl, rfl⟩
  | 4, _ => exact ⟨_, rfl, rfl⟩
  | j + 5, hj => exact absurd hj (by omega)⟩
theorem cl_X11_89 : hCl "FarHeights" 89 0 5 := ⟨RX0, TX0, tyX0, rfl, hin_X0, tyX0_ok, k2_47, k2_48, k1_9, by
  intro j hj
  match j, hj with
  | 0, _ => exact ⟨_, rfl, rfl⟩
  | 1, _ => exact ⟨_, rfl, rfl⟩
  | 2, _ => exact ⟨_, rfl, rfl⟩
  | 3, _ => exact ⟨_, rfl, rfl⟩
  | 4, _ => exact ⟨_, rfl, rfl⟩
  | j + 5, hj => exact absurd hj (by omega)⟩
theorem cl_X11_92 : hCl "FarHeights" 92 1 5 := ⟨RX1, TX1, tyX1, rfl, hin_X1, tyX1_ok, k2_59, k2_60, k1_10, by
  intro j hj
  match j, hj with
  | 0, _ => exact ⟨_, rfl, rfl⟩
  | 1, _ => exact ⟨_, rfl, rfl⟩
  | 2, _ => exact ⟨_, rfl, rfl⟩
  | 3, _ => exact ⟨_, rfl, rfl⟩
  | 4, _ => exact ⟨_, rfl, rfl⟩
  | j + 5, hj => exact absurd hj (by omega)⟩
theorem cl_X11_95 : hCl "FarHeights" 95 2 5 := ⟨RX2, TX2, tyX2, rfl, hin_X2, tyX2_ok, k2_71, k2_72, k1_11, by
  intro j hj
  match j, hj with
  | 0, _ => exact ⟨_, rfl, rfl⟩
  | 1, _ => exact ⟨_, rfl, rfl⟩
  | 2, _ => exact ⟨_, rfl, rfl⟩
  | 3, _ => exact ⟨_, rfl, rfl⟩
  | 4, _ => exact ⟨_, rfl, rfl⟩
  | j + 5, hj => exact absurd hj (by omega)⟩
theorem cl_X11_98 : hCl "FarHeights" 98 7 5 := ⟨RX7, TX7, tyX7, rfl, hin_X7, tyX7_ok, k2_83, k2_84, k1_12, by
  intro j hj
  match j, hj with
  | 0, _ => exact ⟨_, rfl, rfl⟩
  | 1, _ => exact ⟨_, rfl, rfl⟩
  | 2, _ => exact ⟨_, rfl, rfl⟩
  | 3, _ => exact ⟨_, rfl, rfl⟩
  | 4, _ => exact ⟨_, rfl, rfl⟩
  | j + 5, hj => exact absurd hj (by omega)⟩
theorem cl_L_10 : hCl "FarHeightsLaw" 10 10 54 := ⟨RX12, TX12, tyX12, rfl, hin_X12, tyX12_ok, k4_238, k4_239, k1_13, by
  intro j hj
  match j, hj with
  | 0, _ => exact ⟨_, rfl, rfl⟩
  | 1, _ => exact ⟨_, rfl, rfl⟩
  | 2, _ => exact ⟨_, rfl, rfl⟩
  | 3, _ => exact ⟨_, rfl, rfl⟩
  | 4, _ => exact ⟨_, rfl, rfl⟩
  | 5, _ => exact ⟨_, rfl, rfl⟩
  | 6, _ => exact ⟨_, rfl, rfl⟩
  | 7, _ => exact ⟨_, rfl, rfl⟩
  | 8, _ => exact ⟨_, rfl, rfl⟩
  | 9, _ => exact ⟨_, rfl, rfl⟩
  | 10, _ => exact ⟨_, rfl, rfl⟩
  | 11, _ => exact ⟨_, rfl, rfl⟩
  | 12, _ => exact ⟨_, rfl, rfl⟩
  | 13, _ => exact ⟨_, rfl, rfl⟩
  | 14, _ => exact ⟨_, rfl, rfl⟩
  | 15, _ => exact ⟨_, rfl, rfl⟩
  | 16, _ => exact ⟨_, rfl, rfl⟩
  | 17, _ => exact ⟨_, rfl, rfl⟩
  | 18, _ => exact ⟨_, rfl, rfl⟩
  | 19, _ => exact ⟨_, rfl, rfl⟩
  | 20, _ => exact ⟨_, rfl, rfl⟩
  | 21, _ => exact ⟨_, rfl, rfl⟩
  | 22, _ => exact ⟨_, rfl, rfl⟩
  | 23, _ => exact ⟨_, rfl, rfl⟩
  | 24, _ => exact ⟨_, rfl, rfl⟩
  | 25, _ => exact ⟨_, rfl, rfl⟩
  | 26, _ => exact ⟨_, rfl, rfl⟩
  | 27, _ => exact ⟨_, rfl, rfl⟩
  | 28, _ => exact ⟨_, rfl, rfl⟩
  | 29, _ => exact ⟨_, rfl, rfl⟩
  | 30, _ => exact ⟨_, rfl, rfl⟩
  | 31, _ => exact ⟨_, rfl, rfl⟩
  | 32, _ => exact ⟨_, rfl, rfl⟩
  | 33, _ => exact ⟨_, rfl, rfl⟩
  | 34, _ => exact ⟨_, rfl, rfl⟩
  | 35, _ => exact ⟨_, rfl, rfl⟩
  | 36, _ => exact ⟨_, rfl, rfl⟩
  | 37, _ => exact ⟨_, rfl, rfl⟩
  | 38, _ => exact ⟨_, rfl, rfl⟩
  | 39, _ => exact ⟨_, rfl, rfl⟩
  | 40, _ => exact ⟨_, rfl, rfl⟩
  | 41, _ => exact ⟨_, rfl, rfl⟩
  | 42, _ => exact ⟨_, rfl, rfl⟩
  | 43, _ => exact ⟨_, rfl, rfl⟩
  | 44, _ => exact ⟨_, rfl, rfl⟩
  | 45, _ => exact ⟨_, rfl, rfl⟩
  | 46, _ => exact ⟨_, rfl, rfl⟩
  | 47, _ => exact ⟨_, rfl, rfl⟩
  | 48, _ => exact ⟨_, rfl, rfl⟩
  | 49, _ => exact ⟨_, rfl, rfl⟩
  | 50, _ => exact ⟨_, rfl, rfl⟩
  | 51, _ => exact ⟨_, rfl, rfl⟩
  | 52, _ => exact ⟨_, rfl, rfl⟩
  | 53, _ => exact ⟨_, rfl, rfl⟩
  | j + 54, hj => exact absurd hj (by omega)⟩
abbrev mX0_init : hM := (⟨"FarHeights$Both", "<init>", "()V"⟩, cX0_init, 1, (none : Option Jvm.ClassFile.FieldType), none)
theorem oX0_init : hOk mX0_init 0 := ⟨k2_51, k1_9, ⟨by decide +kernel, by decide +kernel, by decide +kernel⟩, by decide⟩
theorem oIX0_init : hOkI mX0_init 0 := ⟨oX0_init, k2_50, rfl, rfl⟩
abbrev mX0_leans : hM := (⟨"FarHeights$Both", "leans", "(I)I"⟩, cX0_leans, 2, (some .int), none)
theorem oX0_leans : hOk mX0_leans 1 := ⟨k4_161, k1_9, ⟨by decide +kernel, by decide +kernel, by decide +kernel⟩, by decide⟩
abbrev mX1_init : hM := (⟨"FarHeights$Far", "<init>", "()V"⟩, cX1_init, 1, (none : Option Jvm.ClassFile.FieldType), none)
theorem oX1_init : hOk mX1_init 0 := ⟨k2_63, k1_10, ⟨by decide +kernel, by decide +kernel, by decide +kernel⟩, by decide⟩
theorem oIX1_init : hOkI mX1_init 0 := ⟨oX1_init, k2_62, rfl, rfl⟩
abbrev mX1_sees : hM := (⟨"FarHeights$Far", "sees", "(I)I"⟩, cX1_sees, 2, (some .int), none)
theorem oX1_sees : hOk mX1_sees 1 := ⟨k4_116, k1_10, ⟨by decide +kernel, by decide +kernel, by decide +kernel⟩, by decide⟩
abbrev mX1_tells : hM := (⟨"FarHeights$Far", "tells", "(I)I"⟩, cX1_tells, 2, (some .int), none)
theorem oX1_tells : hOk mX1_tells 1 := ⟨k4_181, k1_10, ⟨by decide +kernel, by decide +kernel, by decide +kernel⟩, by decide⟩
abbrev mX2_init : hM := (⟨"FarHeights$Hidden", "<init>", "()V"⟩, cX2_init, 1, (none : Option Jvm.ClassFile.FieldType), none)
theorem oX2_init : hOk mX2_init 0 := ⟨k2_75, k1_11, ⟨by decide +kernel, by decide +kernel, by decide +kernel⟩, by decide⟩
theorem oIX2_init : hOkI mX2_init 0 := ⟨oX2_init, k2_74, rfl, rfl⟩
abbrev mX2_sees : hM := (⟨"FarHeights$Hidden", "sees", "(I)I"⟩, cX2_sees, 2, (some .int), none)
theorem oX2_sees : hOk mX2_sees 1 := ⟨k4_122, k1_11, ⟨by decide +kernel, by decide +kernel, by decide +kernel⟩, by decide⟩
theorem oVX2_sees : hOkV mX2_sees 1 2 := ⟨oX2_sees, k4_121, k7_105, TX2, 5, rfl⟩
abbrev mX2_bends : hM := (⟨"FarHeights$Hidden", "bends", "(I)I"⟩, cX2_bends, 2, (some .int), none)
theorem oX2_bends : hOk mX2_bends 1 := ⟨k4_145, k1_11, ⟨by decide +kernel, by decide +kernel, by decide +kernel⟩, by decide⟩
abbrev mX3_init : hM := (⟨"FarHeights$Law", "<init>", "()V"⟩, cX3_init, 1, (none : Option Jvm.ClassFile.FieldType), none)
theorem oX3_init : hOk mX3_init 0 := ⟨k1_86, k1_4, ⟨by decide +kernel, by decide +kernel, by decide +kernel⟩, by decide⟩
theorem oIX3_init : hOkI mX3_init 0 := ⟨oX3_init, k1_85, rfl, rfl⟩
abbrev mX3_told : hM := (⟨"FarHeights$Law", "told", "(III)I"⟩, cX3_told, 5, (some .int), none)
theorem oX3_told : hOk mX3_told 3 := ⟨k3_55, k1_4, ⟨by decide +kernel, by decide +kernel, by decide +kernel⟩, by decide⟩
theorem oVX3_told : hOkV mX3_told 3 3 := ⟨oX3_told, k3_53, k3_54, TX3, 14, rfl⟩
abbrev mX3_holds : hM := (⟨"FarHeights$Law", "holds", "(IIII)Z"⟩, cX3_holds, 10, (some .boolean), none)
theorem oX3_holds : hOk mX3_holds 4 := ⟨k3_59, k1_4, ⟨by decide +kernel, by decide +kernel, by decide +kernel⟩, by decide⟩
theorem oVX3_holds : hOkV mX3_holds 4 3 := ⟨oX3_holds, k3_58, hs_7, TX3, 14, rfl⟩
abbrev mX3_asked : hM := (⟨"FarHeights$Law", "asked", "(IIII)I"⟩, cX3_asked, 4, (some .int), none)
theorem oX3_asked : hOk mX3_asked 4 := ⟨k3_62, k1_4, ⟨by decide +kernel, by decide +kernel, by decide +kernel⟩, by decide⟩
theorem oSX3_asked : hOkS mX3_asked 4 := ⟨oX3_asked, k3_61⟩
abbrev mX3_agree : hM := (⟨"FarHeights$Law", "agree", "(III)Z"⟩, cX3_agree, 3, (some .boolean), none)
theorem oX3_agree : hOk mX3_agree 3 := ⟨k3_65, k1_4, ⟨by decide +kernel, by decide +kernel, by decide +kernel⟩, by decide⟩
theorem oSX3_agree : hOkS mX3_agree 3 := ⟨oX3_agree, k3_64⟩
abbrev mX3_readFrom : hM := (⟨"FarHeights$Law", "readFrom", "([BI)I"⟩, cX3_readFrom, 4, (some .int), none)
theorem oX3_readFrom : hOk mX3_readFrom 2 := ⟨k3_203, k1_4, ⟨by decide +kernel, by decide +kernel, by decide +kernel⟩, by decide⟩
theorem oVX3_readFrom : hOkV mX3_readFrom 2 3 := ⟨oX3_readFrom, k3_201, k3_202, TX3, 14, rfl⟩
abbrev mX3_readLine : hM := (⟨"FarHeights$Law", "readLine", "()V"⟩, cX3_readLine, 2, (none : Option Jvm.ClassFile.FieldType), none)
theorem oX3_readLine : hOk mX3_readLine 0 := ⟨k3_211, k1_4, ⟨by decide +kernel, by decide +kernel, by decide +kernel⟩, by decide⟩
theorem oVX3_readLine : hOkV mX3_readLine 0 3 := ⟨oX3_readLine, k3_210, hs_10, TX3, 14, rfl⟩
abbrev mX3_readCond : hM := (⟨"FarHeights$Law", "readCond", "(I)V"⟩, cX3_readCond, 3, (none : Option Jvm.ClassFile.FieldType), none)
theorem oX3_readCond : hOk mX3_readCond 1 := ⟨k3_220, k1_4, ⟨by decide +kernel, by decide +kernel, by decide +kernel⟩, by decide⟩
theorem oVX3_readCond : hOkV mX3_readCond 1 3 := ⟨oX3_readCond, k3_219, hs_12, TX3, 14, rfl⟩
abbrev mX3_readAll : hM := (⟨"FarHeights$Law", "readAll", "(I)V"⟩, cX3_readAll, 3, (none : Option Jvm.ClassFile.FieldType), none)
theorem oX3_readAll : hOk mX3_readAll 1 := ⟨k3_224, k1_4, ⟨by decide +kernel, by decide +kernel, by decide +kernel⟩, by decide⟩
theorem oVX3_readAll : hOkV mX3_readAll 1 3 := ⟨oX3_readAll, k3_223, hs_13, TX3, 14, rfl⟩
abbrev mX3_readOne : hM := (⟨"FarHeights$Law", "readOne", "(I)V"⟩, cX3_readOne, 4, (none : Option Jvm.ClassFile.FieldType), none)
theorem oX3_readOne : hOk mX3_readOne 1 := ⟨k3_228, k1_4, ⟨by decide +kernel, by decide +kernel, by decide +kernel⟩, by decide⟩
theorem oVX3_readOne : hOkV mX3_readOne 1 3 := ⟨oX3_readOne, k3_227, hs_14, TX3, 14, rfl⟩
abbrev mX3_readOpened : hM := (⟨"FarHeights$Law", "readOpened", "(I)V"⟩, cX3_readOpened, 2, (none : Option Jvm.ClassFile.FieldType), none)
theorem oX3_readOpened : hOk mX3_readOpened 1 := ⟨k3_233, k1_4, ⟨by decide +kernel, by decide +kernel, by decide +kernel⟩, by decide⟩
theorem oVX3_readOpened : hOkV mX3_readOpened 1 3 := ⟨oX3_readOpened, k3_232, hs_15, TX3, 14, rfl⟩
abbrev mX3_readComparison : hM := (⟨"FarHeights$Law", "readComparison", "()V"⟩, cX3_readComparison, 4, (none : Option Jvm.ClassFile.FieldType), none)
theorem oX3_readComparison : hOk mX3_readComparison 0 := ⟨k3_237, k1_4, ⟨by decide +kernel, by decide +kernel, by decide +kernel⟩, by decide⟩
theorem oVX3_readComparison : hOkV mX3_readComparison 0 3 := ⟨oX3_readComparison, k3_236, hs_16, TX3, 14, rfl⟩
abbrev mX3_fail : hM := (⟨"FarHeights$Law", "fail", "()V"⟩, cX3_fail, 1, (none : Option Jvm.ClassFile.FieldType), none)
theorem oX3_fail : hOk mX3_fail 0 := ⟨k3_216, k1_4, ⟨by decide +kernel, by decide +kernel, by decide +kernel⟩, by decide⟩
theorem oVX3_fail : hOkV mX3_fail 0 3 := ⟨oX3_fail, k3_215, hs_11, TX3, 14, rfl⟩
abbrev mX3_note : hM := (⟨"FarHeights$Law", "note", "(III)V"⟩, cX3_note, 4, (none : Option Jvm.ClassFile.FieldType), none)
theorem oX3_note : hOk mX3_note 3 := ⟨k4_9, k1_4, ⟨by decide +kernel, by decide +kernel, by decide +kernel⟩, by decide⟩
theorem oVX3_note : hOkV mX3_note 3 3 := ⟨oX3_note, k4_8, hs_18, TX3, 14, rfl⟩
abbrev mX3_isValue : hM := (⟨"FarHeights$Law", "isValue", "()Z"⟩, cX3_isValue, 1, (some .boolean), none)
theorem oX3_isValue : hOk mX3_isValue 0 := ⟨k4_1, k1_4, ⟨by decide +kernel, by decide +kernel, by decide +kernel⟩, by decide⟩
theorem oVX3_isValue : hOkV mX3_isValue 0 3 := ⟨oX3_isValue, k4_0, hs_17, TX3, 14, rfl⟩
abbrev mX3_step : hM := (⟨"FarHeights$Law", "step", "()V"⟩, cX3_step, 5, (none : Option Jvm.ClassFile.FieldType), none)
theorem oX3_step : hOk mX3_step 0 := ⟨k3_207, k1_4, ⟨by decide +kernel, by decide +kernel, by decide +kernel⟩, by decide⟩
theorem oVX3_step : hOkV mX3_step 0 3 := ⟨oX3_step, k3_206, hs_9, TX3, 14, rfl⟩
abbrev mX3_copy : hM := (⟨"FarHeights$Law", "copy", "(LFarHeights$Law;)V"⟩, cX3_copy, 2, (none : Option Jvm.ClassFile.FieldType), none)
theorem oX3_copy : hOk mX3_copy 1 := ⟨k4_14, k1_4, ⟨by decide +kernel, by decide +kernel, by decide +kernel⟩, by decide⟩
theorem oVX3_copy : hOkV mX3_copy 1 3 := ⟨oX3_copy, k4_12, k4_13, TX3, 14, rfl⟩
abbrev mX4_init : hM := (⟨"FarHeights$Morning", "<init>", "()V"⟩, cX4_init, 1, (none : Option Jvm.ClassFile.FieldType), none)
theorem oX4_init : hOk mX4_init 0 := ⟨k1_203, k1_7, ⟨by decide +kernel, by decide +kernel, by decide +kernel⟩, by decide⟩
theorem oIX4_init : hOkI mX4_init 0 := ⟨oX4_init, k1_202, rfl, rfl⟩
abbrev mX4_bends : hM := (⟨"FarHeights$Morning", "bends", "(I)I"⟩, cX4_bends, 2, (some .int), none)
theorem oX4_bends : hOk mX4_bends 1 := ⟨k4_141, k1_7, ⟨by decide +kernel, by decide +kernel, by decide +kernel⟩, by decide⟩
abbrev mX5_init : hM := (⟨"FarHeights$Net", "<init>", "()V"⟩, cX5_init, 1, (none : Option Jvm.ClassFile.FieldType), none)
theorem oX5_init : hOk mX5_init 0 := ⟨k1_34, k1_3, ⟨by decide +kernel, by decide +kernel, by decide +kernel⟩, by decide⟩
theorem oIX5_init : hOkI mX5_init 0 := ⟨oX5_init, k1_33, rfl, rfl⟩
abbrev mX5_hasLevel : hM := (⟨"FarHeights$Net", "hasLevel", "(I)Z"⟩, cX5_hasLevel, 2, (some .boolean), none)
theorem oX5_hasLevel : hOk mX5_hasLevel 1 := ⟨k2_226, k1_3, ⟨by decide +kernel, by decide +kernel, by decide +kernel⟩, by decide⟩
theorem oVX5_hasLevel : hOkV mX5_hasLevel 1 5 := ⟨oX5_hasLevel, k2_224, k2_225, TX5, 11, rfl⟩
abbrev mX5_addStation : hM := (⟨"FarHeights$Net", "addStation", "(I)I"⟩, cX5_addStation, 2, (some .int), none)
theorem oX5_addStation : hOk mX5_addStation 1 := ⟨k2_160, k1_3, ⟨by decide +kernel, by decide +kernel, by decide +kernel⟩, by decide⟩
theorem oVX5_addStation : hOkV mX5_addStation 1 5 := ⟨oX5_addStation, k2_158, k2_159, TX5, 11, rfl⟩
abbrev mX5_addLeg : hM := (⟨"FarHeights$Net", "addLeg", "(IIII)I"⟩, cX5_addLeg, 5, (some .int), none)
theorem oX5_addLeg : hOk mX5_addLeg 4 := ⟨k2_201, k1_3, ⟨by decide +kernel, by decide +kernel, by decide +kernel⟩, by decide⟩
theorem oVX5_addLeg : hOkV mX5_addLeg 4 5 := ⟨oX5_addLeg, k2_199, k2_200, TX5, 11, rfl⟩
abbrev mX5_carry : hM := (⟨"FarHeights$Net", "carry", "()V"⟩, cX5_carry, 2, (none : Option Jvm.ClassFile.FieldType), none)
theorem oX5_carry : hOk mX5_carry 0 := ⟨k2_164, k1_3, ⟨by decide +kernel, by decide +kernel, by decide +kernel⟩, by decide⟩
theorem oVX5_carry : hOkV mX5_carry 0 5 := ⟨oX5_carry, k2_162, k2_163, TX5, 11, rfl⟩
abbrev mX5_doubtsWithEasy : hM := (⟨"FarHeights$Net", "doubtsWithEasy", "(I)I"⟩, cX5_doubtsWithEasy, 4, (some .int), none)
theorem oX5_doubtsWithEasy : hOk mX5_doubtsWithEasy 1 := ⟨k2_235, k1_3, ⟨by decide +kernel, by decide +kernel, by decide +kernel⟩, by decide⟩
theorem oVX5_doubtsWithEasy : hOkV mX5_doubtsWithEasy 1 5 := ⟨oX5_doubtsWithEasy, k2_233, k2_234, TX5, 11, rfl⟩
abbrev mX5_spread : hM := (⟨"FarHeights$Net", "spread", "([II)V"⟩, cX5_spread, 6, (none : Option Jvm.ClassFile.FieldType), none)
theorem oX5_spread : hOk mX5_spread 2 := ⟨k2_168, k1_3, ⟨by decide +kernel, by decide +kernel, by decide +kernel⟩, by decide⟩
theorem oVX5_spread : hOkV mX5_spread 2 5 := ⟨oX5_spread, k2_167, hs_0, TX5, 11, rfl⟩
abbrev mX5_lessen : hM := (⟨"FarHeights$Net", "lessen", "([IIII)V"⟩, cX5_lessen, 5, (none : Option Jvm.ClassFile.FieldType), none)
theorem oX5_lessen : hOk mX5_lessen 4 := ⟨k2_171, k1_3, ⟨by decide +kernel, by decide +kernel, by decide +kernel⟩, by decide⟩
theorem oSX5_lessen : hOkS mX5_lessen 4 := ⟨oX5_lessen, k2_170⟩
abbrev mX5_findLastLeg : hM := (⟨"FarHeights$Net", "findLastLeg", "(I)I"⟩, cX5_findLastLeg, 5, (some .int), none)
theorem oX5_findLastLeg : hOk mX5_findLastLeg 1 := ⟨k2_175, k1_3, ⟨by decide +kernel, by decide +kernel, by decide +kernel⟩, by decide⟩
theorem oVX5_findLastLeg : hOkV mX5_findLastLeg 1 5 := ⟨oX5_findLastLeg, k2_174, hs_1, TX5, 11, rfl⟩
abbrev mX5_otherEnd : hM := (⟨"FarHeights$Net", "otherEnd", "(II)I"⟩, cX5_otherEnd, 3, (some .int), none)
theorem oX5_otherEnd : hOk mX5_otherEnd 2 := ⟨k2_179, k1_3, ⟨by decide +kernel, by decide +kernel, by decide +kernel⟩, by decide⟩
theorem oVX5_otherEnd : hOkV mX5_otherEnd 2 5 := ⟨oX5_otherEnd, k2_178, hs_2, TX5, 11, rfl⟩
abbrev mX5_carriedLevel : hM := (⟨"FarHeights$Net", "carriedLevel", "(I)I"⟩, cX5_carriedLevel, 6, (some .int), none)
theorem oX5_carriedLevel : hOk mX5_carriedLevel 1 := ⟨k2_183, k1_3, ⟨by decide +kernel, by decide +kernel, by decide +kernel⟩, by decide⟩
theorem oVX5_carriedLevel : hOkV mX5_carriedLevel 1 5 := ⟨oX5_carriedLevel, k2_182, hs_3, TX5, 11, rfl⟩
abbrev mX5_copy : hM := (⟨"FarHeights$Net", "copy", "(LFarHeights$Net;)V"⟩, cX5_copy, 2, (none : Option Jvm.ClassFile.FieldType), none)
theorem oX5_copy : hOk mX5_copy 1 := ⟨k4_230, k1_3, ⟨by decide +kernel, by decide +kernel, by decide +kernel⟩, by decide⟩
theorem oVX5_copy : hOkV mX5_copy 1 5 := ⟨oX5_copy, k4_228, k4_229, TX5, 11, rfl⟩
abbrev mX6_init : hM := (⟨"FarHeights$Noon", "<init>", "()V"⟩, cX6_init, 1, (none : Option Jvm.ClassFile.FieldType), none)
theorem oX6_init : hOk mX6_init 0 := ⟨k2_39, k1_8, ⟨by decide +kernel, by decide +kernel, by decide +kernel⟩, by decide⟩
theorem oIX6_init : hOkI mX6_init 0 := ⟨oX6_init, k2_38, rfl, rfl⟩
abbrev mX6_sees : hM := (⟨"FarHeights$Noon", "sees", "(I)I"⟩, cX6_sees, 2, (some .int), none)
theorem oX6_sees : hOk mX6_sees 1 := ⟨k4_125, k1_8, ⟨by decide +kernel, by decide +kernel, by decide +kernel⟩, by decide⟩
abbrev mX7_init : hM := (⟨"FarHeights$Peak", "<init>", "()V"⟩, cX7_init, 1, (none : Option Jvm.ClassFile.FieldType), none)
theorem oX7_init : hOk mX7_init 0 := ⟨k2_87, k1_12, ⟨by decide +kernel, by decide +kernel, by decide +kernel⟩, by decide⟩
theorem oIX7_init : hOkI mX7_init 0 := ⟨oX7_init, k2_86, rfl, rfl⟩
abbrev mX7_sees : hM := (⟨"FarHeights$Peak", "sees", "(I)I"⟩, cX7_sees, 2, (some .int), none)
theorem oX7_sees : hOk mX7_sees 1 := ⟨k4_131, k1_12, ⟨by decide +kernel, by decide +kernel, by decide +kernel⟩, by decide⟩
theorem oVX7_sees : hOkV mX7_sees 1 7 := ⟨oX7_sees, k4_130, k7_106, TX7, 5, rfl⟩
abbrev mX7_bends : hM := (⟨"FarHeights$Peak", "bends", "(I)I"⟩, cX7_bends, 2, (some .int), none)
theorem oX7_bends : hOk mX7_bends 1 := ⟨k4_154, k1_12, ⟨by decide +kernel, by decide +kernel, by decide +kernel⟩, by decide⟩
theorem oVX7_bends : hOkV mX7_bends 1 7 := ⟨oX7_bends, k4_153, k7_113, TX7, 5, rfl⟩
abbrev mX7_leans : hM := (⟨"FarHeights$Peak", "leans", "(I)I"⟩, cX7_leans, 2, (some .int), none)
theorem oX7_leans : hOk mX7_leans 1 := ⟨k4_171, k1_12, ⟨by decide +kernel, by decide +kernel, by decide +kernel⟩, by decide⟩
theorem oVX7_leans : hOkV mX7_leans 1 7 := ⟨oX7_leans, k4_170, k7_114, TX7, 5, rfl⟩
abbrev mX7_tells : hM := (⟨"FarHeights$Peak", "tells", "(I)I"⟩, cX7_tells, 2, (some .int), none)
theorem oX7_tells : hOk mX7_tells 1 := ⟨k4_194, k1_12, ⟨by decide +kernel, by decide +kernel, by decide +kernel⟩, by decide⟩
abbrev mX8_init : hM := (⟨"FarHeights$Sight", "<init>", "()V"⟩, cX8_init, 1, (none : Option Jvm.ClassFile.FieldType), none)
theorem oX8_init : hOk mX8_init 0 := ⟨k1_206, k1_6, ⟨by decide +kernel, by decide +kernel, by decide +kernel⟩, by decide⟩
theorem oIX8_init : hOkI mX8_init 0 := ⟨oX8_init, k1_205, rfl, rfl⟩
abbrev mX8_sees : hM := (⟨"FarHeights$Sight", "sees", "(I)I"⟩, cX8_sees, 2, (some .int), none)
theorem oX8_sees : hOk mX8_sees 1 := ⟨k4_113, k1_6, ⟨by decide +kernel, by decide +kernel, by decide +kernel⟩, by decide⟩
abbrev mX8_bends : hM := (⟨"FarHeights$Sight", "bends", "(I)I"⟩, cX8_bends, 2, (some .int), none)
theorem oX8_bends : hOk mX8_bends 1 := ⟨k4_137, k1_6, ⟨by decide +kernel, by decide +kernel, by decide +kernel⟩, by decide⟩
abbrev mX8_leans : hM := (⟨"FarHeights$Sight", "leans", "(I)I"⟩, cX8_leans, 3, (some .int), none)
theorem oX8_leans : hOk mX8_leans 1 := ⟨k4_164, k1_6, ⟨by decide +kernel, by decide +kernel, by decide +kernel⟩, by decide⟩
abbrev mX8_tells : hM := (⟨"FarHeights$Sight", "tells", "(I)I"⟩, cX8_tells, 2, (some .int), none)
theorem oX8_tells : hOk mX8_tells 1 := ⟨k4_177, k1_6, ⟨by decide +kernel, by decide +kernel, by decide +kernel⟩, by decide⟩
abbrev mX9_init : hM := (⟨"FarHeights$Thing", "<init>", "()V"⟩, cX9_init, 1, (none : Option Jvm.ClassFile.FieldType), none)
theorem oX9_init : hOk mX9_init 0 := ⟨k1_209, k1_5, ⟨by decide +kernel, by decide +kernel, by decide +kernel⟩, by decide⟩
theorem oIX9_init : hOkI mX9_init 0 := ⟨oX9_init, k1_208, rfl, rfl⟩
abbrev mX9_begin : hM := (⟨"FarHeights$Thing", "begin", "(II)V"⟩, cX9_begin, 3, (none : Option Jvm.ClassFile.FieldType), none)
theorem oX9_begin : hOk mX9_begin 2 := ⟨k4_107, k1_5, ⟨by decide +kernel, by decide +kernel, by decide +kernel⟩, by decide⟩
abbrev mX9_body : hM := (⟨"FarHeights$Thing", "body", "(I)I"⟩, cX9_body, 2, (some .int), none)
theorem oX9_body : hOk mX9_body 1 := ⟨k4_210, k1_5, ⟨by decide +kernel, by decide +kernel, by decide +kernel⟩, by decide⟩
abbrev mX10_init : hM := (⟨"FarHeights$View", "<init>", "()V"⟩, cX10_init, 1, (none : Option Jvm.ClassFile.FieldType), none)
theorem oX10_init : hOk mX10_init 0 := ⟨k1_28, k1_2, ⟨by decide +kernel, by decide +kernel, by decide +kernel⟩, by decide⟩
theorem oIX10_init : hOkI mX10_init 0 := ⟨oX10_init, k1_27, rfl, rfl⟩
abbrev mX10_addPoint : hM := (⟨"FarHeights$View", "addPoint", "(II)I"⟩, cX10_addPoint, 3, (some .int), none)
theorem oX10_addPoint : hOk mX10_addPoint 2 := ⟨k3_6, k1_2, ⟨by decide +kernel, by decide +kernel, by decide +kernel⟩, by decide⟩
theorem oVX10_addPoint : hOkV mX10_addPoint 2 8 := ⟨oX10_addPoint, k3_4, k3_5, TX10, 16, rfl⟩
abbrev mX10_addSight : hM := (⟨"FarHeights$View", "addSight", "(IIIII)I"⟩, cX10_addSight, 6, (some .int), none)
theorem oX10_addSight : hOk mX10_addSight 5 := ⟨k3_35, k1_2, ⟨by decide +kernel, by decide +kernel, by decide +kernel⟩, by decide⟩
theorem oVX10_addSight : hOkV mX10_addSight 5 8 := ⟨oX10_addSight, k3_33, k3_34, TX10, 16, rfl⟩
abbrev mX10_away : hM := (⟨"FarHeights$View", "away", "(II)I"⟩, cX10_away, 3, (some .int), none)
theorem oX10_away : hOk mX10_away 2 := ⟨k2_219, k1_2, ⟨by decide +kernel, by decide +kernel, by decide +kernel⟩, by decide⟩
theorem oVX10_away : hOkV mX10_away 2 8 := ⟨oX10_away, k2_217, k2_218, TX10, 16, rfl⟩
abbrev mX10_awayOf : hM := (⟨"FarHeights$View", "awayOf", "(I)I"⟩, cX10_awayOf, 2, (some .int), none)
theorem oX10_awayOf : hOk mX10_awayOf 1 := ⟨k3_51, k1_2, ⟨by decide +kernel, by decide +kernel, by decide +kernel⟩, by decide⟩
theorem oVX10_awayOf : hOkV mX10_awayOf 1 8 := ⟨oX10_awayOf, k3_49, k3_50, TX10, 16, rfl⟩
abbrev mX10_lean : hM := (⟨"FarHeights$View", "lean", "(I)I"⟩, cX10_lean, 6, (some .int), none)
theorem oX10_lean : hOk mX10_lean 1 := ⟨k2_215, k1_2, ⟨by decide +kernel, by decide +kernel, by decide +kernel⟩, by decide⟩
theorem oVX10_lean : hOkV mX10_lean 1 8 := ⟨oX10_lean, k2_213, k2_214, TX10, 16, rfl⟩
abbrev mX10_toldOf : hM := (⟨"FarHeights$View", "toldOf", "(I)I"⟩, cX10_toldOf, 2, (some .int), none)
theorem oX10_toldOf : hOk mX10_toldOf 1 := ⟨k3_47, k1_2, ⟨by decide +kernel, by decide +kernel, by decide +kernel⟩, by decide⟩
theorem oVX10_toldOf : hOkV mX10_toldOf 1 8 := ⟨oX10_toldOf, k3_45, k3_46, TX10, 16, rfl⟩
abbrev mX10_footFrom : hM := (⟨"FarHeights$View", "footFrom", "(IIIII)I"⟩, cX10_footFrom, 9, (some .int), none)
theorem oX10_footFrom : hOk mX10_footFrom 5 := ⟨k3_92, k1_2, ⟨by decide +kernel, by decide +kernel, by decide +kernel⟩, by decide⟩
theorem oVX10_footFrom : hOkV mX10_footFrom 5 8 := ⟨oX10_footFrom, k3_90, k3_91, TX10, 16, rfl⟩
abbrev mX10_reach : hM := (⟨"FarHeights$View", "reach", "(III)I"⟩, cX10_reach, 4, (some .int), none)
theorem oX10_reach : hOk mX10_reach 3 := ⟨k3_102, k1_2, ⟨by decide +kernel, by decide +kernel, by decide +kernel⟩, by decide⟩
theorem oVX10_reach : hOkV mX10_reach 3 8 := ⟨oX10_reach, k3_100, k3_101, TX10, 16, rfl⟩
abbrev mX10_footOf : hM := (⟨"FarHeights$View", "footOf", "(I)I"⟩, cX10_footOf, 2, (some .int), none)
theorem oX10_footOf : hOk mX10_footOf 1 := ⟨k3_88, k1_2, ⟨by decide +kernel, by decide +kernel, by decide +kernel⟩, by decide⟩
theorem oVX10_footOf : hOkV mX10_footOf 1 8 := ⟨oX10_footOf, k3_86, k3_87, TX10, 16, rfl⟩
abbrev mX10_reachOf : hM := (⟨"FarHeights$View", "reachOf", "(I)I"⟩, cX10_reachOf, 2, (some .int), none)
theorem oX10_reachOf : hOk mX10_reachOf 1 := ⟨k3_98, k1_2, ⟨by decide +kernel, by decide +kernel, by decide +kernel⟩, by decide⟩
theorem oVX10_reachOf : hOkV mX10_reachOf 1 8 := ⟨oX10_reachOf, k3_96, k3_97, TX10, 16, rfl⟩
abbrev mX10_isFalse : hM := (⟨"FarHeights$View", "isFalse", "(I)Z"⟩, cX10_isFalse, 2, (some .boolean), none)
theorem oX10_isFalse : hOk mX10_isFalse 1 := ⟨k3_76, k1_2, ⟨by decide +kernel, by decide +kernel, by decide +kernel⟩, by decide⟩
theorem oVX10_isFalse : hOkV mX10_isFalse 1 8 := ⟨oX10_isFalse, k3_74, k3_75, TX10, 16, rfl⟩
abbrev mX10_counts : hM := (⟨"FarHeights$View", "counts", "(I)Z"⟩, cX10_counts, 2, (some .boolean), none)
theorem oX10_counts : hOk mX10_counts 1 := ⟨k3_115, k1_2, ⟨by decide +kernel, by decide +kernel, by decide +kernel⟩, by decide⟩
theorem oVX10_counts : hOkV mX10_counts 1 8 := ⟨oX10_counts, k3_113, k3_114, TX10, 16, rfl⟩
abbrev mX10_countedSights : hM := (⟨"FarHeights$View", "countedSights", "()I"⟩, cX10_countedSights, 3, (some .int), none)
theorem oX10_countedSights : hOk mX10_countedSights 0 := ⟨k4_218, k1_2, ⟨by decide +kernel, by decide +kernel, by decide +kernel⟩, by decide⟩
theorem oVX10_countedSights : hOkV mX10_countedSights 0 8 := ⟨oX10_countedSights, k4_216, k4_217, TX10, 16, rfl⟩
abbrev mX10_measure : hM := (⟨"FarHeights$View", "measure", "(II)I"⟩, cX10_measure, 7, (some .int), none)
theorem oX10_measure : hOk mX10_measure 2 := ⟨k3_111, k1_2, ⟨by decide +kernel, by decide +kernel, by decide +kernel⟩, by decide⟩
theorem oVX10_measure : hOkV mX10_measure 2 8 := ⟨oX10_measure, k3_109, k3_110, TX10, 16, rfl⟩
abbrev mX10_measureAll : hM := (⟨"FarHeights$View", "measureAll", "()Z"⟩, cX10_measureAll, 3, (some .boolean), none)
theorem oX10_measureAll : hOk mX10_measureAll 0 := ⟨k3_157, k1_2, ⟨by decide +kernel, by decide +kernel, by decide +kernel⟩, by decide⟩
theorem oVX10_measureAll : hOkV mX10_measureAll 0 8 := ⟨oX10_measureAll, k3_155, k3_156, TX10, 16, rfl⟩
abbrev mX10_mayBeSeen : hM := (⟨"FarHeights$View", "mayBeSeen", "(IIII)Z"⟩, cX10_mayBeSeen, 7, (some .boolean), none)
theorem oX10_mayBeSeen : hOk mX10_mayBeSeen 4 := ⟨k3_143, k1_2, ⟨by decide +kernel, by decide +kernel, by decide +kernel⟩, by decide⟩
theorem oVX10_mayBeSeen : hOkV mX10_mayBeSeen 4 8 := ⟨oX10_mayBeSeen, k3_141, k3_142, TX10, 16, rfl⟩
abbrev mX10_hides : hM := (⟨"FarHeights$View", "hides", "(III)Z"⟩, cX10_hides, 8, (some .boolean), none)
theorem oX10_hides : hOk mX10_hides 3 := ⟨k3_161, k1_2, ⟨by decide +kernel, by decide +kernel, by decide +kernel⟩, by decide⟩
theorem oVX10_hides : hOkV mX10_hides 3 8 := ⟨oX10_hides, k3_159, k3_160, TX10, 16, rfl⟩
abbrev mX10_waysHighest : hM := (⟨"FarHeights$View", "waysHighest", "(I)J"⟩, cX10_waysHighest, 8, (some .long), none)
theorem oX10_waysHighest : hOk mX10_waysHighest 1 := ⟨k3_172, k1_2, ⟨by decide +kernel, by decide +kernel, by decide +kernel⟩, by decide⟩
theorem oVX10_waysHighest : hOkV mX10_waysHighest 1 8 := ⟨oX10_waysHighest, k3_170, k3_171, TX10, 16, rfl⟩
abbrev mX10_waysInAll : hM := (⟨"FarHeights$View", "waysInAll", "()J"⟩, cX10_waysInAll, 4, (some .long), none)
theorem oX10_waysInAll : hOk mX10_waysInAll 0 := ⟨k3_180, k1_2, ⟨by decide +kernel, by decide +kernel, by decide +kernel⟩, by decide⟩
theorem oVX10_waysInAll : hOkV mX10_waysInAll 0 8 := ⟨oX10_waysInAll, k3_178, k3_179, TX10, 16, rfl⟩
abbrev mX10_feetUpTo : hM := (⟨"FarHeights$View", "feetUpTo", "(II)I"⟩, cX10_feetUpTo, 4, (some .int), none)
theorem oX10_feetUpTo : hOk mX10_feetUpTo 2 := ⟨k3_176, k1_2, ⟨by decide +kernel, by decide +kernel, by decide +kernel⟩, by decide⟩
theorem oVX10_feetUpTo : hOkV mX10_feetUpTo 2 8 := ⟨oX10_feetUpTo, k3_175, hs_8, TX10, 16, rfl⟩
abbrev mX10_copy : hM := (⟨"FarHeights$View", "copy", "(LFarHeights$View;)V"⟩, cX10_copy, 2, (none : Option Jvm.ClassFile.FieldType), none)
theorem oX10_copy : hOk mX10_copy 1 := ⟨k4_226, k1_2, ⟨by decide +kernel, by decide +kernel, by decide +kernel⟩, by decide⟩
theorem oVX10_copy : hOkV mX10_copy 1 8 := ⟨oX10_copy, k4_224, k4_225, TX10, 16, rfl⟩
abbrev mX11_init : hM := (⟨"FarHeights", "<init>", "()V"⟩, cX11_init, 2, (none : Option Jvm.ClassFile.FieldType), none)
theorem oX11_init : hOk mX11_init 0 := ⟨k1_20, k1_1, ⟨by decide +kernel, by decide +kernel, by decide +kernel⟩, by decide⟩
theorem oIX11_init : hOkI mX11_init 0 := ⟨oX11_init, k1_19, rfl, rfl⟩
abbrev mX11_station : hM := (⟨"FarHeights", "station", "(I)I"⟩, cX11_station, 2, (some .int), none)
theorem oX11_station : hOk mX11_station 1 := ⟨k2_153, k1_1, ⟨by decide +kernel, by decide +kernel, by decide +kernel⟩, by decide⟩
theorem oVX11_station : hOkV mX11_station 1 9 := ⟨oX11_station, k2_151, k2_152, TX11, 18, rfl⟩
abbrev mX11_leg : hM := (⟨"FarHeights", "leg", "(IIII)I"⟩, cX11_leg, 5, (some .int), none)
theorem oX11_leg : hOk mX11_leg 4 := ⟨k2_187, k1_1, ⟨by decide +kernel, by decide +kernel, by decide +kernel⟩, by decide⟩
theorem oVX11_leg : hOkV mX11_leg 4 9 := ⟨oX11_leg, k2_185, k2_186, TX11, 18, rfl⟩
abbrev mX11_mend : hM := (⟨"FarHeights", "mend", "(III)I"⟩, cX11_mend, 5, (some .int), none)
theorem oX11_mend : hOk mX11_mend 3 := ⟨k2_205, k1_1, ⟨by decide +kernel, by decide +kernel, by decide +kernel⟩, by decide⟩
theorem oVX11_mend : hOkV mX11_mend 3 9 := ⟨oX11_mend, k2_203, k2_204, TX11, 18, rfl⟩
abbrev mX11_stationOf : hM := (⟨"FarHeights", "stationOf", "(II)I"⟩, cX11_stationOf, 3, (some .int), none)
theorem oX11_stationOf : hOk mX11_stationOf 2 := ⟨k2_211, k1_1, ⟨by decide +kernel, by decide +kernel, by decide +kernel⟩, by decide⟩
theorem oVX11_stationOf : hOkV mX11_stationOf 2 9 := ⟨oX11_stationOf, k2_209, k2_210, TX11, 18, rfl⟩
abbrev mX11_again : hM := (⟨"FarHeights", "again", "()I"⟩, cX11_again, 5, (some .int), none)
theorem oX11_again : hOk mX11_again 0 := ⟨k2_231, k1_1, ⟨by decide +kernel, by decide +kernel, by decide +kernel⟩, by decide⟩
theorem oVX11_again : hOkV mX11_again 0 9 := ⟨oX11_again, k2_229, k2_230, TX11, 18, rfl⟩
abbrev mX11_point : hM := (⟨"FarHeights", "point", "(II)I"⟩, cX11_point, 3, (some .int), none)
theorem oX11_point : hOk mX11_point 2 := ⟨k2_239, k1_1, ⟨by decide +kernel, by decide +kernel, by decide +kernel⟩, by decide⟩
theorem oVX11_point : hOkV mX11_point 2 9 := ⟨oX11_point, k2_237, k2_238, TX11, 18, rfl⟩
abbrev mX11_mass : hM := (⟨"FarHeights", "mass", "(II)I"⟩, cX11_mass, 4, (some .int), none)
theorem oX11_mass : hOk mX11_mass 2 := ⟨k3_10, k1_1, ⟨by decide +kernel, by decide +kernel, by decide +kernel⟩, by decide⟩
theorem oVX11_mass : hOkV mX11_mass 2 9 := ⟨oX11_mass, k3_8, k3_9, TX11, 18, rfl⟩
abbrev mX11_masses : hM := (⟨"FarHeights", "masses", "(I)I"⟩, cX11_masses, 3, (some .int), none)
theorem oX11_masses : hOk mX11_masses 1 := ⟨k3_18, k1_1, ⟨by decide +kernel, by decide +kernel, by decide +kernel⟩, by decide⟩
theorem oVX11_masses : hOkV mX11_masses 1 9 := ⟨oX11_masses, k3_16, k3_17, TX11, 18, rfl⟩
abbrev mX11_sight : hM := (⟨"FarHeights", "sight", "(IIIII)I"⟩, cX11_sight, 6, (some .int), none)
theorem oX11_sight : hOk mX11_sight 5 := ⟨k3_22, k1_1, ⟨by decide +kernel, by decide +kernel, by decide +kernel⟩, by decide⟩
theorem oVX11_sight : hOkV mX11_sight 5 9 := ⟨oX11_sight, k3_20, k3_21, TX11, 18, rfl⟩
abbrev mX11_sightOf : hM := (⟨"FarHeights", "sightOf", "(II)I"⟩, cX11_sightOf, 3, (some .int), none)
theorem oX11_sightOf : hOk mX11_sightOf 2 := ⟨k3_39, k1_1, ⟨by decide +kernel, by decide +kernel, by decide +kernel⟩, by decide⟩
theorem oVX11_sightOf : hOkV mX11_sightOf 2 9 := ⟨oX11_sightOf, k3_37, k3_38, TX11, 18, rfl⟩
abbrev mX11_falls : hM := (⟨"FarHeights", "falls", "(IZ)I"⟩, cX11_falls, 3, (some .int), none)
theorem oX11_falls : hOk mX11_falls 2 := ⟨k3_80, k1_1, ⟨by decide +kernel, by decide +kernel, by decide +kernel⟩, by decide⟩
theorem oVX11_falls : hOkV mX11_falls 2 9 := ⟨oX11_falls, k3_78, k3_79, TX11, 18, rfl⟩
abbrev mX11_foot : hM := (⟨"FarHeights", "foot", "(II)I"⟩, cX11_foot, 4, (some .int), none)
theorem oX11_foot : hOk mX11_foot 2 := ⟨k3_84, k1_1, ⟨by decide +kernel, by decide +kernel, by decide +kernel⟩, by decide⟩
theorem oVX11_foot : hOkV mX11_foot 2 9 := ⟨oX11_foot, k3_82, k3_83, TX11, 18, rfl⟩
abbrev mX11_span : hM := (⟨"FarHeights", "span", "(II)I"⟩, cX11_span, 4, (some .int), none)
theorem oX11_span : hOk mX11_span 2 := ⟨k3_107, k1_1, ⟨by decide +kernel, by decide +kernel, by decide +kernel⟩, by decide⟩
theorem oVX11_span : hOkV mX11_span 2 9 := ⟨oX11_span, k3_105, k3_106, TX11, 18, rfl⟩
abbrev mX11_counted : hM := (⟨"FarHeights", "counted", "(I)I"⟩, cX11_counted, 4, (some .int), none)
theorem oX11_counted : hOk mX11_counted 1 := ⟨k3_130, k1_1, ⟨by decide +kernel, by decide +kernel, by decide +kernel⟩, by decide⟩
theorem oVX11_counted : hOkV mX11_counted 1 9 := ⟨oX11_counted, k3_128, k3_129, TX11, 18, rfl⟩
abbrev mX11_hangs : hM := (⟨"FarHeights", "hangs", "(I)I"⟩, cX11_hangs, 6, (some .int), none)
theorem oX11_hangs : hOk mX11_hangs 1 := ⟨k3_135, k1_1, ⟨by decide +kernel, by decide +kernel, by decide +kernel⟩, by decide⟩
theorem oVX11_hangs : hOkV mX11_hangs 1 9 := ⟨oX11_hangs, k3_133, k3_134, TX11, 18, rfl⟩
abbrev mX11_mayBe : hM := (⟨"FarHeights", "mayBe", "(III)I"⟩, cX11_mayBe, 6, (some .int), none)
theorem oX11_mayBe : hOk mX11_mayBe 3 := ⟨k3_139, k1_1, ⟨by decide +kernel, by decide +kernel, by decide +kernel⟩, by decide⟩
theorem oVX11_mayBe : hOkV mX11_mayBe 3 9 := ⟨oX11_mayBe, k3_137, k3_138, TX11, 18, rfl⟩
abbrev mX11_next : hM := (⟨"FarHeights", "next", "(II)I"⟩, cX11_next, 7, (some .int), none)
theorem oX11_next : hOk mX11_next 2 := ⟨k3_148, k1_1, ⟨by decide +kernel, by decide +kernel, by decide +kernel⟩, by decide⟩
theorem oVX11_next : hOkV mX11_next 2 9 := ⟨oX11_next, k3_146, k3_147, TX11, 18, rfl⟩
abbrev mX11_behind : hM := (⟨"FarHeights", "behind", "(II)I"⟩, cX11_behind, 5, (some .int), none)
theorem oX11_behind : hOk mX11_behind 2 := ⟨k3_153, k1_1, ⟨by decide +kernel, by decide +kernel, by decide +kernel⟩, by decide⟩
theorem oVX11_behind : hOkV mX11_behind 2 9 := ⟨oX11_behind, k3_151, k3_152, TX11, 18, rfl⟩
abbrev mX11_highest : hM := (⟨"FarHeights", "highest", "(II)J"⟩, cX11_highest, 10, (some .long), none)
theorem oX11_highest : hOk mX11_highest 2 := ⟨k3_165, k1_1, ⟨by decide +kernel, by decide +kernel, by decide +kernel⟩, by decide⟩
theorem oVX11_highest : hOkV mX11_highest 2 9 := ⟨oX11_highest, k3_163, k3_164, TX11, 18, rfl⟩
abbrev mX11_said : hM := (⟨"FarHeights", "said", "(I)I"⟩, cX11_said, 4, (some .int), none)
theorem oX11_said : hOk mX11_said 1 := ⟨k3_187, k1_1, ⟨by decide +kernel, by decide +kernel, by decide +kernel⟩, by decide⟩
theorem oVX11_said : hOkV mX11_said 1 9 := ⟨oX11_said, k3_185, k3_186, TX11, 18, rfl⟩
abbrev mX11_believed : hM := (⟨"FarHeights", "believed", "(II)I"⟩, cX11_believed, 3, (some .int), none)
theorem oX11_believed : hOk mX11_believed 2 := ⟨k3_191, k1_1, ⟨by decide +kernel, by decide +kernel, by decide +kernel⟩, by decide⟩
theorem oVX11_believed : hOkV mX11_believed 2 9 := ⟨oX11_believed, k3_189, k3_190, TX11, 18, rfl⟩
abbrev mX11_feed : hM := (⟨"FarHeights", "feed", "(JI)I"⟩, cX11_feed, 5, (some .int), none)
theorem oX11_feed : hOk mX11_feed 2 := ⟨k3_195, k1_1, ⟨by decide +kernel, by decide +kernel, by decide +kernel⟩, by decide⟩
theorem oVX11_feed : hOkV mX11_feed 2 9 := ⟨oX11_feed, k3_193, k3_194, TX11, 18, rfl⟩
abbrev mX11_read : hM := (⟨"FarHeights", "read", "()I"⟩, cX11_read, 2, (some .int), none)
theorem oX11_read : hOk mX11_read 0 := ⟨k3_199, k1_1, ⟨by decide +kernel, by decide +kernel, by decide +kernel⟩, by decide⟩
theorem oVX11_read : hOkV mX11_read 0 9 := ⟨oX11_read, k3_197, k3_198, TX11, 18, rfl⟩
abbrev mX11_prove : hM := (⟨"FarHeights", "prove", "()I"⟩, cX11_prove, 3, (some .int), none)
theorem oX11_prove : hOk mX11_prove 0 := ⟨k4_21, k1_1, ⟨by decide +kernel, by decide +kernel, by decide +kernel⟩, by decide⟩
theorem oVX11_prove : hOkV mX11_prove 0 9 := ⟨oX11_prove, k4_19, k4_20, TX11, 18, rfl⟩
abbrev mX11_row : hM := (⟨"FarHeights", "row", "(II)I"⟩, cX11_row, 3, (some .int), none)
theorem oX11_row : hOk mX11_row 2 := ⟨k4_25, k1_1, ⟨by decide +kernel, by decide +kernel, by decide +kernel⟩, by decide⟩
theorem oVX11_row : hOkV mX11_row 2 9 := ⟨oX11_row, k4_23, k4_24, TX11, 18, rfl⟩
abbrev mX11_alterRow : hM := (⟨"FarHeights", "alterRow", "(III)I"⟩, cX11_alterRow, 5, (some .int), none)
theorem oX11_alterRow : hOk mX11_alterRow 3 := ⟨k4_33, k1_1, ⟨by decide +kernel, by decide +kernel, by decide +kernel⟩, by decide⟩
theorem oVX11_alterRow : hOkV mX11_alterRow 3 9 := ⟨oX11_alterRow, k4_31, k4_32, TX11, 18, rfl⟩
abbrev mX11_judge : hM := (⟨"FarHeights", "judge", "()I"⟩, cX11_judge, 3, (some .int), none)
theorem oX11_judge : hOk mX11_judge 0 := ⟨k4_37, k1_1, ⟨by decide +kernel, by decide +kernel, by decide +kernel⟩, by decide⟩
theorem oVX11_judge : hOkV mX11_judge 0 9 := ⟨oX11_judge, k4_35, k4_36, TX11, 18, rfl⟩
abbrev mX11_sheet : hM := (⟨"FarHeights", "sheet", "(III)I"⟩, cX11_sheet, 5, (some .int), none)
theorem oX11_sheet : hOk mX11_sheet 3 := ⟨k4_45, k1_1, ⟨by decide +kernel, by decide +kernel, by decide +kernel⟩, by decide⟩
theorem oVX11_sheet : hOkV mX11_sheet 3 9 := ⟨oX11_sheet, k4_43, k4_44, TX11, 18, rfl⟩
abbrev mX11_put : hM := (⟨"FarHeights", "put", "(III)I"⟩, cX11_put, 4, (some .int), none)
theorem oX11_put : hOk mX11_put 3 := ⟨k4_52, k1_1, ⟨by decide +kernel, by decide +kernel, by decide +kernel⟩, by decide⟩
theorem oVX11_put : hOkV mX11_put 3 9 := ⟨oX11_put, k4_50, k4_51, TX11, 18, rfl⟩
abbrev mX11_item : hM := (⟨"FarHeights", "item", "(III)I"⟩, cX11_item, 5, (some .int), none)
theorem oX11_item : hOk mX11_item 3 := ⟨k4_59, k1_1, ⟨by decide +kernel, by decide +kernel, by decide +kernel⟩, by decide⟩
theorem oVX11_item : hOkV mX11_item 3 9 := ⟨oX11_item, k4_57, k4_58, TX11, 18, rfl⟩
abbrev mX11_book : hM := (⟨"FarHeights", "book", "(IIII)I"⟩, cX11_book, 9, (some .int), none)
theorem oX11_book : hOk mX11_book 4 := ⟨k4_67, k1_1, ⟨by decide +kernel, by decide +kernel, by decide +kernel⟩, by decide⟩
theorem oVX11_book : hOkV mX11_book 4 9 := ⟨oX11_book, k4_65, k4_66, TX11, 18, rfl⟩
abbrev mX11_shelf : hM := (⟨"FarHeights", "shelf", "(III)I"⟩, cX11_shelf, 7, (some .int), none)
theorem oX11_shelf : hOk mX11_shelf 3 := ⟨k4_71, k1_1, ⟨by decide +kernel, by decide +kernel, by decide +kernel⟩, by decide⟩
theorem oVX11_shelf : hOkV mX11_shelf 3 9 := ⟨oX11_shelf, k4_69, k4_70, TX11, 18, rfl⟩
abbrev mX11_taken : hM := (⟨"FarHeights", "taken", "(II)I"⟩, cX11_taken, 5, (some .int), none)
theorem oX11_taken : hOk mX11_taken 2 := ⟨k4_82, k1_1, ⟨by decide +kernel, by decide +kernel, by decide +kernel⟩, by decide⟩
theorem oVX11_taken : hOkV mX11_taken 2 9 := ⟨oX11_taken, k4_80, k4_81, TX11, 18, rfl⟩
abbrev mX11_act : hM := (⟨"FarHeights", "act", "(III)I"⟩, cX11_act, 6, (some .int), none)
theorem oX11_act : hOk mX11_act 3 := ⟨k4_93, k1_1, ⟨by decide +kernel, by decide +kernel, by decide +kernel⟩, by decide⟩
theorem oVX11_act : hOkV mX11_act 3 9 := ⟨oX11_act, k4_91, k4_92, TX11, 18, rfl⟩
abbrev mX11_trace : hM := (⟨"FarHeights", "trace", "(I)I"⟩, cX11_trace, 2, (some .int), none)
theorem oX11_trace : hOk mX11_trace 1 := ⟨k4_200, k1_1, ⟨by decide +kernel, by decide +kernel, by decide +kernel⟩, by decide⟩
theorem oVX11_trace : hOkV mX11_trace 1 9 := ⟨oX11_trace, k4_198, k4_199, TX11, 18, rfl⟩
abbrev mX11_many : hM := (⟨"FarHeights", "many", "(I)I"⟩, cX11_many, 2, (some .int), none)
theorem oX11_many : hOk mX11_many 1 := ⟨k4_214, k1_1, ⟨by decide +kernel, by decide +kernel, by decide +kernel⟩, by decide⟩
theorem oVX11_many : hOkV mX11_many 1 9 := ⟨oX11_many, k4_212, k4_213, TX11, 18, rfl⟩
abbrev mX11_keep : hM := (⟨"FarHeights", "keep", "()I"⟩, cX11_keep, 1, (some .int), none)
theorem oX11_keep : hOk mX11_keep 0 := ⟨k4_222, k1_1, ⟨by decide +kernel, by decide +kernel, by decide +kernel⟩, by decide⟩
theorem oVX11_keep : hOkV mX11_keep 0 9 := ⟨oX11_keep, k4_220, k4_221, TX11, 18, rfl⟩
abbrev mX11_back : hM := (⟨"FarHeights", "back", "()I"⟩, cX11_back, 1, (some .int), none)
theorem oX11_back : hOk mX11_back 0 := ⟨k4_237, k1_1, ⟨by decide +kernel, by decide +kernel, by decide +kernel⟩, by decide⟩
theorem oVX11_back : hOkV mX11_back 0 9 := ⟨oX11_back, k4_235, k4_236, TX11, 18, rfl⟩
abbrev mX11_within : hM := (⟨"FarHeights", "within", "(III)Z"⟩, cX11_within, 3, (some .boolean), none)
theorem oX11_within : hOk mX11_within 3 := ⟨k2_156, k1_1, ⟨by decide +kernel, by decide +kernel, by decide +kernel⟩, by decide⟩
theorem oSX11_within : hOkS mX11_within 3 := ⟨oX11_within, k2_155⟩
abbrev mX11_isRise : hM := (⟨"FarHeights", "isRise", "(I)Z"⟩, cX11_isRise, 1, (some .boolean), none)
theorem oX11_isRise : hOk mX11_isRise 1 := ⟨k2_194, k1_1, ⟨by decide +kernel, by decide +kernel, by decide +kernel⟩, by decide⟩
theorem oSX11_isRise : hOkS mX11_isRise 1 := ⟨oX11_isRise, k2_193⟩
abbrev mX11_isSlip : hM := (⟨"FarHeights", "isSlip", "(I)Z"⟩, cX11_isSlip, 1, (some .boolean), none)
theorem oX11_isSlip : hOk mX11_isSlip 1 := ⟨k2_197, k1_1, ⟨by decide +kernel, by decide +kernel, by decide +kernel⟩, by decide⟩
theorem oSX11_isSlip : hOkS mX11_isSlip 1 := ⟨oX11_isSlip, k2_196⟩
abbrev mX11_isMass : hM := (⟨"FarHeights", "isMass", "(I)Z"⟩, cX11_isMass, 1, (some .boolean), none)
theorem oX11_isMass : hOk mX11_isMass 1 := ⟨k3_2, k1_1, ⟨by decide +kernel, by decide +kernel, by decide +kernel⟩, by decide⟩
theorem oSX11_isMass : hOkS mX11_isMass 1 := ⟨oX11_isMass, k3_1⟩
abbrev mX11_isKind : hM := (⟨"FarHeights", "isKind", "(I)Z"⟩, cX11_isKind, 1, (some .boolean), none)
theorem oX11_isKind : hOk mX11_isKind 1 := ⟨k3_25, k1_1, ⟨by decide +kernel, by decide +kernel, by decide +kernel⟩, by decide⟩
theorem oSX11_isKind : hOkS mX11_isKind 1 := ⟨oX11_isKind, k3_24⟩
abbrev mX11_isSlant : hM := (⟨"FarHeights", "isSlant", "(I)Z"⟩, cX11_isSlant, 1, (some .boolean), none)
theorem oX11_isSlant : hOk mX11_isSlant 1 := ⟨k3_28, k1_1, ⟨by decide +kernel, by decide +kernel, by decide +kernel⟩, by decide⟩
theorem oSX11_isSlant : hOkS mX11_isSlant 1 := ⟨oX11_isSlant, k3_27⟩
abbrev mX11_isWhen : hM := (⟨"FarHeights", "isWhen", "(I)Z"⟩, cX11_isWhen, 1, (some .boolean), none)
theorem oX11_isWhen : hOk mX11_isWhen 1 := ⟨k3_31, k1_1, ⟨by decide +kernel, by decide +kernel, by decide +kernel⟩, by decide⟩
theorem oSX11_isWhen : hOkS mX11_isWhen 1 := ⟨oX11_isWhen, k3_30⟩
abbrev mX11_isSheet : hM := (⟨"FarHeights", "isSheet", "(I)Z"⟩, cX11_isSheet, 1, (some .boolean), none)
theorem oX11_isSheet : hOk mX11_isSheet 1 := ⟨k4_48, k1_1, ⟨by decide +kernel, by decide +kernel, by decide +kernel⟩, by decide⟩
theorem oSX11_isSheet : hOkS mX11_isSheet 1 := ⟨oX11_isSheet, k4_47⟩
abbrev mX11_isShelf : hM := (⟨"FarHeights", "isShelf", "(I)Z"⟩, cX11_isShelf, 1, (some .boolean), none)
theorem oX11_isShelf : hOk mX11_isShelf 1 := ⟨k4_74, k1_1, ⟨by decide +kernel, by decide +kernel, by decide +kernel⟩, by decide⟩
theorem oSX11_isShelf : hOkS mX11_isShelf 1 := ⟨oX11_isShelf, k4_73⟩
abbrev mX11_isStation : hM := (⟨"FarHeights", "isStation", "(I)Z"⟩, cX11_isStation, 2, (some .boolean), none)
theorem oX11_isStation : hOk mX11_isStation 1 := ⟨k2_191, k1_1, ⟨by decide +kernel, by decide +kernel, by decide +kernel⟩, by decide⟩
theorem oVX11_isStation : hOkV mX11_isStation 1 9 := ⟨oX11_isStation, k2_190, hs_4, TX11, 18, rfl⟩
abbrev mX11_isPoint : hM := (⟨"FarHeights", "isPoint", "(I)Z"⟩, cX11_isPoint, 2, (some .boolean), none)
theorem oX11_isPoint : hOk mX11_isPoint 1 := ⟨k3_14, k1_1, ⟨by decide +kernel, by decide +kernel, by decide +kernel⟩, by decide⟩
theorem oVX11_isPoint : hOkV mX11_isPoint 1 9 := ⟨oX11_isPoint, k3_13, hs_5, TX11, 18, rfl⟩
abbrev mX11_isSight : hM := (⟨"FarHeights", "isSight", "(I)Z"⟩, cX11_isSight, 2, (some .boolean), none)
theorem oX11_isSight : hOk mX11_isSight 1 := ⟨k3_43, k1_1, ⟨by decide +kernel, by decide +kernel, by decide +kernel⟩, by decide⟩
theorem oVX11_isSight : hOkV mX11_isSight 1 9 := ⟨oX11_isSight, k3_42, hs_6, TX11, 18, rfl⟩
abbrev mX11_isRowPart : hM := (⟨"FarHeights", "isRowPart", "(II)Z"⟩, cX11_isRowPart, 3, (some .boolean), none)
theorem oX11_isRowPart : hOk mX11_isRowPart 2 := ⟨k4_29, k1_1, ⟨by decide +kernel, by decide +kernel, by decide +kernel⟩, by decide⟩
theorem oVX11_isRowPart : hOkV mX11_isRowPart 2 9 := ⟨oX11_isRowPart, k4_28, hs_19, TX11, 18, rfl⟩
abbrev mX11_slackOf : hM := (⟨"FarHeights", "slackOf", "(II)I"⟩, cX11_slackOf, 2, (some .int), none)
theorem oX11_slackOf : hOk mX11_slackOf 2 := ⟨k3_72, k1_1, ⟨by decide +kernel, by decide +kernel, by decide +kernel⟩, by decide⟩
theorem oSX11_slackOf : hOkS mX11_slackOf 2 := ⟨oX11_slackOf, k3_71⟩
abbrev mX11_bendOf : hM := (⟨"FarHeights", "bendOf", "(III)I"⟩, cX11_bendOf, 3, (some .int), none)
theorem oX11_bendOf : hOk mX11_bendOf 3 := ⟨k3_69, k1_1, ⟨by decide +kernel, by decide +kernel, by decide +kernel⟩, by decide⟩
theorem oSX11_bendOf : hOkS mX11_bendOf 3 := ⟨oX11_bendOf, k3_68⟩
abbrev mX11_sharedDivisor : hM := (⟨"FarHeights", "sharedDivisor", "(JJ)J"⟩, cX11_sharedDivisor, 11, (some .long), none)
theorem oX11_sharedDivisor : hOk mX11_sharedDivisor 2 := ⟨k3_183, k1_1, ⟨by decide +kernel, by decide +kernel, by decide +kernel⟩, by decide⟩
theorem oSX11_sharedDivisor : hOkS mX11_sharedDivisor 2 := ⟨oX11_sharedDivisor, k3_182⟩
abbrev mX11_isRightRow : hM := (⟨"FarHeights", "isRightRow", "(I)Z"⟩, cX11_isRightRow, 4, (some .boolean), none)
theorem oX11_isRightRow : hOk mX11_isRightRow 1 := ⟨k4_41, k1_1, ⟨by decide +kernel, by decide +kernel, by decide +kernel⟩, by decide⟩
theorem oVX11_isRightRow : hOkV mX11_isRightRow 1 9 := ⟨oX11_isRightRow, k4_40, hs_20, TX11, 18, rfl⟩
abbrev mX11_narrowed : hM := (⟨"FarHeights", "narrowed", "(II)J"⟩, cX11_narrowed, 2, (some .long), none)
theorem oX11_narrowed : hOk mX11_narrowed 2 := ⟨k4_55, k1_1, ⟨by decide +kernel, by decide +kernel, by decide +kernel⟩, by decide⟩
theorem oSX11_narrowed : hOkS mX11_narrowed 2 := ⟨oX11_narrowed, k4_54⟩
abbrev mX11_refusalOfRow : hM := (⟨"FarHeights", "refusalOfRow", "(II)I"⟩, cX11_refusalOfRow, 3, (some .int), none)
theorem oX11_refusalOfRow : hOk mX11_refusalOfRow 2 := ⟨k4_63, k1_1, ⟨by decide +kernel, by decide +kernel, by decide +kernel⟩, by decide⟩
theorem oVX11_refusalOfRow : hOkV mX11_refusalOfRow 2 9 := ⟨oX11_refusalOfRow, k4_62, hs_21, TX11, 18, rfl⟩
abbrev mX11_holdRow : hM := (⟨"FarHeights", "holdRow", "(II)V"⟩, cX11_holdRow, 3, (none : Option Jvm.ClassFile.FieldType), none)
theorem oX11_holdRow : hOk mX11_holdRow 2 := ⟨k4_78, k1_1, ⟨by decide +kernel, by decide +kernel, by decide +kernel⟩, by decide⟩
theorem oVX11_holdRow : hOkV mX11_holdRow 2 9 := ⟨oX11_holdRow, k4_77, hs_22, TX11, 18, rfl⟩
abbrev mX11_kindOn : hM := (⟨"FarHeights", "kindOn", "(I)I"⟩, cX11_kindOn, 3, (some .int), none)
theorem oX11_kindOn : hOk mX11_kindOn 1 := ⟨k4_86, k1_1, ⟨by decide +kernel, by decide +kernel, by decide +kernel⟩, by decide⟩
theorem oVX11_kindOn : hOkV mX11_kindOn 1 9 := ⟨oX11_kindOn, k4_85, hs_23, TX11, 18, rfl⟩
abbrev mX11_isUnder : hM := (⟨"FarHeights", "isUnder", "(II)Z"⟩, cX11_isUnder, 2, (some .boolean), none)
theorem oX11_isUnder : hOk mX11_isUnder 2 := ⟨k4_89, k1_1, ⟨by decide +kernel, by decide +kernel, by decide +kernel⟩, by decide⟩
theorem oSX11_isUnder : hOkS mX11_isUnder 2 := ⟨oX11_isUnder, k4_88⟩
abbrev mX11_thingOn : hM := (⟨"FarHeights", "thingOn", "(I)LFarHeights$Thing;"⟩, cX11_thingOn, 5, (Option.some (Jvm.ClassFile.FieldType.object "FarHeights$Thing")), none)
theorem oX11_thingOn : hOk mX11_thingOn 1 := ⟨k4_97, k1_1, ⟨by decide +kernel, by decide +kernel, by decide +kernel⟩, by decide⟩
theorem oVX11_thingOn : hOkV mX11_thingOn 1 9 := ⟨oX11_thingOn, k4_96, hs_24, TX11, 18, rfl⟩
abbrev mX12_init : hM := (⟨"FarHeightsModel", "<init>", "()V"⟩, cX12_init, 1, (none : Option Jvm.ClassFile.FieldType), none)
theorem oX12_init : hOk mX12_init 0 := ⟨k5_2, k1_13, ⟨by decide +kernel, by decide +kernel, by decide +kernel⟩, by decide⟩
theorem oIX12_init : hOkI mX12_init 0 := ⟨oX12_init, k5_1, rfl, rfl⟩
abbrev mX12_in : hM := (⟨"FarHeightsModel", "in", "(III)Z"⟩, cX12_in, 3, (some .boolean), none)
theorem oX12_in : hOk mX12_in 3 := ⟨k5_174, k1_13, ⟨by decide +kernel, by decide +kernel, by decide +kernel⟩, by decide⟩
theorem oSX12_in : hOkS mX12_in 3 := ⟨oX12_in, k5_173⟩
abbrev mX12_isStation : hM := (⟨"FarHeightsModel", "isStation", "(I)Z"⟩, cX12_isStation, 2, (some .boolean), none)
theorem oX12_isStation : hOk mX12_isStation 1 := ⟨k5_182, k1_13, ⟨by decide +kernel, by decide +kernel, by decide +kernel⟩, by decide⟩
theorem oVX12_isStation : hOkV mX12_isStation 1 10 := ⟨oX12_isStation, k5_181, hs_25, TX12, 54, rfl⟩
abbrev mX12_isPoint : hM := (⟨"FarHeightsModel", "isPoint", "(I)Z"⟩, cX12_isPoint, 2, (some .boolean), none)
theorem oX12_isPoint : hOk mX12_isPoint 1 := ⟨k6_1, k1_13, ⟨by decide +kernel, by decide +kernel, by decide +kernel⟩, by decide⟩
theorem oVX12_isPoint : hOkV mX12_isPoint 1 10 := ⟨oX12_isPoint, k6_0, hs_34, TX12, 54, rfl⟩
abbrev mX12_isSight : hM := (⟨"FarHeightsModel", "isSight", "(I)Z"⟩, cX12_isSight, 2, (some .boolean), none)
theorem oX12_isSight : hOk mX12_isSight 1 := ⟨k6_27, k1_13, ⟨by decide +kernel, by decide +kernel, by decide +kernel⟩, by decide⟩
theorem oVX12_isSight : hOkV mX12_isSight 1 10 := ⟨oX12_isSight, k6_26, hs_36, TX12, 54, rfl⟩
abbrev mX12_station : hM := (⟨"FarHeightsModel", "station", "(I)I"⟩, cX12_station, 2, (some .int), none)
theorem oX12_station : hOk mX12_station 1 := ⟨k5_171, k1_13, ⟨by decide +kernel, by decide +kernel, by decide +kernel⟩, by decide⟩
theorem oVX12_station : hOkV mX12_station 1 10 := ⟨oX12_station, k5_169, k5_170, TX12, 54, rfl⟩
abbrev mX12_leg : hM := (⟨"FarHeightsModel", "leg", "(IIII)I"⟩, cX12_leg, 5, (some .int), none)
theorem oX12_leg : hOk mX12_leg 4 := ⟨k5_178, k1_13, ⟨by decide +kernel, by decide +kernel, by decide +kernel⟩, by decide⟩
theorem oVX12_leg : hOkV mX12_leg 4 10 := ⟨oX12_leg, k5_176, k5_177, TX12, 54, rfl⟩
abbrev mX12_mend : hM := (⟨"FarHeightsModel", "mend", "(III)I"⟩, cX12_mend, 5, (some .int), none)
theorem oX12_mend : hOk mX12_mend 3 := ⟨k5_186, k1_13, ⟨by decide +kernel, by decide +kernel, by decide +kernel⟩, by decide⟩
theorem oVX12_mend : hOkV mX12_mend 3 10 := ⟨oX12_mend, k5_184, k5_185, TX12, 54, rfl⟩
abbrev mX12_nearer : hM := (⟨"FarHeightsModel", "nearer", "(III)V"⟩, cX12_nearer, 4, (none : Option Jvm.ClassFile.FieldType), none)
theorem oX12_nearer : hOk mX12_nearer 3 := ⟨k5_212, k1_13, ⟨by decide +kernel, by decide +kernel, by decide +kernel⟩, by decide⟩
theorem oVX12_nearer : hOkV mX12_nearer 3 10 := ⟨oX12_nearer, k5_211, hs_30, TX12, 54, rfl⟩
abbrev mX12_findDoubts : hM := (⟨"FarHeightsModel", "findDoubts", "()V"⟩, cX12_findDoubts, 3, (none : Option Jvm.ClassFile.FieldType), none)
theorem oX12_findDoubts : hOk mX12_findDoubts 0 := ⟨k5_207, k1_13, ⟨by decide +kernel, by decide +kernel, by decide +kernel⟩, by decide⟩
theorem oVX12_findDoubts : hOkV mX12_findDoubts 0 10 := ⟨oX12_findDoubts, k5_206, hs_29, TX12, 54, rfl⟩
abbrev mX12_hasLevel : hM := (⟨"FarHeightsModel", "hasLevel", "(I)Z"⟩, cX12_hasLevel, 2, (some .boolean), none)
theorem oX12_hasLevel : hOk mX12_hasLevel 1 := ⟨k5_216, k1_13, ⟨by decide +kernel, by decide +kernel, by decide +kernel⟩, by decide⟩
theorem oVX12_hasLevel : hOkV mX12_hasLevel 1 10 := ⟨oX12_hasLevel, k5_215, hs_31, TX12, 54, rfl⟩
abbrev mX12_comes : hM := (⟨"FarHeightsModel", "comes", "(III)Z"⟩, cX12_comes, 5, (some .boolean), none)
theorem oX12_comes : hOk mX12_comes 3 := ⟨k5_220, k1_13, ⟨by decide +kernel, by decide +kernel, by decide +kernel⟩, by decide⟩
theorem oVX12_comes : hOkV mX12_comes 3 10 := ⟨oX12_comes, k5_219, hs_32, TX12, 54, rfl⟩
abbrev mX12_findLevels : hM := (⟨"FarHeightsModel", "findLevels", "()V"⟩, cX12_findLevels, 4, (none : Option Jvm.ClassFile.FieldType), none)
theorem oX12_findLevels : hOk mX12_findLevels 0 := ⟨k5_203, k1_13, ⟨by decide +kernel, by decide +kernel, by decide +kernel⟩, by decide⟩
theorem oVX12_findLevels : hOkV mX12_findLevels 0 10 := ⟨oX12_findLevels, k5_202, hs_28, TX12, 54, rfl⟩
abbrev mX12_leanAt : hM := (⟨"FarHeightsModel", "leanAt", "(I)I"⟩, cX12_leanAt, 6, (some .int), none)
theorem oX12_leanAt : hOk mX12_leanAt 1 := ⟨k5_195, k1_13, ⟨by decide +kernel, by decide +kernel, by decide +kernel⟩, by decide⟩
theorem oVX12_leanAt : hOkV mX12_leanAt 1 10 := ⟨oX12_leanAt, k5_194, hs_26, TX12, 54, rfl⟩
abbrev mX12_stationOf : hM := (⟨"FarHeightsModel", "stationOf", "(II)I"⟩, cX12_stationOf, 3, (some .int), none)
theorem oX12_stationOf : hOk mX12_stationOf 2 := ⟨k5_191, k1_13, ⟨by decide +kernel, by decide +kernel, by decide +kernel⟩, by decide⟩
theorem oVX12_stationOf : hOkV mX12_stationOf 2 10 := ⟨oX12_stationOf, k5_189, k5_190, TX12, 54, rfl⟩
abbrev mX12_allDoubts : hM := (⟨"FarHeightsModel", "allDoubts", "()I"⟩, cX12_allDoubts, 3, (some .int), none)
theorem oX12_allDoubts : hOk mX12_allDoubts 0 := ⟨k5_229, k1_13, ⟨by decide +kernel, by decide +kernel, by decide +kernel⟩, by decide⟩
theorem oVX12_allDoubts : hOkV mX12_allDoubts 0 10 := ⟨oX12_allDoubts, k5_228, hs_33, TX12, 54, rfl⟩
abbrev mX12_again : hM := (⟨"FarHeightsModel", "again", "()I"⟩, cX12_again, 6, (some .int), none)
theorem oX12_again : hOk mX12_again 0 := ⟨k5_225, k1_13, ⟨by decide +kernel, by decide +kernel, by decide +kernel⟩, by decide⟩
theorem oVX12_again : hOkV mX12_again 0 10 := ⟨oX12_again, k5_223, k5_224, TX12, 54, rfl⟩
abbrev mX12_point : hM := (⟨"FarHeightsModel", "point", "(II)I"⟩, cX12_point, 3, (some .int), none)
theorem oX12_point : hOk mX12_point 2 := ⟨k5_233, k1_13, ⟨by decide +kernel, by decide +kernel, by decide +kernel⟩, by decide⟩
theorem oVX12_point : hOkV mX12_point 2 10 := ⟨oX12_point, k5_231, k5_232, TX12, 54, rfl⟩
abbrev mX12_mass : hM := (⟨"FarHeightsModel", "mass", "(II)I"⟩, cX12_mass, 4, (some .int), none)
theorem oX12_mass : hOk mX12_mass 2 := ⟨k5_237, k1_13, ⟨by decide +kernel, by decide +kernel, by decide +kernel⟩, by decide⟩
theorem oVX12_mass : hOkV mX12_mass 2 10 := ⟨oX12_mass, k5_235, k5_236, TX12, 54, rfl⟩
abbrev mX12_masses : hM := (⟨"FarHeightsModel", "masses", "(I)I"⟩, cX12_masses, 3, (some .int), none)
theorem oX12_masses : hOk mX12_masses 1 := ⟨k6_5, k1_13, ⟨by decide +kernel, by decide +kernel, by decide +kernel⟩, by decide⟩
theorem oVX12_masses : hOkV mX12_masses 1 10 := ⟨oX12_masses, k6_3, k6_4, TX12, 54, rfl⟩
abbrev mX12_awayOf : hM := (⟨"FarHeightsModel", "awayOf", "(II)I"⟩, cX12_awayOf, 4, (some .int), none)
theorem oX12_awayOf : hOk mX12_awayOf 2 := ⟨k5_199, k1_13, ⟨by decide +kernel, by decide +kernel, by decide +kernel⟩, by decide⟩
theorem oVX12_awayOf : hOkV mX12_awayOf 2 10 := ⟨oX12_awayOf, k5_198, hs_27, TX12, 54, rfl⟩
abbrev mX12_addSight : hM := (⟨"FarHeightsModel", "addSight", "(IIIIII)I"⟩, cX12_addSight, 8, (some .int), none)
theorem oX12_addSight : hOk mX12_addSight 6 := ⟨k6_19, k1_13, ⟨by decide +kernel, by decide +kernel, by decide +kernel⟩, by decide⟩
theorem oVX12_addSight : hOkV mX12_addSight 6 10 := ⟨oX12_addSight, k6_18, hs_35, TX12, 54, rfl⟩
abbrev mX12_isSlant : hM := (⟨"FarHeightsModel", "isSlant", "(I)Z"⟩, cX12_isSlant, 1, (some .boolean), none)
theorem oX12_isSlant : hOk mX12_isSlant 1 := ⟨k6_12, k1_13, ⟨by decide +kernel, by decide +kernel, by decide +kernel⟩, by decide⟩
theorem oSX12_isSlant : hOkS mX12_isSlant 1 := ⟨oX12_isSlant, k6_11⟩
abbrev mX12_isWhen : hM := (⟨"FarHeightsModel", "isWhen", "(I)Z"⟩, cX12_isWhen, 1, (some .boolean), none)
theorem oX12_isWhen : hOk mX12_isWhen 1 := ⟨k6_15, k1_13, ⟨by decide +kernel, by decide +kernel, by decide +kernel⟩, by decide⟩
theorem oSX12_isWhen : hOkS mX12_isWhen 1 := ⟨oX12_isWhen, k6_14⟩
abbrev mX12_sight : hM := (⟨"FarHeightsModel", "sight", "(IIIII)I"⟩, cX12_sight, 6, (some .int), none)
theorem oX12_sight : hOk mX12_sight 5 := ⟨k6_9, k1_13, ⟨by decide +kernel, by decide +kernel, by decide +kernel⟩, by decide⟩
theorem oVX12_sight : hOkV mX12_sight 5 10 := ⟨oX12_sight, k6_7, k6_8, TX12, 54, rfl⟩
abbrev mX12_bendBy : hM := (⟨"FarHeightsModel", "bendBy", "(III)I"⟩, cX12_bendBy, 4, (some .int), none)
theorem oX12_bendBy : hOk mX12_bendBy 3 := ⟨k6_46, k1_13, ⟨by decide +kernel, by decide +kernel, by decide +kernel⟩, by decide⟩
theorem oVX12_bendBy : hOkV mX12_bendBy 3 10 := ⟨oX12_bendBy, k6_45, hs_40, TX12, 54, rfl⟩
abbrev mX12_slackBy : hM := (⟨"FarHeightsModel", "slackBy", "(II)I"⟩, cX12_slackBy, 2, (some .int), none)
theorem oX12_slackBy : hOk mX12_slackBy 2 := ⟨k6_49, k1_13, ⟨by decide +kernel, by decide +kernel, by decide +kernel⟩, by decide⟩
theorem oSX12_slackBy : hOkS mX12_slackBy 2 := ⟨oX12_slackBy, k6_48⟩
abbrev mX12_toldOf : hM := (⟨"FarHeightsModel", "toldOf", "(I)I"⟩, cX12_toldOf, 3, (some .int), none)
theorem oX12_toldOf : hOk mX12_toldOf 1 := ⟨k6_31, k1_13, ⟨by decide +kernel, by decide +kernel, by decide +kernel⟩, by decide⟩
theorem oVX12_toldOf : hOkV mX12_toldOf 1 10 := ⟨oX12_toldOf, k6_30, hs_37, TX12, 54, rfl⟩
abbrev mX12_sightOf : hM := (⟨"FarHeightsModel", "sightOf", "(II)I"⟩, cX12_sightOf, 4, (some .int), none)
theorem oX12_sightOf : hOk mX12_sightOf 2 := ⟨k6_23, k1_13, ⟨by decide +kernel, by decide +kernel, by decide +kernel⟩, by decide⟩
theorem oVX12_sightOf : hOkV mX12_sightOf 2 10 := ⟨oX12_sightOf, k6_21, k6_22, TX12, 54, rfl⟩
abbrev mX12_falls : hM := (⟨"FarHeightsModel", "falls", "(IZ)I"⟩, cX12_falls, 5, (some .int), none)
theorem oX12_falls : hOk mX12_falls 2 := ⟨k6_53, k1_13, ⟨by decide +kernel, by decide +kernel, by decide +kernel⟩, by decide⟩
theorem oVX12_falls : hOkV mX12_falls 2 10 := ⟨oX12_falls, k6_51, k6_52, TX12, 54, rfl⟩
abbrev mX12_footOf : hM := (⟨"FarHeightsModel", "footOf", "(IIIII)I"⟩, cX12_footOf, 7, (some .int), none)
theorem oX12_footOf : hOk mX12_footOf 5 := ⟨k6_65, k1_13, ⟨by decide +kernel, by decide +kernel, by decide +kernel⟩, by decide⟩
theorem oVX12_footOf : hOkV mX12_footOf 5 10 := ⟨oX12_footOf, k6_64, hs_42, TX12, 54, rfl⟩
abbrev mX12_sightFoot : hM := (⟨"FarHeightsModel", "sightFoot", "(I)I"⟩, cX12_sightFoot, 2, (some .int), none)
theorem oX12_sightFoot : hOk mX12_sightFoot 1 := ⟨k6_61, k1_13, ⟨by decide +kernel, by decide +kernel, by decide +kernel⟩, by decide⟩
theorem oVX12_sightFoot : hOkV mX12_sightFoot 1 10 := ⟨oX12_sightFoot, k6_60, hs_41, TX12, 54, rfl⟩
abbrev mX12_widthOf : hM := (⟨"FarHeightsModel", "widthOf", "(I)I"⟩, cX12_widthOf, 3, (some .int), none)
theorem oX12_widthOf : hOk mX12_widthOf 1 := ⟨k6_69, k1_13, ⟨by decide +kernel, by decide +kernel, by decide +kernel⟩, by decide⟩
theorem oVX12_widthOf : hOkV mX12_widthOf 1 10 := ⟨oX12_widthOf, k6_68, hs_43, TX12, 54, rfl⟩
abbrev mX12_foot : hM := (⟨"FarHeightsModel", "foot", "(II)I"⟩, cX12_foot, 3, (some .int), none)
theorem oX12_foot : hOk mX12_foot 2 := ⟨k6_57, k1_13, ⟨by decide +kernel, by decide +kernel, by decide +kernel⟩, by decide⟩
theorem oVX12_foot : hOkV mX12_foot 2 10 := ⟨oX12_foot, k6_55, k6_56, TX12, 54, rfl⟩
abbrev mX12_counts : hM := (⟨"FarHeightsModel", "counts", "(I)Z"⟩, cX12_counts, 2, (some .boolean), none)
theorem oX12_counts : hOk mX12_counts 1 := ⟨k6_85, k1_13, ⟨by decide +kernel, by decide +kernel, by decide +kernel⟩, by decide⟩
theorem oVX12_counts : hOkV mX12_counts 1 10 := ⟨oX12_counts, k6_84, hs_46, TX12, 54, rfl⟩
abbrev mX12_findSpan : hM := (⟨"FarHeightsModel", "findSpan", "(II)I"⟩, cX12_findSpan, 7, (some .int), none)
theorem oX12_findSpan : hOk mX12_findSpan 2 := ⟨k6_81, k1_13, ⟨by decide +kernel, by decide +kernel, by decide +kernel⟩, by decide⟩
theorem oVX12_findSpan : hOkV mX12_findSpan 2 10 := ⟨oX12_findSpan, k6_80, hs_45, TX12, 54, rfl⟩
abbrev mX12_noSpan : hM := (⟨"FarHeightsModel", "noSpan", "(I)I"⟩, cX12_noSpan, 2, (some .int), none)
theorem oX12_noSpan : hOk mX12_noSpan 1 := ⟨k6_77, k1_13, ⟨by decide +kernel, by decide +kernel, by decide +kernel⟩, by decide⟩
theorem oVX12_noSpan : hOkV mX12_noSpan 1 10 := ⟨oX12_noSpan, k6_76, hs_44, TX12, 54, rfl⟩
abbrev mX12_span : hM := (⟨"FarHeightsModel", "span", "(II)I"⟩, cX12_span, 4, (some .int), none)
theorem oX12_span : hOk mX12_span 2 := ⟨k6_73, k1_13, ⟨by decide +kernel, by decide +kernel, by decide +kernel⟩, by decide⟩
theorem oVX12_span : hOkV mX12_span 2 10 := ⟨oX12_span, k6_71, k6_72, TX12, 54, rfl⟩
abbrev mX12_counted : hM := (⟨"FarHeightsModel", "counted", "(I)I"⟩, cX12_counted, 4, (some .int), none)
theorem oX12_counted : hOk mX12_counted 1 := ⟨k6_90, k1_13, ⟨by decide +kernel, by decide +kernel, by decide +kernel⟩, by decide⟩
theorem oVX12_counted : hOkV mX12_counted 1 10 := ⟨oX12_counted, k6_88, k6_89, TX12, 54, rfl⟩
abbrev mX12_hangs : hM := (⟨"FarHeightsModel", "hangs", "(I)I"⟩, cX12_hangs, 6, (some .int), none)
theorem oX12_hangs : hOk mX12_hangs 1 := ⟨k6_94, k1_13, ⟨by decide +kernel, by decide +kernel, by decide +kernel⟩, by decide⟩
theorem oVX12_hangs : hOkV mX12_hangs 1 10 := ⟨oX12_hangs, k6_92, k6_93, TX12, 54, rfl⟩
abbrev mX12_mayBe : hM := (⟨"FarHeightsModel", "mayBe", "(III)I"⟩, cX12_mayBe, 9, (some .int), none)
theorem oX12_mayBe : hOk mX12_mayBe 3 := ⟨k6_98, k1_13, ⟨by decide +kernel, by decide +kernel, by decide +kernel⟩, by decide⟩
theorem oVX12_mayBe : hOkV mX12_mayBe 3 10 := ⟨oX12_mayBe, k6_96, k6_97, TX12, 54, rfl⟩
abbrev mX12_next : hM := (⟨"FarHeightsModel", "next", "(II)I"⟩, cX12_next, 7, (some .int), none)
theorem oX12_next : hOk mX12_next 2 := ⟨k6_102, k1_13, ⟨by decide +kernel, by decide +kernel, by decide +kernel⟩, by decide⟩
theorem oVX12_next : hOkV mX12_next 2 10 := ⟨oX12_next, k6_100, k6_101, TX12, 54, rfl⟩
abbrev mX12_behind : hM := (⟨"FarHeightsModel", "behind", "(II)I"⟩, cX12_behind, 9, (some .int), none)
theorem oX12_behind : hOk mX12_behind 2 := ⟨k6_106, k1_13, ⟨by decide +kernel, by decide +kernel, by decide +kernel⟩, by decide⟩
theorem oVX12_behind : hOkV mX12_behind 2 10 := ⟨oX12_behind, k6_104, k6_105, TX12, 54, rfl⟩
abbrev mX12_within : hM := (⟨"FarHeightsModel", "within", "(JJ)J"⟩, cX12_within, 4, (some .long), none)
theorem oX12_within : hOk mX12_within 2 := ⟨k6_116, k1_13, ⟨by decide +kernel, by decide +kernel, by decide +kernel⟩, by decide⟩
theorem oSX12_within : hOkS mX12_within 2 := ⟨oX12_within, k6_115⟩
abbrev mX12_highest : hM := (⟨"FarHeightsModel", "highest", "(II)J"⟩, cX12_highest, 14, (some .long), none)
theorem oX12_highest : hOk mX12_highest 2 := ⟨k6_110, k1_13, ⟨by decide +kernel, by decide +kernel, by decide +kernel⟩, by decide⟩
theorem oVX12_highest : hOkV mX12_highest 2 10 := ⟨oX12_highest, k6_108, k6_109, TX12, 54, rfl⟩
abbrev mX12_said : hM := (⟨"FarHeightsModel", "said", "(I)I"⟩, cX12_said, 4, (some .int), none)
theorem oX12_said : hOk mX12_said 1 := ⟨k6_120, k1_13, ⟨by decide +kernel, by decide +kernel, by decide +kernel⟩, by decide⟩
theorem oVX12_said : hOkV mX12_said 1 10 := ⟨oX12_said, k6_118, k6_119, TX12, 54, rfl⟩
abbrev mX12_believed : hM := (⟨"FarHeightsModel", "believed", "(II)I"⟩, cX12_believed, 3, (some .int), none)
theorem oX12_believed : hOk mX12_believed 2 := ⟨k6_124, k1_13, ⟨by decide +kernel, by decide +kernel, by decide +kernel⟩, by decide⟩
theorem oVX12_believed : hOkV mX12_believed 2 10 := ⟨oX12_believed, k6_122, k6_123, TX12, 54, rfl⟩
abbrev mX12_feed : hM := (⟨"FarHeightsModel", "feed", "(JI)I"⟩, cX12_feed, 5, (some .int), none)
theorem oX12_feed : hOk mX12_feed 2 := ⟨k6_128, k1_13, ⟨by decide +kernel, by decide +kernel, by decide +kernel⟩, by decide⟩
theorem oVX12_feed : hOkV mX12_feed 2 10 := ⟨oX12_feed, k6_126, k6_127, TX12, 54, rfl⟩
abbrev mX12_isLetter : hM := (⟨"FarHeightsModel", "isLetter", "(I)Z"⟩, cX12_isLetter, 1, (some .boolean), none)
theorem oX12_isLetter : hOk mX12_isLetter 1 := ⟨k6_140, k1_13, ⟨by decide +kernel, by decide +kernel, by decide +kernel⟩, by decide⟩
theorem oSX12_isLetter : hOkS mX12_isLetter 1 := ⟨oX12_isLetter, k6_139⟩
abbrev mX12_isDigit : hM := (⟨"FarHeightsModel", "isDigit", "(I)Z"⟩, cX12_isDigit, 1, (some .boolean), none)
theorem oX12_isDigit : hOk mX12_isDigit 1 := ⟨k6_145, k1_13, ⟨by decide +kernel, by decide +kernel, by decide +kernel⟩, by decide⟩
theorem oSX12_isDigit : hOkS mX12_isDigit 1 := ⟨oX12_isDigit, k6_144⟩
abbrev mX12_advance : hM := (⟨"FarHeightsModel", "advance", "()V"⟩, cX12_advance, 2, (none : Option Jvm.ClassFile.FieldType), none)
theorem oX12_advance : hOk mX12_advance 0 := ⟨k6_137, k1_13, ⟨by decide +kernel, by decide +kernel, by decide +kernel⟩, by decide⟩
theorem oVX12_advance : hOkV mX12_advance 0 10 := ⟨oX12_advance, k6_136, hs_47, TX12, 54, rfl⟩
abbrev mX12_isGood : hM := (⟨"FarHeightsModel", "isGood", "()Z"⟩, cX12_isGood, 1, (some .boolean), none)
theorem oX12_isGood : hOk mX12_isGood 0 := ⟨k6_151, k1_13, ⟨by decide +kernel, by decide +kernel, by decide +kernel⟩, by decide⟩
theorem oVX12_isGood : hOkV mX12_isGood 0 10 := ⟨oX12_isGood, k6_150, hs_48, TX12, 54, rfl⟩
abbrev mX12_faulty : hM := (⟨"FarHeightsModel", "faulty", "()V"⟩, cX12_faulty, 1, (none : Option Jvm.ClassFile.FieldType), none)
theorem oX12_faulty : hOk mX12_faulty 0 := ⟨k6_164, k1_13, ⟨by decide +kernel, by decide +kernel, by decide +kernel⟩, by decide⟩
theorem oVX12_faulty : hOkV mX12_faulty 0 10 := ⟨oX12_faulty, k6_163, hs_51, TX12, 54, rfl⟩
abbrev mX12_isWord : hM := (⟨"FarHeightsModel", "isWord", "(J)Z"⟩, cX12_isWord, 3, (some .boolean), none)
theorem oX12_isWord : hOk mX12_isWord 1 := ⟨k6_156, k1_13, ⟨by decide +kernel, by decide +kernel, by decide +kernel⟩, by decide⟩
theorem oVX12_isWord : hOkV mX12_isWord 1 10 := ⟨oX12_isWord, k6_155, hs_49, TX12, 54, rfl⟩
abbrev mX12_isMark : hM := (⟨"FarHeightsModel", "isMark", "(I)Z"⟩, cX12_isMark, 2, (some .boolean), none)
theorem oX12_isMark : hOk mX12_isMark 1 := ⟨k6_182, k1_13, ⟨by decide +kernel, by decide +kernel, by decide +kernel⟩, by decide⟩
theorem oVX12_isMark : hOkV mX12_isMark 1 10 := ⟨oX12_isMark, k6_181, hs_55, TX12, 54, rfl⟩
abbrev mX12_want : hM := (⟨"FarHeightsModel", "want", "(Z)V"⟩, cX12_want, 2, (none : Option Jvm.ClassFile.FieldType), none)
theorem oX12_want : hOk mX12_want 1 := ⟨k6_160, k1_13, ⟨by decide +kernel, by decide +kernel, by decide +kernel⟩, by decide⟩
theorem oVX12_want : hOkV mX12_want 1 10 := ⟨oX12_want, k6_159, hs_50, TX12, 54, rfl⟩
abbrev mX12_wantNumber : hM := (⟨"FarHeightsModel", "wantNumber", "(I)I"⟩, cX12_wantNumber, 3, (some .int), none)
theorem oX12_wantNumber : hOk mX12_wantNumber 1 := ⟨k6_168, k1_13, ⟨by decide +kernel, by decide +kernel, by decide +kernel⟩, by decide⟩
theorem oVX12_wantNumber : hOkV mX12_wantNumber 1 10 := ⟨oX12_wantNumber, k6_167, hs_52, TX12, 54, rfl⟩
abbrev mX12_emit : hM := (⟨"FarHeightsModel", "emit", "(I)V"⟩, cX12_emit, 2, (none : Option Jvm.ClassFile.FieldType), none)
theorem oX12_emit : hOk mX12_emit 1 := ⟨k6_202, k1_13, ⟨by decide +kernel, by decide +kernel, by decide +kernel⟩, by decide⟩
theorem oVX12_emit : hOkV mX12_emit 1 10 := ⟨oX12_emit, k6_201, hs_59, TX12, 54, rfl⟩
abbrev mX12_settle : hM := (⟨"FarHeightsModel", "settle", "(I)V"⟩, cX12_settle, 2, (none : Option Jvm.ClassFile.FieldType), none)
theorem oX12_settle : hOk mX12_settle 1 := ⟨k6_206, k1_13, ⟨by decide +kernel, by decide +kernel, by decide +kernel⟩, by decide⟩
theorem oVX12_settle : hOkV mX12_settle 1 10 := ⟨oX12_settle, k6_205, hs_60, TX12, 54, rfl⟩
abbrev mX12_hold : hM := (⟨"FarHeightsModel", "hold", "(I)V"⟩, cX12_hold, 2, (none : Option Jvm.ClassFile.FieldType), none)
theorem oX12_hold : hOk mX12_hold 1 := ⟨k6_178, k1_13, ⟨by decide +kernel, by decide +kernel, by decide +kernel⟩, by decide⟩
theorem oVX12_hold : hOkV mX12_hold 1 10 := ⟨oX12_hold, k6_177, hs_54, TX12, 54, rfl⟩
abbrev mX12_wordHere : hM := (⟨"FarHeightsModel", "wordHere", "()I"⟩, cX12_wordHere, 1, (some .int), none)
theorem oX12_wordHere : hOk mX12_wordHere 0 := ⟨k6_194, k1_13, ⟨by decide +kernel, by decide +kernel, by decide +kernel⟩, by decide⟩
theorem oVX12_wordHere : hOkV mX12_wordHere 0 10 := ⟨oX12_wordHere, k6_193, hs_58, TX12, 54, rfl⟩
abbrev mX12_wantValue : hM := (⟨"FarHeightsModel", "wantValue", "()V"⟩, cX12_wantValue, 3, (none : Option Jvm.ClassFile.FieldType), none)
theorem oX12_wantValue : hOk mX12_wantValue 0 := ⟨k6_190, k1_13, ⟨by decide +kernel, by decide +kernel, by decide +kernel⟩, by decide⟩
theorem oVX12_wantValue : hOkV mX12_wantValue 0 10 := ⟨oX12_wantValue, k6_189, hs_57, TX12, 54, rfl⟩
abbrev mX12_wantAsk : hM := (⟨"FarHeightsModel", "wantAsk", "()V"⟩, cX12_wantAsk, 2, (none : Option Jvm.ClassFile.FieldType), none)
theorem oX12_wantAsk : hOk mX12_wantAsk 0 := ⟨k6_186, k1_13, ⟨by decide +kernel, by decide +kernel, by decide +kernel⟩, by decide⟩
theorem oVX12_wantAsk : hOkV mX12_wantAsk 0 10 := ⟨oX12_wantAsk, k6_185, hs_56, TX12, 54, rfl⟩
abbrev mX12_wantCond : hM := (⟨"FarHeightsModel", "wantCond", "()V"⟩, cX12_wantCond, 5, (none : Option Jvm.ClassFile.FieldType), none)
theorem oX12_wantCond : hOk mX12_wantCond 0 := ⟨k6_173, k1_13, ⟨by decide +kernel, by decide +kernel, by decide +kernel⟩, by decide⟩
theorem oVX12_wantCond : hOkV mX12_wantCond 0 10 := ⟨oX12_wantCond, k6_172, hs_53, TX12, 54, rfl⟩
abbrev mX12_read : hM := (⟨"FarHeightsModel", "read", "()I"⟩, cX12_read, 3, (some .int), none)
theorem oX12_read : hOk mX12_read 0 := ⟨k6_133, k1_13, ⟨by decide +kernel, by decide +kernel, by decide +kernel⟩, by decide⟩
theorem oVX12_read : hOkV mX12_read 0 10 := ⟨oX12_read, k6_131, k6_132, TX12, 54, rfl⟩
abbrev mX12_joined : hM := (⟨"FarHeightsModel", "joined", "(III)I"⟩, cX12_joined, 3, (some .int), none)
theorem oX12_joined : hOk mX12_joined 3 := ⟨k6_42, k1_13, ⟨by decide +kernel, by decide +kernel, by decide +kernel⟩, by decide⟩
theorem oSX12_joined : hOkS mX12_joined 3 := ⟨oX12_joined, k6_41⟩
abbrev mX12_holds : hM := (⟨"FarHeightsModel", "holds", "(I)Z"⟩, cX12_holds, 6, (some .boolean), none)
theorem oX12_holds : hOk mX12_holds 1 := ⟨k6_39, k1_13, ⟨by decide +kernel, by decide +kernel, by decide +kernel⟩, by decide⟩
theorem oVX12_holds : hOkV mX12_holds 1 10 := ⟨oX12_holds, k6_38, hs_39, TX12, 54, rfl⟩
abbrev mX12_toldBy : hM := (⟨"FarHeightsModel", "toldBy", "(IIII)I"⟩, cX12_toldBy, 6, (some .int), none)
theorem oX12_toldBy : hOk mX12_toldBy 4 := ⟨k6_35, k1_13, ⟨by decide +kernel, by decide +kernel, by decide +kernel⟩, by decide⟩
theorem oVX12_toldBy : hOkV mX12_toldBy 4 10 := ⟨oX12_toldBy, k6_34, hs_38, TX12, 54, rfl⟩
abbrev mX12_prove : hM := (⟨"FarHeightsModel", "prove", "()I"⟩, cX12_prove, 2, (some .int), none)
theorem oX12_prove : hOk mX12_prove 0 := ⟨k6_212, k1_13, ⟨by decide +kernel, by decide +kernel, by decide +kernel⟩, by decide⟩
theorem oVX12_prove : hOkV mX12_prove 0 10 := ⟨oX12_prove, k6_210, k6_211, TX12, 54, rfl⟩
abbrev mX12_isRow : hM := (⟨"FarHeightsModel", "isRow", "(II)Z"⟩, cX12_isRow, 3, (some .boolean), none)
theorem oX12_isRow : hOk mX12_isRow 2 := ⟨k6_220, k1_13, ⟨by decide +kernel, by decide +kernel, by decide +kernel⟩, by decide⟩
theorem oVX12_isRow : hOkV mX12_isRow 2 10 := ⟨oX12_isRow, k6_219, hs_61, TX12, 54, rfl⟩
abbrev mX12_row : hM := (⟨"FarHeightsModel", "row", "(II)I"⟩, cX12_row, 3, (some .int), none)
theorem oX12_row : hOk mX12_row 2 := ⟨k6_216, k1_13, ⟨by decide +kernel, by decide +kernel, by decide +kernel⟩, by decide⟩
theorem oVX12_row : hOkV mX12_row 2 10 := ⟨oX12_row, k6_214, k6_215, TX12, 54, rfl⟩
abbrev mX12_alterRow : hM := (⟨"FarHeightsModel", "alterRow", "(III)I"⟩, cX12_alterRow, 5, (some .int), none)
theorem oX12_alterRow : hOk mX12_alterRow 3 := ⟨k6_224, k1_13, ⟨by decide +kernel, by decide +kernel, by decide +kernel⟩, by decide⟩
theorem oVX12_alterRow : hOkV mX12_alterRow 3 10 := ⟨oX12_alterRow, k6_222, k6_223, TX12, 54, rfl⟩
abbrev mX12_judge : hM := (⟨"FarHeightsModel", "judge", "()I"⟩, cX12_judge, 4, (some .int), none)
theorem oX12_judge : hOk mX12_judge 0 := ⟨k6_228, k1_13, ⟨by decide +kernel, by decide +kernel, by decide +kernel⟩, by decide⟩
theorem oVX12_judge : hOkV mX12_judge 0 10 := ⟨oX12_judge, k6_226, k6_227, TX12, 54, rfl⟩
abbrev mX12_isShelf : hM := (⟨"FarHeightsModel", "isShelf", "(I)Z"⟩, cX12_isShelf, 1, (some .boolean), none)
theorem oX12_isShelf : hOk mX12_isShelf 1 := ⟨k6_235, k1_13, ⟨by decide +kernel, by decide +kernel, by decide +kernel⟩, by decide⟩
theorem oSX12_isShelf : hOkS mX12_isShelf 1 := ⟨oX12_isShelf, k6_234⟩
abbrev mX12_sheet : hM := (⟨"FarHeightsModel", "sheet", "(III)I"⟩, cX12_sheet, 5, (some .int), none)
theorem oX12_sheet : hOk mX12_sheet 3 := ⟨k6_232, k1_13, ⟨by decide +kernel, by decide +kernel, by decide +kernel⟩, by decide⟩
theorem oVX12_sheet : hOkV mX12_sheet 3 10 := ⟨oX12_sheet, k6_230, k6_231, TX12, 54, rfl⟩
abbrev mX12_put : hM := (⟨"FarHeightsModel", "put", "(III)I"⟩, cX12_put, 4, (some .int), none)
theorem oX12_put : hOk mX12_put 3 := ⟨k6_239, k1_13, ⟨by decide +kernel, by decide +kernel, by decide +kernel⟩, by decide⟩
theorem oVX12_put : hOkV mX12_put 3 10 := ⟨oX12_put, k6_237, k6_238, TX12, 54, rfl⟩
abbrev mX12_lacksSort : hM := (⟨"FarHeightsModel", "lacksSort", "(II)I"⟩, cX12_lacksSort, 3, (some .int), none)
theorem oX12_lacksSort : hOk mX12_lacksSort 2 := ⟨k7_7, k1_13, ⟨by decide +kernel, by decide +kernel, by decide +kernel⟩, by decide⟩
theorem oVX12_lacksSort : hOkV mX12_lacksSort 2 10 := ⟨oX12_lacksSort, k7_6, hs_62, TX12, 54, rfl⟩
abbrev mX12_item : hM := (⟨"FarHeightsModel", "item", "(III)I"⟩, cX12_item, 5, (some .int), none)
theorem oX12_item : hOk mX12_item 3 := ⟨k7_3, k1_13, ⟨by decide +kernel, by decide +kernel, by decide +kernel⟩, by decide⟩
theorem oVX12_item : hOkV mX12_item 3 10 := ⟨oX12_item, k7_1, k7_2, TX12, 54, rfl⟩
abbrev mX12_book : hM := (⟨"FarHeightsModel", "book", "(IIII)I"⟩, cX12_book, 8, (some .int), none)
theorem oX12_book : hOk mX12_book 4 := ⟨k7_11, k1_13, ⟨by decide +kernel, by decide +kernel, by decide +kernel⟩, by decide⟩
theorem oVX12_book : hOkV mX12_book 4 10 := ⟨oX12_book, k7_9, k7_10, TX12, 54, rfl⟩
abbrev mX12_isThing : hM := (⟨"FarHeightsModel", "isThing", "(II)Z"⟩, cX12_isThing, 3, (some .boolean), none)
theorem oX12_isThing : hOk mX12_isThing 2 := ⟨k7_20, k1_13, ⟨by decide +kernel, by decide +kernel, by decide +kernel⟩, by decide⟩
theorem oVX12_isThing : hOkV mX12_isThing 2 10 := ⟨oX12_isThing, k7_19, hs_63, TX12, 54, rfl⟩
abbrev mX12_shelf : hM := (⟨"FarHeightsModel", "shelf", "(III)I"⟩, cX12_shelf, 4, (some .int), none)
theorem oX12_shelf : hOk mX12_shelf 3 := ⟨k7_16, k1_13, ⟨by decide +kernel, by decide +kernel, by decide +kernel⟩, by decide⟩
theorem oVX12_shelf : hOkV mX12_shelf 3 10 := ⟨oX12_shelf, k7_14, k7_15, TX12, 54, rfl⟩
abbrev mX12_kindOn : hM := (⟨"FarHeightsModel", "kindOn", "(I)I"⟩, cX12_kindOn, 4, (some .int), none)
theorem oX12_kindOn : hOk mX12_kindOn 1 := ⟨k7_28, k1_13, ⟨by decide +kernel, by decide +kernel, by decide +kernel⟩, by decide⟩
theorem oVX12_kindOn : hOkV mX12_kindOn 1 10 := ⟨oX12_kindOn, k7_27, hs_64, TX12, 54, rfl⟩
abbrev mX12_isUnder : hM := (⟨"FarHeightsModel", "isUnder", "(II)Z"⟩, cX12_isUnder, 2, (some .boolean), none)
theorem oX12_isUnder : hOk mX12_isUnder 2 := ⟨k7_31, k1_13, ⟨by decide +kernel, by decide +kernel, by decide +kernel⟩, by decide⟩
theorem oSX12_isUnder : hOkS mX12_isUnder 2 := ⟨oX12_isUnder, k7_30⟩
abbrev mX12_taken : hM := (⟨"FarHeightsModel", "taken", "(II)I"⟩, cX12_taken, 4, (some .int), none)
theorem oX12_taken : hOk mX12_taken 2 := ⟨k7_24, k1_13, ⟨by decide +kernel, by decide +kernel, by decide +kernel⟩, by decide⟩
theorem oVX12_taken : hOkV mX12_taken 2 10 := ⟨oX12_taken, k7_22, k7_23, TX12, 54, rfl⟩
abbrev mX12_ran : hM := (⟨"FarHeightsModel", "ran", "(I)V"⟩, cX12_ran, 2, (none : Option Jvm.ClassFile.FieldType), none)
theorem oX12_ran : hOk mX12_ran 1 := ⟨k7_43, k1_13, ⟨by decide +kernel, by decide +kernel, by decide +kernel⟩, by decide⟩
theorem oVX12_ran : hOkV mX12_ran 1 10 := ⟨oX12_ran, k7_42, hs_66, TX12, 54, rfl⟩
abbrev mX12_seesIt : hM := (⟨"FarHeightsModel", "seesIt", "(I)I"⟩, cX12_seesIt, 3, (some .int), none)
theorem oX12_seesIt : hOk mX12_seesIt 1 := ⟨k7_39, k1_13, ⟨by decide +kernel, by decide +kernel, by decide +kernel⟩, by decide⟩
theorem oVX12_seesIt : hOkV mX12_seesIt 1 10 := ⟨oX12_seesIt, k7_38, hs_65, TX12, 54, rfl⟩
abbrev mX12_sightBends : hM := (⟨"FarHeightsModel", "sightBends", "(I)I"⟩, cX12_sightBends, 2, (some .int), none)
theorem oX12_sightBends : hOk mX12_sightBends 1 := ⟨k7_51, k1_13, ⟨by decide +kernel, by decide +kernel, by decide +kernel⟩, by decide⟩
theorem oVX12_sightBends : hOkV mX12_sightBends 1 10 := ⟨oX12_sightBends, k7_50, hs_68, TX12, 54, rfl⟩
abbrev mX12_bendsIt : hM := (⟨"FarHeightsModel", "bendsIt", "(I)I"⟩, cX12_bendsIt, 3, (some .int), none)
theorem oX12_bendsIt : hOk mX12_bendsIt 1 := ⟨k7_47, k1_13, ⟨by decide +kernel, by decide +kernel, by decide +kernel⟩, by decide⟩
theorem oVX12_bendsIt : hOkV mX12_bendsIt 1 10 := ⟨oX12_bendsIt, k7_46, hs_67, TX12, 54, rfl⟩
abbrev mX12_sightLeans : hM := (⟨"FarHeightsModel", "sightLeans", "(I)I"⟩, cX12_sightLeans, 2, (some .int), none)
theorem oX12_sightLeans : hOk mX12_sightLeans 1 := ⟨k7_59, k1_13, ⟨by decide +kernel, by decide +kernel, by decide +kernel⟩, by decide⟩
theorem oVX12_sightLeans : hOkV mX12_sightLeans 1 10 := ⟨oX12_sightLeans, k7_58, hs_70, TX12, 54, rfl⟩
abbrev mX12_leansIt : hM := (⟨"FarHeightsModel", "leansIt", "(I)I"⟩, cX12_leansIt, 2, (some .int), none)
theorem oX12_leansIt : hOk mX12_leansIt 1 := ⟨k7_55, k1_13, ⟨by decide +kernel, by decide +kernel, by decide +kernel⟩, by decide⟩
theorem oVX12_leansIt : hOkV mX12_leansIt 1 10 := ⟨oX12_leansIt, k7_54, hs_69, TX12, 54, rfl⟩
abbrev mX12_sightTells : hM := (⟨"FarHeightsModel", "sightTells", "(I)I"⟩, cX12_sightTells, 2, (some .int), none)
theorem oX12_sightTells : hOk mX12_sightTells 1 := ⟨k7_67, k1_13, ⟨by decide +kernel, by decide +kernel, by decide +kernel⟩, by decide⟩
theorem oVX12_sightTells : hOkV mX12_sightTells 1 10 := ⟨oX12_sightTells, k7_66, hs_72, TX12, 54, rfl⟩
abbrev mX12_tellsIt : hM := (⟨"FarHeightsModel", "tellsIt", "(I)I"⟩, cX12_tellsIt, 3, (some .int), none)
theorem oX12_tellsIt : hOk mX12_tellsIt 1 := ⟨k7_63, k1_13, ⟨by decide +kernel, by decide +kernel, by decide +kernel⟩, by decide⟩
theorem oVX12_tellsIt : hOkV mX12_tellsIt 1 10 := ⟨oX12_tellsIt, k7_62, hs_71, TX12, 54, rfl⟩
abbrev mX12_act : hM := (⟨"FarHeightsModel", "act", "(III)I"⟩, cX12_act, 5, (some .int), none)
theorem oX12_act : hOk mX12_act 3 := ⟨k7_35, k1_13, ⟨by decide +kernel, by decide +kernel, by decide +kernel⟩, by decide⟩
theorem oVX12_act : hOkV mX12_act 3 10 := ⟨oX12_act, k7_33, k7_34, TX12, 54, rfl⟩
abbrev mX12_trace : hM := (⟨"FarHeightsModel", "trace", "(I)I"⟩, cX12_trace, 2, (some .int), none)
theorem oX12_trace : hOk mX12_trace 1 := ⟨k7_71, k1_13, ⟨by decide +kernel, by decide +kernel, by decide +kernel⟩, by decide⟩
theorem oVX12_trace : hOkV mX12_trace 1 10 := ⟨oX12_trace, k7_69, k7_70, TX12, 54, rfl⟩
abbrev mX12_countedAll : hM := (⟨"FarHeightsModel", "countedAll", "()I"⟩, cX12_countedAll, 3, (some .int), none)
theorem oX12_countedAll : hOk mX12_countedAll 0 := ⟨k7_79, k1_13, ⟨by decide +kernel, by decide +kernel, by decide +kernel⟩, by decide⟩
theorem oVX12_countedAll : hOkV mX12_countedAll 0 10 := ⟨oX12_countedAll, k7_78, hs_73, TX12, 54, rfl⟩
abbrev mX12_many : hM := (⟨"FarHeightsModel", "many", "(I)I"⟩, cX12_many, 2, (some .int), none)
theorem oX12_many : hOk mX12_many 1 := ⟨k7_75, k1_13, ⟨by decide +kernel, by decide +kernel, by decide +kernel⟩, by decide⟩
theorem oVX12_many : hOkV mX12_many 1 10 := ⟨oX12_many, k7_73, k7_74, TX12, 54, rfl⟩
abbrev mX12_move : hM := (⟨"FarHeightsModel", "move", "([IIZ)V"⟩, cX12_move, 5, (none : Option Jvm.ClassFile.FieldType), none)
theorem oX12_move : hOk mX12_move 3 := ⟨k7_91, k1_13, ⟨by decide +kernel, by decide +kernel, by decide +kernel⟩, by decide⟩
theorem oVX12_move : hOkV mX12_move 3 10 := ⟨oX12_move, k7_90, hs_75, TX12, 54, rfl⟩
abbrev mX12_moveAll : hM := (⟨"FarHeightsModel", "moveAll", "(Z)V"⟩, cX12_moveAll, 2, (none : Option Jvm.ClassFile.FieldType), none)
theorem oX12_moveAll : hOk mX12_moveAll 1 := ⟨k7_87, k1_13, ⟨by decide +kernel, by decide +kernel, by decide +kernel⟩, by decide⟩
theorem oVX12_moveAll : hOkV mX12_moveAll 1 10 := ⟨oX12_moveAll, k7_86, hs_74, TX12, 54, rfl⟩
abbrev mX12_keep : hM := (⟨"FarHeightsModel", "keep", "()I"⟩, cX12_keep, 1, (some .int), none)
theorem oX12_keep : hOk mX12_keep 0 := ⟨k7_83, k1_13, ⟨by decide +kernel, by decide +kernel, by decide +kernel⟩, by decide⟩
theorem oVX12_keep : hOkV mX12_keep 0 10 := ⟨oX12_keep, k7_81, k7_82, TX12, 54, rfl⟩
abbrev mX12_back : hM := (⟨"FarHeightsModel", "back", "()I"⟩, cX12_back, 1, (some .int), none)
theorem oX12_back : hOk mX12_back 0 := ⟨k7_95, k1_13, ⟨by decide +kernel, by decide +kernel, by decide +kernel⟩, by decide⟩
theorem oVX12_back : hOkV mX12_back 0 10 := ⟨oX12_back, k7_93, k7_94, TX12, 54, rfl⟩
abbrev mJ9_abs_0f7a4 : hM := (⟨"java/lang/Math", "abs", "(I)I"⟩, cJ9_abs_0f7a4, 1, (some .int), none)
theorem oJ9_abs_0f7a4 : hOk mJ9_abs_0f7a4 1 := ⟨k2_222, k1_14, ⟨by decide +kernel, by decide +kernel, by decide +kernel⟩, by decide⟩
theorem oSJ9_abs_0f7a4 : hOkS mJ9_abs_0f7a4 1 := ⟨oJ9_abs_0f7a4, k2_221⟩
abbrev mJ9_max_7cf53 : hM := (⟨"java/lang/Math", "max", "(II)I"⟩, cJ9_max_7cf53, 2, (some .int), none)
theorem oJ9_max_7cf53 : hOk mJ9_max_7cf53 2 := ⟨k3_122, k1_14, ⟨by decide +kernel, by decide +kernel, by decide +kernel⟩, by decide⟩
theorem oSJ9_max_7cf53 : hOkS mJ9_max_7cf53 2 := ⟨oJ9_max_7cf53, k3_121⟩
abbrev mJ9_min_7cf53 : hM := (⟨"java/lang/Math", "min", "(II)I"⟩, cJ9_min_7cf53, 2, (some .int), none)
theorem oJ9_min_7cf53 : hOk mJ9_min_7cf53 2 := ⟨k3_125, k1_14, ⟨by decide +kernel, by decide +kernel, by decide +kernel⟩, by decide⟩
theorem oSJ9_min_7cf53 : hOkS mJ9_min_7cf53 2 := ⟨oJ9_min_7cf53, k3_124⟩

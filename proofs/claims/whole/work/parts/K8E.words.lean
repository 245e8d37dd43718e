/-! words of the tables, by their places -/
theorem wi_0 : mm_in (.selects "ScreenTalk$Inspection" ⟨"ScreenTalk$Inspection", "note", "(II)V"⟩ ⟨"ScreenTalk$Inspection", "note", "(II)V"⟩) := ⟨List.mem_of_getElem? (i := 0) (by decide +kernel), by decide +kernel⟩
theorem wi_1 : mm_in (.selects "ScreenTalk$Inspection" ⟨"ScreenTalk$Inspection", "inspectHead", "(LScreenTalk$Bytes;I)V"⟩ ⟨"ScreenTalk$Inspection", "inspectHead", "(LScreenTalk$Bytes;I)V"⟩) := ⟨List.mem_of_getElem? (i := 1) (by decide +kernel), by decide +kernel⟩
theorem wi_2 : mm_in (.selects "ScreenTalk$Inspection" ⟨"ScreenTalk$Inspection", "inspectExtension", "(LScreenTalk$Bytes;I)V"⟩ ⟨"ScreenTalk$Inspection", "inspectExtension", "(LScreenTalk$Bytes;I)V"⟩) := ⟨List.mem_of_getElem? (i := 2) (by decide +kernel), by decide +kernel⟩
theorem wi_3 : mm_in (.selects "ScreenTalk$Screen" ⟨"ScreenTalk$Screen", "readBaseDescriptor", "(I)V"⟩ ⟨"ScreenTalk$Screen", "readBaseDescriptor", "(I)V"⟩) := ⟨List.mem_of_getElem? (i := 3) (by decide +kernel), by decide +kernel⟩
theorem wi_4 : mm_in (.selects "ScreenTalk$Screen" ⟨"ScreenTalk$Screen", "hasClock", "(I)Z"⟩ ⟨"ScreenTalk$Screen", "hasClock", "(I)Z"⟩) := ⟨List.mem_of_getElem? (i := 4) (by decide +kernel), by decide +kernel⟩
theorem wi_5 : mm_in (.selects "ScreenTalk$Screen" ⟨"ScreenTalk$Screen", "addDetailed", "(I)V"⟩ ⟨"ScreenTalk$Screen", "addDetailed", "(I)V"⟩) := ⟨List.mem_of_getElem? (i := 5) (by decide +kernel), by decide +kernel⟩
theorem wi_6 : mm_in (.selects "ScreenTalk$Screen" ⟨"ScreenTalk$Screen", "readName", "(I)V"⟩ ⟨"ScreenTalk$Screen", "readName", "(I)V"⟩) := ⟨List.mem_of_getElem? (i := 6) (by decide +kernel), by decide +kernel⟩
theorem wi_7 : mm_in (.selects "ScreenTalk$Screen" ⟨"ScreenTalk$Screen", "readRange", "(I)V"⟩ ⟨"ScreenTalk$Screen", "readRange", "(I)V"⟩) := ⟨List.mem_of_getElem? (i := 7) (by decide +kernel), by decide +kernel⟩
theorem wi_8 : mm_in (.selects "ScreenTalk$Screen" ⟨"ScreenTalk$Screen", "readData", "(II)V"⟩ ⟨"ScreenTalk$Screen", "readData", "(II)V"⟩) := ⟨List.mem_of_getElem? (i := 8) (by decide +kernel), by decide +kernel⟩
theorem wi_9 : mm_in (.selects "ScreenTalk$Screen" ⟨"ScreenTalk$Screen", "readCodes", "(II)V"⟩ ⟨"ScreenTalk$Screen", "readCodes", "(II)V"⟩) := ⟨List.mem_of_getElem? (i := 9) (by decide +kernel), by decide +kernel⟩
theorem wi_10 : mm_in (.selects "ScreenTalk$Screen" ⟨"ScreenTalk$Screen", "readMost", "(I)V"⟩ ⟨"ScreenTalk$Screen", "readMost", "(I)V"⟩) := ⟨List.mem_of_getElem? (i := 10) (by decide +kernel), by decide +kernel⟩
theorem wi_11 : mm_in (.selects "ScreenTalk$Screen" ⟨"ScreenTalk$Screen", "readDetailedFrom", "(II)V"⟩ ⟨"ScreenTalk$Screen", "readDetailedFrom", "(II)V"⟩) := ⟨List.mem_of_getElem? (i := 11) (by decide +kernel), by decide +kernel⟩
theorem wi_12 : mm_in (.selects "ScreenTalk$ModeList" ⟨"ScreenTalk$ModeList", "offer", "(LScreenTalk$Screen;IZ)V"⟩ ⟨"ScreenTalk$ModeList", "offer", "(LScreenTalk$Screen;IZ)V"⟩) := ⟨List.mem_of_getElem? (i := 12) (by decide +kernel), by decide +kernel⟩
theorem wi_13 : mm_in (.selects "ScreenTalk$ModeList" ⟨"ScreenTalk$ModeList", "whyLeftOut", "(LScreenTalk$Screen;)I"⟩ ⟨"ScreenTalk$ModeList", "whyLeftOut", "(LScreenTalk$Screen;)I"⟩) := ⟨List.mem_of_getElem? (i := 13) (by decide +kernel), by decide +kernel⟩
theorem wi_14 : mm_in (.selects "ScreenTalk$ModeList" ⟨"ScreenTalk$ModeList", "insert", "(IZ)V"⟩ ⟨"ScreenTalk$ModeList", "insert", "(IZ)V"⟩) := ⟨List.mem_of_getElem? (i := 14) (by decide +kernel), by decide +kernel⟩
theorem wi_15 : mm_in (.selects "ScreenTalk$ModeList" ⟨"ScreenTalk$ModeList", "offerCode", "(LScreenTalk$Screen;I)V"⟩ ⟨"ScreenTalk$ModeList", "offerCode", "(LScreenTalk$Screen;I)V"⟩) := ⟨List.mem_of_getElem? (i := 15) (by decide +kernel), by decide +kernel⟩
theorem wi_16 : mm_in (.selects "ScreenTalk$ModeList" ⟨"ScreenTalk$ModeList", "offerStandard", "(LScreenTalk$Screen;II)V"⟩ ⟨"ScreenTalk$ModeList", "offerStandard", "(LScreenTalk$Screen;II)V"⟩) := ⟨List.mem_of_getElem? (i := 16) (by decide +kernel), by decide +kernel⟩
theorem wi_17 : mm_in (.selects "ScreenTalk$Forge" ⟨"ScreenTalk$Forge", "putTiming", "(ILScreenTalk$Timing;)V"⟩ ⟨"ScreenTalk$Forge", "putTiming", "(ILScreenTalk$Timing;)V"⟩) := ⟨List.mem_of_getElem? (i := 17) (by decide +kernel), by decide +kernel⟩
theorem wi_18 : mm_in (.selects "ScreenTalk$Forge" ⟨"ScreenTalk$Forge", "put", "(III)V"⟩ ⟨"ScreenTalk$Forge", "put", "(III)V"⟩) := ⟨List.mem_of_getElem? (i := 18) (by decide +kernel), by decide +kernel⟩
theorem wi_19 : mm_in (.selects "ScreenTalk$Forge" ⟨"ScreenTalk$Forge", "putName", "(ILScreenTalk$Screen;)V"⟩ ⟨"ScreenTalk$Forge", "putName", "(ILScreenTalk$Screen;)V"⟩) := ⟨List.mem_of_getElem? (i := 19) (by decide +kernel), by decide +kernel⟩
theorem wi_20 : mm_in (.selects "ScreenTalk$Forge" ⟨"ScreenTalk$Forge", "putRange", "(ILScreenTalk$Screen;)V"⟩ ⟨"ScreenTalk$Forge", "putRange", "(ILScreenTalk$Screen;)V"⟩) := ⟨List.mem_of_getElem? (i := 20) (by decide +kernel), by decide +kernel⟩
theorem wi_21 : mm_in (.selects "ScreenTalk$Forge" ⟨"ScreenTalk$Forge", "putSum", "()V"⟩ ⟨"ScreenTalk$Forge", "putSum", "()V"⟩) := ⟨List.mem_of_getElem? (i := 21) (by decide +kernel), by decide +kernel⟩
theorem wi_22 : mm_in (.selects "ScreenTalk" ⟨"ScreenTalk", "toldPlainly", "(I)I"⟩ ⟨"ScreenTalk", "toldPlainly", "(I)I"⟩) := ⟨List.mem_of_getElem? (i := 22) (by decide +kernel), by decide +kernel⟩
theorem wi_23 : mm_in (.selects "ScreenTalk" ⟨"ScreenTalk", "bestWithin", "(II)I"⟩ ⟨"ScreenTalk", "bestWithin", "(II)I"⟩) := ⟨List.mem_of_getElem? (i := 23) (by decide +kernel), by decide +kernel⟩
theorem wi_24 : mm_in (.selects "ScreenTalk" ⟨"ScreenTalk", "depthWithin", "(II)I"⟩ ⟨"ScreenTalk", "depthWithin", "(II)I"⟩) := ⟨List.mem_of_getElem? (i := 24) (by decide +kernel), by decide +kernel⟩
theorem wi_25 : mm_in (.selects "ScreenTalk" ⟨"ScreenTalk", "endTraining", "()V"⟩ ⟨"ScreenTalk", "endTraining", "()V"⟩) := ⟨List.mem_of_getElem? (i := 25) (by decide +kernel), by decide +kernel⟩
theorem wi_26 : mm_in (.selects "ScreenTalk$Training" ⟨"ScreenTalk$Training", "toFoot", "()V"⟩ ⟨"ScreenTalk$Training", "toFoot", "()V"⟩) := ⟨List.mem_of_getElem? (i := 26) (by decide +kernel), by decide +kernel⟩
theorem wi_27 : mm_in (.selects "ScreenTalk$Journal" ⟨"ScreenTalk$Journal", "put", "(II)V"⟩ ⟨"ScreenTalk$Journal", "put", "(II)V"⟩) := ⟨List.mem_of_getElem? (i := 27) (by decide +kernel), by decide +kernel⟩
theorem wi_28 : mm_in (.selects "ScreenTalk$Training" ⟨"ScreenTalk$Training", "attemptClock", "(LScreenTalk$Wiring;)I"⟩ ⟨"ScreenTalk$Training", "attemptClock", "(LScreenTalk$Wiring;)I"⟩) := ⟨List.mem_of_getElem? (i := 28) (by decide +kernel), by decide +kernel⟩
theorem wi_29 : mm_in (.selects "ScreenTalk$Training" ⟨"ScreenTalk$Training", "wantSwing", "(LScreenTalk$Wiring;)I"⟩ ⟨"ScreenTalk$Training", "wantSwing", "(LScreenTalk$Wiring;)I"⟩) := ⟨List.mem_of_getElem? (i := 29) (by decide +kernel), by decide +kernel⟩
theorem wi_30 : mm_in (.selects "ScreenTalk$Training" ⟨"ScreenTalk$Training", "fastLanes", "(LScreenTalk$Wiring;I)I"⟩ ⟨"ScreenTalk$Training", "fastLanes", "(LScreenTalk$Wiring;I)I"⟩) := ⟨List.mem_of_getElem? (i := 30) (by decide +kernel), by decide +kernel⟩
theorem wi_31 : mm_in (.selects "ScreenTalk$Training" ⟨"ScreenTalk$Training", "allLanes", "()I"⟩ ⟨"ScreenTalk$Training", "allLanes", "()I"⟩) := ⟨List.mem_of_getElem? (i := 31) (by decide +kernel), by decide +kernel⟩
theorem wi_32 : mm_in (.selects "ScreenTalk$Training" ⟨"ScreenTalk$Training", "attemptEven", "(LScreenTalk$Wiring;)I"⟩ ⟨"ScreenTalk$Training", "attemptEven", "(LScreenTalk$Wiring;)I"⟩) := ⟨List.mem_of_getElem? (i := 32) (by decide +kernel), by decide +kernel⟩
theorem wi_33 : mm_in (.selects "ScreenTalk$Training" ⟨"ScreenTalk$Training", "wantEmphasis", "(LScreenTalk$Wiring;)I"⟩ ⟨"ScreenTalk$Training", "wantEmphasis", "(LScreenTalk$Wiring;)I"⟩) := ⟨List.mem_of_getElem? (i := 33) (by decide +kernel), by decide +kernel⟩
theorem wi_34 : mm_in (.selects "ScreenTalk$Training" ⟨"ScreenTalk$Training", "easeSwing", "(I)V"⟩ ⟨"ScreenTalk$Training", "easeSwing", "(I)V"⟩) := ⟨List.mem_of_getElem? (i := 34) (by decide +kernel), by decide +kernel⟩
theorem wi_35 : mm_in (.selects "ScreenTalk$Training" ⟨"ScreenTalk$Training", "drop", "(LScreenTalk$Wiring;)V"⟩ ⟨"ScreenTalk$Training", "drop", "(LScreenTalk$Wiring;)V"⟩) := ⟨List.mem_of_getElem? (i := 35) (by decide +kernel), by decide +kernel⟩
theorem wi_36 : mm_in (.selects "ScreenTalk$Training" ⟨"ScreenTalk$Training", "dropFromClock", "(LScreenTalk$Wiring;)V"⟩ ⟨"ScreenTalk$Training", "dropFromClock", "(LScreenTalk$Wiring;)V"⟩) := ⟨List.mem_of_getElem? (i := 36) (by decide +kernel), by decide +kernel⟩
theorem wi_37 : mm_in (.selects "ScreenTalk$Training" ⟨"ScreenTalk$Training", "dropFromEven", "()V"⟩ ⟨"ScreenTalk$Training", "dropFromEven", "()V"⟩) := ⟨List.mem_of_getElem? (i := 37) (by decide +kernel), by decide +kernel⟩
theorem wi_38 : mm_in (.selects "ScreenTalk" ⟨"ScreenTalk", "layLane", "(II)V"⟩ ⟨"ScreenTalk", "layLane", "(II)V"⟩) := ⟨List.mem_of_getElem? (i := 38) (by decide +kernel), by decide +kernel⟩
theorem wi_39 : mm_in (.selects "ScreenTalkModel" ⟨"ScreenTalkModel", "checks", "()V"⟩ ⟨"ScreenTalkModel", "checks", "()V"⟩) := ⟨List.mem_of_getElem? (i := 39) (by decide +kernel), by decide +kernel⟩
theorem wi_40 : mm_in (.selects "ScreenTalkModel" ⟨"ScreenTalkModel", "fails", "(II)V"⟩ ⟨"ScreenTalkModel", "fails", "(II)V"⟩) := ⟨List.mem_of_getElem? (i := 40) (by decide +kernel), by decide +kernel⟩
theorem wi_41 : mm_in (.selects "ScreenTalkModel" ⟨"ScreenTalkModel", "sumOf", "(I)I"⟩ ⟨"ScreenTalkModel", "sumOf", "(I)I"⟩) := ⟨List.mem_of_getElem? (i := 41) (by decide +kernel), by decide +kernel⟩
theorem wi_42 : mm_in (.selects "ScreenTalkModel" ⟨"ScreenTalkModel", "checksExtension", "(I)V"⟩ ⟨"ScreenTalkModel", "checksExtension", "(I)V"⟩) := ⟨List.mem_of_getElem? (i := 42) (by decide +kernel), by decide +kernel⟩
theorem wi_43 : mm_in (.selects "ScreenTalkModel" ⟨"ScreenTalkModel", "reads", "()V"⟩ ⟨"ScreenTalkModel", "reads", "()V"⟩) := ⟨List.mem_of_getElem? (i := 43) (by decide +kernel), by decide +kernel⟩
theorem wi_44 : mm_in (.selects "ScreenTalkModel" ⟨"ScreenTalkModel", "readsAll", "()V"⟩ ⟨"ScreenTalkModel", "readsAll", "()V"⟩) := ⟨List.mem_of_getElem? (i := 44) (by decide +kernel), by decide +kernel⟩
theorem wi_45 : mm_in (.selects "ScreenTalkModel" ⟨"ScreenTalkModel", "isDetailed", "(I)Z"⟩ ⟨"ScreenTalkModel", "isDetailed", "(I)Z"⟩) := ⟨List.mem_of_getElem? (i := 45) (by decide +kernel), by decide +kernel⟩
theorem wi_46 : mm_in (.selects "ScreenTalkModel" ⟨"ScreenTalkModel", "at", "(I)I"⟩ ⟨"ScreenTalkModel", "at", "(I)I"⟩) := ⟨List.mem_of_getElem? (i := 46) (by decide +kernel), by decide +kernel⟩
theorem wi_47 : mm_in (.selects "ScreenTalkModel" ⟨"ScreenTalkModel", "readsDetailed", "(I)V"⟩ ⟨"ScreenTalkModel", "readsDetailed", "(I)V"⟩) := ⟨List.mem_of_getElem? (i := 47) (by decide +kernel), by decide +kernel⟩
theorem wi_48 : mm_in (.selects "ScreenTalkModel" ⟨"ScreenTalkModel", "isBroken", "(I)Z"⟩ ⟨"ScreenTalkModel", "isBroken", "(I)Z"⟩) := ⟨List.mem_of_getElem? (i := 48) (by decide +kernel), by decide +kernel⟩
theorem wi_49 : mm_in (.selects "ScreenTalkModel" ⟨"ScreenTalkModel", "readsOther", "(I)V"⟩ ⟨"ScreenTalkModel", "readsOther", "(I)V"⟩) := ⟨List.mem_of_getElem? (i := 49) (by decide +kernel), by decide +kernel⟩
theorem wi_50 : mm_in (.selects "ScreenTalkModel" ⟨"ScreenTalkModel", "readsData", "(II)V"⟩ ⟨"ScreenTalkModel", "readsData", "(II)V"⟩) := ⟨List.mem_of_getElem? (i := 50) (by decide +kernel), by decide +kernel⟩
theorem wi_51 : mm_in (.selects "ScreenTalkModel" ⟨"ScreenTalkModel", "offersDetailed", "(I)V"⟩ ⟨"ScreenTalkModel", "offersDetailed", "(I)V"⟩) := ⟨List.mem_of_getElem? (i := 51) (by decide +kernel), by decide +kernel⟩
theorem wi_52 : mm_in (.selects "ScreenTalkModel" ⟨"ScreenTalkModel", "offers", "(IIIIII)Z"⟩ ⟨"ScreenTalkModel", "offers", "(IIIIII)Z"⟩) := ⟨List.mem_of_getElem? (i := 52) (by decide +kernel), by decide +kernel⟩
theorem wi_53 : mm_in (.selects "ScreenTalkModel" ⟨"ScreenTalkModel", "isOut", "(III)Z"⟩ ⟨"ScreenTalkModel", "isOut", "(III)Z"⟩) := ⟨List.mem_of_getElem? (i := 53) (by decide +kernel), by decide +kernel⟩
theorem wi_54 : mm_in (.selects "ScreenTalkModel" ⟨"ScreenTalkModel", "isFound", "(III)Z"⟩ ⟨"ScreenTalkModel", "isFound", "(III)Z"⟩) := ⟨List.mem_of_getElem? (i := 54) (by decide +kernel), by decide +kernel⟩
theorem wi_55 : mm_in (.selects "ScreenTalkModel" ⟨"ScreenTalkModel", "laysFronts", "(IIII)V"⟩ ⟨"ScreenTalkModel", "laysFronts", "(IIII)V"⟩) := ⟨List.mem_of_getElem? (i := 55) (by decide +kernel), by decide +kernel⟩
theorem wi_56 : mm_in (.selects "ScreenTalkModel" ⟨"ScreenTalkModel", "offersCode", "(I)V"⟩ ⟨"ScreenTalkModel", "offersCode", "(I)V"⟩) := ⟨List.mem_of_getElem? (i := 56) (by decide +kernel), by decide +kernel⟩
theorem wi_57 : mm_in (.selects "ScreenTalkModel" ⟨"ScreenTalkModel", "offersPlain", "(IIII)V"⟩ ⟨"ScreenTalkModel", "offersPlain", "(IIII)V"⟩) := ⟨List.mem_of_getElem? (i := 57) (by decide +kernel), by decide +kernel⟩
theorem wi_58 : mm_in (.selects "ScreenTalkModel" ⟨"ScreenTalkModel", "works", "(IIII)V"⟩ ⟨"ScreenTalkModel", "works", "(IIII)V"⟩) := ⟨List.mem_of_getElem? (i := 58) (by decide +kernel), by decide +kernel⟩
theorem wi_59 : mm_in (.selects "ScreenTalkModel" ⟨"ScreenTalkModel", "isAhead", "(II)Z"⟩ ⟨"ScreenTalkModel", "isAhead", "(II)Z"⟩) := ⟨List.mem_of_getElem? (i := 59) (by decide +kernel), by decide +kernel⟩
theorem wi_60 : mm_in (.selects "ScreenTalkModel" ⟨"ScreenTalkModel", "isMode", "(I)Z"⟩ ⟨"ScreenTalkModel", "isMode", "(I)Z"⟩) := ⟨List.mem_of_getElem? (i := 60) (by decide +kernel), by decide +kernel⟩
theorem wi_61 : mm_in (.selects "ScreenTalkModel" ⟨"ScreenTalkModel", "ofMode", "(II)I"⟩ ⟨"ScreenTalkModel", "ofMode", "(II)I"⟩) := ⟨List.mem_of_getElem? (i := 61) (by decide +kernel), by decide +kernel⟩
theorem wi_62 : mm_in (.selects "ScreenTalkModel" ⟨"ScreenTalkModel", "forges", "()Z"⟩ ⟨"ScreenTalkModel", "forges", "()Z"⟩) := ⟨List.mem_of_getElem? (i := 62) (by decide +kernel), by decide +kernel⟩
theorem wi_63 : mm_in (.selects "ScreenTalkModel" ⟨"ScreenTalkModel", "laysMode", "(I)V"⟩ ⟨"ScreenTalkModel", "laysMode", "(I)V"⟩) := ⟨List.mem_of_getElem? (i := 63) (by decide +kernel), by decide +kernel⟩
theorem wi_64 : mm_in (.selects "ScreenTalkModel" ⟨"ScreenTalkModel", "hasRoom", "()Z"⟩ ⟨"ScreenTalkModel", "hasRoom", "()Z"⟩) := ⟨List.mem_of_getElem? (i := 64) (by decide +kernel), by decide +kernel⟩
theorem wi_65 : mm_in (.selects "ScreenTalkModel" ⟨"ScreenTalkModel", "descriptorByte", "(I)I"⟩ ⟨"ScreenTalkModel", "descriptorByte", "(I)I"⟩) := ⟨List.mem_of_getElem? (i := 65) (by decide +kernel), by decide +kernel⟩
theorem wi_66 : mm_in (.selects "ScreenTalkModel" ⟨"ScreenTalkModel", "forgesName", "(I)V"⟩ ⟨"ScreenTalkModel", "forgesName", "(I)V"⟩) := ⟨List.mem_of_getElem? (i := 66) (by decide +kernel), by decide +kernel⟩
theorem wi_67 : mm_in (.selects "ScreenTalkModel" ⟨"ScreenTalkModel", "forgesRange", "(I)V"⟩ ⟨"ScreenTalkModel", "forgesRange", "(I)V"⟩) := ⟨List.mem_of_getElem? (i := 67) (by decide +kernel), by decide +kernel⟩
theorem wi_68 : mm_in (.selects "ScreenTalkModel" ⟨"ScreenTalkModel", "callsNumber", "(I)V"⟩ ⟨"ScreenTalkModel", "callsNumber", "(I)V"⟩) := ⟨List.mem_of_getElem? (i := 68) (by decide +kernel), by decide +kernel⟩
theorem wi_69 : mm_in (.selects "ScreenTalkModel" ⟨"ScreenTalkModel", "calls", "(I)V"⟩ ⟨"ScreenTalkModel", "calls", "(I)V"⟩) := ⟨List.mem_of_getElem? (i := 69) (by decide +kernel), by decide +kernel⟩
theorem wi_70 : mm_in (.selects "ScreenTalkModel" ⟨"ScreenTalkModel", "needOf", "(II)I"⟩ ⟨"ScreenTalkModel", "needOf", "(II)I"⟩) := ⟨List.mem_of_getElem? (i := 70) (by decide +kernel), by decide +kernel⟩
theorem wi_71 : mm_in (.selects "ScreenTalkModel" ⟨"ScreenTalkModel", "laysBest", "(I)V"⟩ ⟨"ScreenTalkModel", "laysBest", "(I)V"⟩) := ⟨List.mem_of_getElem? (i := 71) (by decide +kernel), by decide +kernel⟩
theorem wi_72 : mm_in (.selects "ScreenTalkModel" ⟨"ScreenTalkModel", "ends", "()V"⟩ ⟨"ScreenTalkModel", "ends", "()V"⟩) := ⟨List.mem_of_getElem? (i := 72) (by decide +kernel), by decide +kernel⟩
theorem wi_73 : mm_in (.selects "ScreenTalkModel" ⟨"ScreenTalkModel", "begins", "()V"⟩ ⟨"ScreenTalkModel", "begins", "()V"⟩) := ⟨List.mem_of_getElem? (i := 73) (by decide +kernel), by decide +kernel⟩
theorem wi_74 : mm_in (.selects "ScreenTalkModel" ⟨"ScreenTalkModel", "foots", "()V"⟩ ⟨"ScreenTalkModel", "foots", "()V"⟩) := ⟨List.mem_of_getElem? (i := 74) (by decide +kernel), by decide +kernel⟩
theorem wi_75 : mm_in (.selects "ScreenTalkModel" ⟨"ScreenTalkModel", "isTraining", "()Z"⟩ ⟨"ScreenTalkModel", "isTraining", "()Z"⟩) := ⟨List.mem_of_getElem? (i := 75) (by decide +kernel), by decide +kernel⟩
theorem wi_76 : mm_in (.selects "ScreenTalkModel" ⟨"ScreenTalkModel", "triesOnce", "()V"⟩ ⟨"ScreenTalkModel", "triesOnce", "()V"⟩) := ⟨List.mem_of_getElem? (i := 76) (by decide +kernel), by decide +kernel⟩
theorem wi_77 : mm_in (.selects "ScreenTalkModel" ⟨"ScreenTalkModel", "digits", "(I)I"⟩ ⟨"ScreenTalkModel", "digits", "(I)I"⟩) := ⟨List.mem_of_getElem? (i := 77) (by decide +kernel), by decide +kernel⟩
theorem wi_78 : mm_in (.selects "ScreenTalkModel" ⟨"ScreenTalkModel", "triesClock", "()V"⟩ ⟨"ScreenTalkModel", "triesClock", "()V"⟩) := ⟨List.mem_of_getElem? (i := 78) (by decide +kernel), by decide +kernel⟩
theorem wi_79 : mm_in (.selects "ScreenTalkModel" ⟨"ScreenTalkModel", "wantsSwing", "(I)Z"⟩ ⟨"ScreenTalkModel", "wantsSwing", "(I)Z"⟩) := ⟨List.mem_of_getElem? (i := 79) (by decide +kernel), by decide +kernel⟩
theorem wi_80 : mm_in (.selects "ScreenTalkModel" ⟨"ScreenTalkModel", "falls", "(I)V"⟩ ⟨"ScreenTalkModel", "falls", "(I)V"⟩) := ⟨List.mem_of_getElem? (i := 80) (by decide +kernel), by decide +kernel⟩
theorem wi_81 : mm_in (.selects "ScreenTalkModel" ⟨"ScreenTalkModel", "triesEven", "()V"⟩ ⟨"ScreenTalkModel", "triesEven", "()V"⟩) := ⟨List.mem_of_getElem? (i := 81) (by decide +kernel), by decide +kernel⟩
theorem wi_82 : mm_in (.selects "ScreenTalkModel" ⟨"ScreenTalkModel", "wantsEmphasis", "(I)Z"⟩ ⟨"ScreenTalkModel", "wantsEmphasis", "(I)Z"⟩) := ⟨List.mem_of_getElem? (i := 82) (by decide +kernel), by decide +kernel⟩
theorem wi_83 : mm_in (.selects "ScreenTalkModel" ⟨"ScreenTalkModel", "mostOf", "(I)I"⟩ ⟨"ScreenTalkModel", "mostOf", "(I)I"⟩) := ⟨List.mem_of_getElem? (i := 83) (by decide +kernel), by decide +kernel⟩
theorem wi_84 : mm_in (.selects "ScreenTalkModel" ⟨"ScreenTalkModel", "opens", "()V"⟩ ⟨"ScreenTalkModel", "opens", "()V"⟩) := ⟨List.mem_of_getElem? (i := 84) (by decide +kernel), by decide +kernel⟩
theorem wi_85 : mm_in (.selects "ScreenTalkModel" ⟨"ScreenTalkModel", "trains", "()I"⟩ ⟨"ScreenTalkModel", "trains", "()I"⟩) := ⟨List.mem_of_getElem? (i := 85) (by decide +kernel), by decide +kernel⟩
theorem wi_86 : mm_in (.selects "ScreenTalkModel" ⟨"ScreenTalkModel", "toldOf", "(II)I"⟩ ⟨"ScreenTalkModel", "toldOf", "(II)I"⟩) := ⟨List.mem_of_getElem? (i := 86) (by decide +kernel), by decide +kernel⟩
theorem wi_87 : mm_in (.selects "ScreenTalkModel" ⟨"ScreenTalkModel", "closes", "()V"⟩ ⟨"ScreenTalkModel", "closes", "()V"⟩) := ⟨List.mem_of_getElem? (i := 87) (by decide +kernel), by decide +kernel⟩
theorem wi_88 : mm_in (.selects "ScreenTalkModel" ⟨"ScreenTalkModel", "triesOrder", "(I)V"⟩ ⟨"ScreenTalkModel", "triesOrder", "(I)V"⟩) := ⟨List.mem_of_getElem? (i := 88) (by decide +kernel), by decide +kernel⟩
theorem wi_90 : mm_in (.initialized "ScreenTalk") := ⟨List.mem_of_getElem? (i := 90) (by decide +kernel), by decide +kernel⟩
theorem wi_91 : mm_in (.initialized "ScreenTalk$Bytes") := ⟨List.mem_of_getElem? (i := 91) (by decide +kernel), by decide +kernel⟩
theorem wi_92 : mm_in (.initialized "ScreenTalk$Inspection") := ⟨List.mem_of_getElem? (i := 92) (by decide +kernel), by decide +kernel⟩
theorem wi_93 : mm_in (.initialized "ScreenTalk$Screen") := ⟨List.mem_of_getElem? (i := 93) (by decide +kernel), by decide +kernel⟩
theorem wi_94 : mm_in (.initialized "ScreenTalk$Timing") := ⟨List.mem_of_getElem? (i := 94) (by decide +kernel), by decide +kernel⟩
theorem wi_95 : mm_in (.initialized "ScreenTalk$ModeList") := ⟨List.mem_of_getElem? (i := 95) (by decide +kernel), by decide +kernel⟩
theorem wi_96 : mm_in (.initialized "ScreenTalk$Mode") := ⟨List.mem_of_getElem? (i := 96) (by decide +kernel), by decide +kernel⟩
theorem wi_97 : mm_in (.initialized "ScreenTalk$Forge") := ⟨List.mem_of_getElem? (i := 97) (by decide +kernel), by decide +kernel⟩
theorem wi_98 : mm_in (.initialized "java/lang/AbstractStringBuilder") := ⟨List.mem_of_getElem? (i := 98) (by decide +kernel), by decide +kernel⟩
theorem wi_99 : mm_in (.initialized "java/lang/StringBuilder") := ⟨List.mem_of_getElem? (i := 99) (by decide +kernel), by decide +kernel⟩
theorem wi_100 : mm_in (.initialized "java/lang/String") := ⟨List.mem_of_getElem? (i := 100) (by decide +kernel), by decide +kernel⟩
theorem wi_102 : mm_in (.initialized "ScreenTalk$Wiring") := ⟨List.mem_of_getElem? (i := 102) (by decide +kernel), by decide +kernel⟩
theorem wi_103 : mm_in (.initialized "ScreenTalk$Training") := ⟨List.mem_of_getElem? (i := 103) (by decide +kernel), by decide +kernel⟩
theorem wi_104 : mm_in (.initialized "ScreenTalk$Journal") := ⟨List.mem_of_getElem? (i := 104) (by decide +kernel), by decide +kernel⟩
theorem wi_105 : mm_in (.initialized "ScreenTalkModel") := ⟨List.mem_of_getElem? (i := 105) (by decide +kernel), by decide +kernel⟩
theorem wi_106 : mm_in (.initialized "java/lang/Math") := ⟨List.mem_of_getElem? (i := 106) (by decide +kernel), by decide +kernel⟩
theorem wi_107 : mm_in (.initialized "java/lang/System") := ⟨List.mem_of_getElem? (i := 107) (by decide +kernel), by decide +kernel⟩
theorem wi_108 : mm_in (.initialized "java/util/Arrays") := ⟨List.mem_of_getElem? (i := 108) (by decide +kernel), by decide +kernel⟩
theorem wi_110 : mm_in (.initialized "java/lang/StringLatin1") := ⟨List.mem_of_getElem? (i := 110) (by decide +kernel), by decide +kernel⟩
theorem wi_112 : mm_in (.initialized "java/lang/Integer") := ⟨List.mem_of_getElem? (i := 112) (by decide +kernel), by decide +kernel⟩
theorem wi_113 : mm_in (.initialized "jdk/internal/util/Preconditions") := ⟨List.mem_of_getElem? (i := 113) (by decide +kernel), by decide +kernel⟩
theorem wi_114 : mm_in (.classLink "ScreenTalkLaw" 7 "ScreenTalk") := ⟨List.mem_of_getElem? (i := 114) (by decide +kernel), by decide +kernel⟩
theorem wi_115 : mm_in (.instantiable "ScreenTalk" 14) := ⟨List.mem_of_getElem? (i := 115) (by decide +kernel), by decide +kernel⟩
theorem wi_116 : mm_in (.methodLink "ScreenTalkLaw" 9 ⟨"ScreenTalk", "<init>", "()V"⟩) := ⟨List.mem_of_getElem? (i := 116) (by decide +kernel), by decide +kernel⟩
theorem wi_117 : mm_in (.instanceMethod ⟨"ScreenTalk", "<init>", "()V"⟩) := ⟨List.mem_of_getElem? (i := 117) (by decide +kernel), by decide +kernel⟩
theorem wi_119 : mm_in (.methodLink "ScreenTalk" 1 ⟨"java/lang/Object", "<init>", "()V"⟩) := ⟨List.mem_of_getElem? (i := 119) (by decide +kernel), by decide +kernel⟩
theorem wi_120 : mm_in (.instanceMethod ⟨"java/lang/Object", "<init>", "()V"⟩) := ⟨List.mem_of_getElem? (i := 120) (by decide +kernel), by decide +kernel⟩
theorem wi_122 : mm_in (.classLink "ScreenTalk" 7 "ScreenTalk$Bytes") := ⟨List.mem_of_getElem? (i := 122) (by decide +kernel), by decide +kernel⟩
theorem wi_123 : mm_in (.instantiable "ScreenTalk$Bytes" 2) := ⟨List.mem_of_getElem? (i := 123) (by decide +kernel), by decide +kernel⟩
theorem wi_124 : mm_in (.methodLinkNest "ScreenTalk" 9 ⟨"ScreenTalk$Bytes", "<init>", "()V"⟩ "ScreenTalk") := ⟨List.mem_of_getElem? (i := 124) (by decide +kernel), by decide +kernel⟩
theorem wi_125 : mm_in (.instanceMethod ⟨"ScreenTalk$Bytes", "<init>", "()V"⟩) := ⟨List.mem_of_getElem? (i := 125) (by decide +kernel), by decide +kernel⟩
theorem wi_127 : mm_in (.methodLink "ScreenTalk$Bytes" 3 ⟨"java/lang/Object", "<init>", "()V"⟩) := ⟨List.mem_of_getElem? (i := 127) (by decide +kernel), by decide +kernel⟩
theorem wi_128 : mm_in (.fieldLink "ScreenTalk$Bytes" 9 "ScreenTalk$Bytes" "cells" "[I") := ⟨List.mem_of_getElem? (i := 128) (by decide +kernel), by decide +kernel⟩
theorem wi_129 : mm_in (.fieldLink "ScreenTalk$Bytes" 15 "ScreenTalk$Bytes" "length" "I") := ⟨List.mem_of_getElem? (i := 129) (by decide +kernel), by decide +kernel⟩
theorem wi_130 : mm_in (.fieldLinkNest "ScreenTalk" 92 "ScreenTalk$Bytes" "length" "I" "ScreenTalk") := ⟨List.mem_of_getElem? (i := 130) (by decide +kernel), by decide +kernel⟩
theorem wi_131 : mm_in (.fieldLinkNest "ScreenTalk$Screen" 35 "ScreenTalk$Bytes" "length" "I" "ScreenTalk") := ⟨List.mem_of_getElem? (i := 131) (by decide +kernel), by decide +kernel⟩
theorem wi_132 : mm_in (.fieldLinkNest "ScreenTalk$Inspection" 18 "ScreenTalk$Bytes" "length" "I" "ScreenTalk") := ⟨List.mem_of_getElem? (i := 132) (by decide +kernel), by decide +kernel⟩
theorem wi_138 : mm_in (.arrayClass FieldType.int) := ⟨List.mem_of_getElem? (i := 138) (by decide +kernel), by decide +kernel⟩
theorem wi_139 : mm_in (.classLink "ScreenTalk" 19 "ScreenTalk$Inspection") := ⟨List.mem_of_getElem? (i := 139) (by decide +kernel), by decide +kernel⟩
theorem wi_140 : mm_in (.instantiable "ScreenTalk$Inspection" 2) := ⟨List.mem_of_getElem? (i := 140) (by decide +kernel), by decide +kernel⟩
theorem wi_141 : mm_in (.methodLinkNest "ScreenTalk" 21 ⟨"ScreenTalk$Inspection", "<init>", "()V"⟩ "ScreenTalk") := ⟨List.mem_of_getElem? (i := 141) (by decide +kernel), by decide +kernel⟩
theorem wi_142 : mm_in (.instanceMethod ⟨"ScreenTalk$Inspection", "<init>", "()V"⟩) := ⟨List.mem_of_getElem? (i := 142) (by decide +kernel), by decide +kernel⟩
theorem wi_144 : mm_in (.methodLink "ScreenTalk$Inspection" 3 ⟨"java/lang/Object", "<init>", "()V"⟩) := ⟨List.mem_of_getElem? (i := 144) (by decide +kernel), by decide +kernel⟩
theorem wi_145 : mm_in (.fieldLink "ScreenTalk$Inspection" 15 "ScreenTalk$Inspection" "kind" "I") := ⟨List.mem_of_getElem? (i := 145) (by decide +kernel), by decide +kernel⟩
theorem wi_146 : mm_in (.fieldLinkNest "ScreenTalk" 110 "ScreenTalk$Inspection" "kind" "I" "ScreenTalk") := ⟨List.mem_of_getElem? (i := 146) (by decide +kernel), by decide +kernel⟩
theorem wi_147 : mm_in (.fieldLink "ScreenTalk$Inspection" 9 "ScreenTalk$Inspection" "place" "I") := ⟨List.mem_of_getElem? (i := 147) (by decide +kernel), by decide +kernel⟩
theorem wi_148 : mm_in (.fieldLinkNest "ScreenTalk" 127 "ScreenTalk$Inspection" "place" "I" "ScreenTalk") := ⟨List.mem_of_getElem? (i := 148) (by decide +kernel), by decide +kernel⟩
theorem wi_154 : mm_in (.classLink "ScreenTalk" 26 "ScreenTalk$Screen") := ⟨List.mem_of_getElem? (i := 154) (by decide +kernel), by decide +kernel⟩
theorem wi_155 : mm_in (.instantiable "ScreenTalk$Screen" 13) := ⟨List.mem_of_getElem? (i := 155) (by decide +kernel), by decide +kernel⟩
theorem wi_156 : mm_in (.methodLink "ScreenTalk" 28 ⟨"ScreenTalk$Screen", "<init>", "()V"⟩) := ⟨List.mem_of_getElem? (i := 156) (by decide +kernel), by decide +kernel⟩
theorem wi_157 : mm_in (.instanceMethod ⟨"ScreenTalk$Screen", "<init>", "()V"⟩) := ⟨List.mem_of_getElem? (i := 157) (by decide +kernel), by decide +kernel⟩
theorem wi_159 : mm_in (.methodLink "ScreenTalk$Screen" 3 ⟨"java/lang/Object", "<init>", "()V"⟩) := ⟨List.mem_of_getElem? (i := 159) (by decide +kernel), by decide +kernel⟩
theorem wi_160 : mm_in (.classLink "ScreenTalk$Screen" 9 "ScreenTalk$Bytes") := ⟨List.mem_of_getElem? (i := 160) (by decide +kernel), by decide +kernel⟩
theorem wi_161 : mm_in (.methodLinkNest "ScreenTalk$Screen" 11 ⟨"ScreenTalk$Bytes", "<init>", "()V"⟩ "ScreenTalk") := ⟨List.mem_of_getElem? (i := 161) (by decide +kernel), by decide +kernel⟩
theorem wi_162 : mm_in (.classLink "ScreenTalk$Screen" 18 "ScreenTalk$Timing") := ⟨List.mem_of_getElem? (i := 162) (by decide +kernel), by decide +kernel⟩
theorem wi_163 : mm_in (.arrayOver (FieldType.object "ScreenTalk$Timing")) := ⟨List.mem_of_getElem? (i := 163) (by decide +kernel), by decide +kernel⟩
theorem wi_164 : mm_in (.instantiable "ScreenTalk$Timing" 10) := ⟨List.mem_of_getElem? (i := 164) (by decide +kernel), by decide +kernel⟩
theorem wi_165 : mm_in (.methodLinkNest "ScreenTalk$Screen" 34 ⟨"ScreenTalk$Timing", "<init>", "()V"⟩ "ScreenTalk") := ⟨List.mem_of_getElem? (i := 165) (by decide +kernel), by decide +kernel⟩
theorem wi_166 : mm_in (.instanceMethod ⟨"ScreenTalk$Timing", "<init>", "()V"⟩) := ⟨List.mem_of_getElem? (i := 166) (by decide +kernel), by decide +kernel⟩
theorem wi_168 : mm_in (.methodLink "ScreenTalk$Timing" 3 ⟨"java/lang/Object", "<init>", "()V"⟩) := ⟨List.mem_of_getElem? (i := 168) (by decide +kernel), by decide +kernel⟩
theorem wi_169 : mm_in (.fieldLink "ScreenTalk$Timing" 15 "ScreenTalk$Timing" "clock" "I") := ⟨List.mem_of_getElem? (i := 169) (by decide +kernel), by decide +kernel⟩
theorem wi_170 : mm_in (.fieldLinkNest "ScreenTalk$ModeList" 135 "ScreenTalk$Timing" "clock" "I" "ScreenTalk") := ⟨List.mem_of_getElem? (i := 170) (by decide +kernel), by decide +kernel⟩
theorem wi_171 : mm_in (.fieldLinkNest "ScreenTalk" 202 "ScreenTalk$Timing" "clock" "I" "ScreenTalk") := ⟨List.mem_of_getElem? (i := 171) (by decide +kernel), by decide +kernel⟩
theorem wi_172 : mm_in (.fieldLinkNest "ScreenTalk$Mode" 16 "ScreenTalk$Timing" "h" "I" "ScreenTalk") := ⟨List.mem_of_getElem? (i := 172) (by decide +kernel), by decide +kernel⟩
theorem wi_173 : mm_in (.fieldLink "ScreenTalk$Timing" 21 "ScreenTalk$Timing" "h" "I") := ⟨List.mem_of_getElem? (i := 173) (by decide +kernel), by decide +kernel⟩
theorem wi_174 : mm_in (.fieldLinkNest "ScreenTalk$ModeList" 144 "ScreenTalk$Timing" "h" "I" "ScreenTalk") := ⟨List.mem_of_getElem? (i := 174) (by decide +kernel), by decide +kernel⟩
theorem wi_175 : mm_in (.fieldLinkNest "ScreenTalk" 193 "ScreenTalk$Timing" "h" "I" "ScreenTalk") := ⟨List.mem_of_getElem? (i := 175) (by decide +kernel), by decide +kernel⟩
theorem wi_176 : mm_in (.fieldLink "ScreenTalk$Timing" 24 "ScreenTalk$Timing" "hBlank" "I") := ⟨List.mem_of_getElem? (i := 176) (by decide +kernel), by decide +kernel⟩
theorem wi_177 : mm_in (.fieldLink "ScreenTalk$Timing" 33 "ScreenTalk$Timing" "hFront" "I") := ⟨List.mem_of_getElem? (i := 177) (by decide +kernel), by decide +kernel⟩
theorem wi_178 : mm_in (.fieldLink "ScreenTalk$Timing" 36 "ScreenTalk$Timing" "hSync" "I") := ⟨List.mem_of_getElem? (i := 178) (by decide +kernel), by decide +kernel⟩
theorem wi_179 : mm_in (.fieldLinkNest "ScreenTalk$Mode" 20 "ScreenTalk$Timing" "v" "I" "ScreenTalk") := ⟨List.mem_of_getElem? (i := 179) (by decide +kernel), by decide +kernel⟩
theorem wi_180 : mm_in (.fieldLink "ScreenTalk$Timing" 27 "ScreenTalk$Timing" "v" "I") := ⟨List.mem_of_getElem? (i := 180) (by decide +kernel), by decide +kernel⟩
theorem wi_181 : mm_in (.fieldLinkNest "ScreenTalk$ModeList" 147 "ScreenTalk$Timing" "v" "I" "ScreenTalk") := ⟨List.mem_of_getElem? (i := 181) (by decide +kernel), by decide +kernel⟩
theorem wi_182 : mm_in (.fieldLinkNest "ScreenTalk" 196 "ScreenTalk$Timing" "v" "I" "ScreenTalk") := ⟨List.mem_of_getElem? (i := 182) (by decide +kernel), by decide +kernel⟩
theorem wi_183 : mm_in (.fieldLink "ScreenTalk$Timing" 30 "ScreenTalk$Timing" "vBlank" "I") := ⟨List.mem_of_getElem? (i := 183) (by decide +kernel), by decide +kernel⟩
theorem wi_184 : mm_in (.fieldLink "ScreenTalk$Timing" 39 "ScreenTalk$Timing" "vFront" "I") := ⟨List.mem_of_getElem? (i := 184) (by decide +kernel), by decide +kernel⟩
theorem wi_185 : mm_in (.fieldLink "ScreenTalk$Timing" 42 "ScreenTalk$Timing" "vSync" "I") := ⟨List.mem_of_getElem? (i := 185) (by decide +kernel), by decide +kernel⟩
theorem wi_186 : mm_in (.fieldLink "ScreenTalk$Timing" 45 "ScreenTalk$Timing" "interlaced" "Z") := ⟨List.mem_of_getElem? (i := 186) (by decide +kernel), by decide +kernel⟩
theorem wi_187 : mm_in (.fieldLinkNest "ScreenTalk$ModeList" 128 "ScreenTalk$Timing" "interlaced" "Z" "ScreenTalk") := ⟨List.mem_of_getElem? (i := 187) (by decide +kernel), by decide +kernel⟩
theorem wi_209 : mm_in (.fieldLink "ScreenTalk$Screen" 12 "ScreenTalk$Screen" "bytes" "LScreenTalk$Bytes;") := ⟨List.mem_of_getElem? (i := 209) (by decide +kernel), by decide +kernel⟩
theorem wi_210 : mm_in (.fieldLinkNest "ScreenTalk$Forge" 29 "ScreenTalk$Screen" "bytes" "LScreenTalk$Bytes;" "ScreenTalk") := ⟨List.mem_of_getElem? (i := 210) (by decide +kernel), by decide +kernel⟩
theorem wi_211 : mm_in (.fieldLinkNest "ScreenTalk$ModeList" 78 "ScreenTalk$Screen" "bytes" "LScreenTalk$Bytes;" "ScreenTalk") := ⟨List.mem_of_getElem? (i := 211) (by decide +kernel), by decide +kernel⟩
theorem wi_212 : mm_in (.fieldLinkNest "ScreenTalk" 152 "ScreenTalk$Screen" "bytes" "LScreenTalk$Bytes;" "ScreenTalk") := ⟨List.mem_of_getElem? (i := 212) (by decide +kernel), by decide +kernel⟩
theorem wi_213 : mm_in (.fieldLink "ScreenTalk$Screen" 20 "ScreenTalk$Screen" "timings" "[LScreenTalk$Timing;") := ⟨List.mem_of_getElem? (i := 213) (by decide +kernel), by decide +kernel⟩
theorem wi_214 : mm_in (.fieldLink "ScreenTalk$Screen" 24 "ScreenTalk$Screen" "codes" "[I") := ⟨List.mem_of_getElem? (i := 214) (by decide +kernel), by decide +kernel⟩
theorem wi_215 : mm_in (.fieldLink "ScreenTalk$Screen" 28 "ScreenTalk$Screen" "letters" "[I") := ⟨List.mem_of_getElem? (i := 215) (by decide +kernel), by decide +kernel⟩
theorem wi_216 : mm_in (.fieldLink "ScreenTalk$Screen" 31 "ScreenTalk$Screen" "range" "[I") := ⟨List.mem_of_getElem? (i := 216) (by decide +kernel), by decide +kernel⟩
theorem wi_217 : mm_in (.fieldLink "ScreenTalk$Screen" 43 "ScreenTalk$Screen" "blocks" "I") := ⟨List.mem_of_getElem? (i := 217) (by decide +kernel), by decide +kernel⟩
theorem wi_218 : mm_in (.fieldLinkNest "ScreenTalk" 137 "ScreenTalk$Screen" "blocks" "I" "ScreenTalk") := ⟨List.mem_of_getElem? (i := 218) (by decide +kernel), by decide +kernel⟩
theorem wi_219 : mm_in (.fieldLink "ScreenTalk$Screen" 46 "ScreenTalk$Screen" "detailedCount" "I") := ⟨List.mem_of_getElem? (i := 219) (by decide +kernel), by decide +kernel⟩
theorem wi_220 : mm_in (.fieldLinkNest "ScreenTalk$ModeList" 49 "ScreenTalk$Screen" "detailedCount" "I" "ScreenTalk") := ⟨List.mem_of_getElem? (i := 220) (by decide +kernel), by decide +kernel⟩
theorem wi_221 : mm_in (.fieldLinkNest "ScreenTalk" 155 "ScreenTalk$Screen" "detailedCount" "I" "ScreenTalk") := ⟨List.mem_of_getElem? (i := 221) (by decide +kernel), by decide +kernel⟩
theorem wi_222 : mm_in (.fieldLink "ScreenTalk$Screen" 69 "ScreenTalk$Screen" "detailedOfBase" "I") := ⟨List.mem_of_getElem? (i := 222) (by decide +kernel), by decide +kernel⟩
theorem wi_223 : mm_in (.fieldLinkNest "ScreenTalk$ModeList" 60 "ScreenTalk$Screen" "detailedOfBase" "I" "ScreenTalk") := ⟨List.mem_of_getElem? (i := 223) (by decide +kernel), by decide +kernel⟩
theorem wi_224 : mm_in (.fieldLink "ScreenTalk$Screen" 49 "ScreenTalk$Screen" "codeCount" "I") := ⟨List.mem_of_getElem? (i := 224) (by decide +kernel), by decide +kernel⟩
theorem wi_225 : mm_in (.fieldLinkNest "ScreenTalk$ModeList" 67 "ScreenTalk$Screen" "codeCount" "I" "ScreenTalk") := ⟨List.mem_of_getElem? (i := 225) (by decide +kernel), by decide +kernel⟩
theorem wi_226 : mm_in (.fieldLinkNest "ScreenTalk" 161 "ScreenTalk$Screen" "codeCount" "I" "ScreenTalk") := ⟨List.mem_of_getElem? (i := 226) (by decide +kernel), by decide +kernel⟩
theorem wi_227 : mm_in (.fieldLink "ScreenTalk$Screen" 52 "ScreenTalk$Screen" "nameLength" "I") := ⟨List.mem_of_getElem? (i := 227) (by decide +kernel), by decide +kernel⟩
theorem wi_228 : mm_in (.fieldLinkNest "ScreenTalk$Forge" 82 "ScreenTalk$Screen" "nameLength" "I" "ScreenTalk") := ⟨List.mem_of_getElem? (i := 228) (by decide +kernel), by decide +kernel⟩
theorem wi_229 : mm_in (.fieldLinkNest "ScreenTalk" 167 "ScreenTalk$Screen" "nameLength" "I" "ScreenTalk") := ⟨List.mem_of_getElem? (i := 229) (by decide +kernel), by decide +kernel⟩
theorem wi_230 : mm_in (.fieldLink "ScreenTalk$Screen" 55 "ScreenTalk$Screen" "sounds" "I") := ⟨List.mem_of_getElem? (i := 230) (by decide +kernel), by decide +kernel⟩
theorem wi_231 : mm_in (.fieldLinkNest "ScreenTalk" 158 "ScreenTalk$Screen" "sounds" "I" "ScreenTalk") := ⟨List.mem_of_getElem? (i := 231) (by decide +kernel), by decide +kernel⟩
theorem wi_232 : mm_in (.fieldLink "ScreenTalk$Screen" 58 "ScreenTalk$Screen" "most" "I") := ⟨List.mem_of_getElem? (i := 232) (by decide +kernel), by decide +kernel⟩
theorem wi_233 : mm_in (.fieldLinkNest "ScreenTalk" 164 "ScreenTalk$Screen" "most" "I" "ScreenTalk") := ⟨List.mem_of_getElem? (i := 233) (by decide +kernel), by decide +kernel⟩
theorem wi_234 : mm_in (.fieldLinkNest "ScreenTalk$ModeList" 141 "ScreenTalk$Screen" "most" "I" "ScreenTalk") := ⟨List.mem_of_getElem? (i := 234) (by decide +kernel), by decide +kernel⟩
theorem wi_235 : mm_in (.fieldLink "ScreenTalk$Screen" 61 "ScreenTalk$Screen" "rangeTold" "Z") := ⟨List.mem_of_getElem? (i := 235) (by decide +kernel), by decide +kernel⟩
theorem wi_236 : mm_in (.fieldLinkNest "ScreenTalk$Forge" 88 "ScreenTalk$Screen" "rangeTold" "Z" "ScreenTalk") := ⟨List.mem_of_getElem? (i := 236) (by decide +kernel), by decide +kernel⟩
theorem wi_264 : mm_in (.classLink "ScreenTalk" 33 "ScreenTalk$ModeList") := ⟨List.mem_of_getElem? (i := 264) (by decide +kernel), by decide +kernel⟩
theorem wi_265 : mm_in (.instantiable "ScreenTalk$ModeList" 5) := ⟨List.mem_of_getElem? (i := 265) (by decide +kernel), by decide +kernel⟩
theorem wi_266 : mm_in (.methodLink "ScreenTalk" 35 ⟨"ScreenTalk$ModeList", "<init>", "()V"⟩) := ⟨List.mem_of_getElem? (i := 266) (by decide +kernel), by decide +kernel⟩
theorem wi_267 : mm_in (.instanceMethod ⟨"ScreenTalk$ModeList", "<init>", "()V"⟩) := ⟨List.mem_of_getElem? (i := 267) (by decide +kernel), by decide +kernel⟩
theorem wi_269 : mm_in (.methodLink "ScreenTalk$ModeList" 3 ⟨"java/lang/Object", "<init>", "()V"⟩) := ⟨List.mem_of_getElem? (i := 269) (by decide +kernel), by decide +kernel⟩
theorem wi_270 : mm_in (.classLink "ScreenTalk$ModeList" 9 "ScreenTalk$Mode") := ⟨List.mem_of_getElem? (i := 270) (by decide +kernel), by decide +kernel⟩
theorem wi_271 : mm_in (.arrayOver (FieldType.object "ScreenTalk$Mode")) := ⟨List.mem_of_getElem? (i := 271) (by decide +kernel), by decide +kernel⟩
theorem wi_272 : mm_in (.classLink "ScreenTalk$ModeList" 21 "ScreenTalk$Timing") := ⟨List.mem_of_getElem? (i := 272) (by decide +kernel), by decide +kernel⟩
theorem wi_273 : mm_in (.methodLinkNest "ScreenTalk$ModeList" 23 ⟨"ScreenTalk$Timing", "<init>", "()V"⟩ "ScreenTalk") := ⟨List.mem_of_getElem? (i := 273) (by decide +kernel), by decide +kernel⟩
theorem wi_274 : mm_in (.instantiable "ScreenTalk$Mode" 4) := ⟨List.mem_of_getElem? (i := 274) (by decide +kernel), by decide +kernel⟩
theorem wi_275 : mm_in (.methodLinkNest "ScreenTalk$ModeList" 28 ⟨"ScreenTalk$Mode", "<init>", "()V"⟩ "ScreenTalk") := ⟨List.mem_of_getElem? (i := 275) (by decide +kernel), by decide +kernel⟩
theorem wi_276 : mm_in (.instanceMethod ⟨"ScreenTalk$Mode", "<init>", "()V"⟩) := ⟨List.mem_of_getElem? (i := 276) (by decide +kernel), by decide +kernel⟩
theorem wi_278 : mm_in (.methodLink "ScreenTalk$Mode" 1 ⟨"java/lang/Object", "<init>", "()V"⟩) := ⟨List.mem_of_getElem? (i := 278) (by decide +kernel), by decide +kernel⟩
theorem wi_279 : mm_in (.classLink "ScreenTalk$Mode" 7 "ScreenTalk$Timing") := ⟨List.mem_of_getElem? (i := 279) (by decide +kernel), by decide +kernel⟩
theorem wi_280 : mm_in (.methodLinkNest "ScreenTalk$Mode" 9 ⟨"ScreenTalk$Timing", "<init>", "()V"⟩ "ScreenTalk") := ⟨List.mem_of_getElem? (i := 280) (by decide +kernel), by decide +kernel⟩
theorem wi_281 : mm_in (.fieldLink "ScreenTalk$Mode" 10 "ScreenTalk$Mode" "timing" "LScreenTalk$Timing;") := ⟨List.mem_of_getElem? (i := 281) (by decide +kernel), by decide +kernel⟩
theorem wi_282 : mm_in (.fieldLinkNest "ScreenTalk$Forge" 45 "ScreenTalk$Mode" "timing" "LScreenTalk$Timing;" "ScreenTalk") := ⟨List.mem_of_getElem? (i := 282) (by decide +kernel), by decide +kernel⟩
theorem wi_283 : mm_in (.fieldLinkNest "ScreenTalk$ModeList" 154 "ScreenTalk$Mode" "timing" "LScreenTalk$Timing;" "ScreenTalk") := ⟨List.mem_of_getElem? (i := 283) (by decide +kernel), by decide +kernel⟩
theorem wi_284 : mm_in (.fieldLinkNest "ScreenTalk" 188 "ScreenTalk$Mode" "timing" "LScreenTalk$Timing;" "ScreenTalk") := ⟨List.mem_of_getElem? (i := 284) (by decide +kernel), by decide +kernel⟩
theorem wi_285 : mm_in (.fieldLink "ScreenTalk$Mode" 23 "ScreenTalk$Mode" "hertz" "I") := ⟨List.mem_of_getElem? (i := 285) (by decide +kernel), by decide +kernel⟩
theorem wi_286 : mm_in (.fieldLinkNest "ScreenTalk$ModeList" 157 "ScreenTalk$Mode" "hertz" "I" "ScreenTalk") := ⟨List.mem_of_getElem? (i := 286) (by decide +kernel), by decide +kernel⟩
theorem wi_287 : mm_in (.fieldLinkNest "ScreenTalk" 199 "ScreenTalk$Mode" "hertz" "I" "ScreenTalk") := ⟨List.mem_of_getElem? (i := 287) (by decide +kernel), by decide +kernel⟩
theorem wi_288 : mm_in (.fieldLinkNest "ScreenTalk$ModeList" 160 "ScreenTalk$Mode" "source" "I" "ScreenTalk") := ⟨List.mem_of_getElem? (i := 288) (by decide +kernel), by decide +kernel⟩
theorem wi_289 : mm_in (.fieldLinkNest "ScreenTalk" 212 "ScreenTalk$Mode" "source" "I" "ScreenTalk") := ⟨List.mem_of_getElem? (i := 289) (by decide +kernel), by decide +kernel⟩
theorem wi_290 : mm_in (.fieldLink "ScreenTalk$Mode" 26 "ScreenTalk$Mode" "preferred" "Z") := ⟨List.mem_of_getElem? (i := 290) (by decide +kernel), by decide +kernel⟩
theorem wi_291 : mm_in (.fieldLinkNest "ScreenTalk$ModeList" 163 "ScreenTalk$Mode" "preferred" "Z" "ScreenTalk") := ⟨List.mem_of_getElem? (i := 291) (by decide +kernel), by decide +kernel⟩
theorem wi_292 : mm_in (.fieldLinkNest "ScreenTalk" 215 "ScreenTalk$Mode" "preferred" "Z" "ScreenTalk") := ⟨List.mem_of_getElem? (i := 292) (by decide +kernel), by decide +kernel⟩
theorem wi_302 : mm_in (.fieldLink "ScreenTalk$ModeList" 11 "ScreenTalk$ModeList" "list" "[LScreenTalk$Mode;") := ⟨List.mem_of_getElem? (i := 302) (by decide +kernel), by decide +kernel⟩
theorem wi_303 : mm_in (.fieldLink "ScreenTalk$ModeList" 17 "ScreenTalk$ModeList" "leftOut" "[I") := ⟨List.mem_of_getElem? (i := 303) (by decide +kernel), by decide +kernel⟩
theorem wi_304 : mm_in (.fieldLink "ScreenTalk$ModeList" 24 "ScreenTalk$ModeList" "next" "LScreenTalk$Timing;") := ⟨List.mem_of_getElem? (i := 304) (by decide +kernel), by decide +kernel⟩
theorem wi_305 : mm_in (.fieldLink "ScreenTalk$ModeList" 113 "ScreenTalk$ModeList" "nextHertz" "I") := ⟨List.mem_of_getElem? (i := 305) (by decide +kernel), by decide +kernel⟩
theorem wi_306 : mm_in (.fieldLink "ScreenTalk$ModeList" 29 "ScreenTalk$ModeList" "size" "I") := ⟨List.mem_of_getElem? (i := 306) (by decide +kernel), by decide +kernel⟩
theorem wi_307 : mm_in (.fieldLinkNest "ScreenTalk" 124 "ScreenTalk$ModeList" "size" "I" "ScreenTalk") := ⟨List.mem_of_getElem? (i := 307) (by decide +kernel), by decide +kernel⟩
theorem wi_308 : mm_in (.fieldLinkNest "ScreenTalk$Forge" 55 "ScreenTalk$ModeList" "size" "I" "ScreenTalk") := ⟨List.mem_of_getElem? (i := 308) (by decide +kernel), by decide +kernel⟩
theorem wi_320 : mm_in (.classLink "ScreenTalk" 40 "ScreenTalk$Forge") := ⟨List.mem_of_getElem? (i := 320) (by decide +kernel), by decide +kernel⟩
theorem wi_321 : mm_in (.instantiable "ScreenTalk$Forge" 2) := ⟨List.mem_of_getElem? (i := 321) (by decide +kernel), by decide +kernel⟩
theorem wi_322 : mm_in (.methodLinkNest "ScreenTalk" 42 ⟨"ScreenTalk$Forge", "<init>", "()V"⟩ "ScreenTalk") := ⟨List.mem_of_getElem? (i := 322) (by decide +kernel), by decide +kernel⟩
theorem wi_323 : mm_in (.instanceMethod ⟨"ScreenTalk$Forge", "<init>", "()V"⟩) := ⟨List.mem_of_getElem? (i := 323) (by decide +kernel), by decide +kernel⟩
theorem wi_325 : mm_in (.methodLink "ScreenTalk$Forge" 3 ⟨"java/lang/Object", "<init>", "()V"⟩) := ⟨List.mem_of_getElem? (i := 325) (by decide +kernel), by decide +kernel⟩
theorem wi_326 : mm_in (.fieldLink "ScreenTalk$Forge" 9 "ScreenTalk$Forge" "cells" "[I") := ⟨List.mem_of_getElem? (i := 326) (by decide +kernel), by decide +kernel⟩
theorem wi_327 : mm_in (.fieldLink "ScreenTalk$Forge" 21 "ScreenTalk$Forge" "fitting" "Z") := ⟨List.mem_of_getElem? (i := 327) (by decide +kernel), by decide +kernel⟩
theorem wi_328 : mm_in (.fieldLinkNest "ScreenTalk" 180 "ScreenTalk$Forge" "fitting" "Z" "ScreenTalk") := ⟨List.mem_of_getElem? (i := 328) (by decide +kernel), by decide +kernel⟩
theorem wi_334 : mm_in (.classLink "ScreenTalk" 47 "ScreenTalk$Timing") := ⟨List.mem_of_getElem? (i := 334) (by decide +kernel), by decide +kernel⟩
theorem wi_335 : mm_in (.methodLinkNest "ScreenTalk" 49 ⟨"ScreenTalk$Timing", "<init>", "()V"⟩ "ScreenTalk") := ⟨List.mem_of_getElem? (i := 335) (by decide +kernel), by decide +kernel⟩
theorem wi_336 : mm_in (.classLink "ScreenTalk" 54 "java/lang/StringBuilder") := ⟨List.mem_of_getElem? (i := 336) (by decide +kernel), by decide +kernel⟩
theorem wi_337 : mm_in (.instantiable "java/lang/StringBuilder" 4) := ⟨List.mem_of_getElem? (i := 337) (by decide +kernel), by decide +kernel⟩
theorem wi_338 : mm_in (.methodLink "ScreenTalk" 56 ⟨"java/lang/StringBuilder", "<init>", "()V"⟩) := ⟨List.mem_of_getElem? (i := 338) (by decide +kernel), by decide +kernel⟩
theorem wi_339 : mm_in (.instanceMethod ⟨"java/lang/StringBuilder", "<init>", "()V"⟩) := ⟨List.mem_of_getElem? (i := 339) (by decide +kernel), by decide +kernel⟩
theorem wi_341 : mm_in (.methodLink "java/lang/StringBuilder" 1 ⟨"java/lang/AbstractStringBuilder", "<init>", "(I)V"⟩) := ⟨List.mem_of_getElem? (i := 341) (by decide +kernel), by decide +kernel⟩
theorem wi_342 : mm_in (.instanceMethod ⟨"java/lang/AbstractStringBuilder", "<init>", "(I)V"⟩) := ⟨List.mem_of_getElem? (i := 342) (by decide +kernel), by decide +kernel⟩
theorem wi_344 : mm_in (.methodLink "java/lang/AbstractStringBuilder" 3 ⟨"java/lang/Object", "<init>", "()V"⟩) := ⟨List.mem_of_getElem? (i := 344) (by decide +kernel), by decide +kernel⟩
theorem wi_345 : mm_in (.fieldLink "java/lang/AbstractStringBuilder" 18 "java/lang/String" "COMPACT_STRINGS" "Z") := ⟨List.mem_of_getElem? (i := 345) (by decide +kernel), by decide +kernel⟩
theorem wi_354 : mm_in (.fieldLink "java/lang/AbstractStringBuilder" 15 "java/lang/AbstractStringBuilder" "value" "[B") := ⟨List.mem_of_getElem? (i := 354) (by decide +kernel), by decide +kernel⟩
theorem wi_355 : mm_in (.fieldLink "java/lang/AbstractStringBuilder" 22 "java/lang/AbstractStringBuilder" "coder" "B") := ⟨List.mem_of_getElem? (i := 355) (by decide +kernel), by decide +kernel⟩
theorem wi_356 : mm_in (.fieldLink "java/lang/AbstractStringBuilder" 73 "java/lang/AbstractStringBuilder" "maybeLatin1" "Z") := ⟨List.mem_of_getElem? (i := 356) (by decide +kernel), by decide +kernel⟩
theorem wi_357 : mm_in (.fieldLink "java/lang/AbstractStringBuilder" 79 "java/lang/AbstractStringBuilder" "count" "I") := ⟨List.mem_of_getElem? (i := 357) (by decide +kernel), by decide +kernel⟩
theorem wi_366 : mm_in (.superclass "java/lang/StringBuilder" "java/lang/AbstractStringBuilder") := ⟨List.mem_of_getElem? (i := 366) (by decide +kernel), by decide +kernel⟩
theorem wi_367 : mm_in (.arrayClass FieldType.byte) := ⟨List.mem_of_getElem? (i := 367) (by decide +kernel), by decide +kernel⟩
theorem wi_368 : mm_in (.classLink "ScreenTalk" 61 "ScreenTalk$Wiring") := ⟨List.mem_of_getElem? (i := 368) (by decide +kernel), by decide +kernel⟩
theorem wi_369 : mm_in (.instantiable "ScreenTalk$Wiring" 4) := ⟨List.mem_of_getElem? (i := 369) (by decide +kernel), by decide +kernel⟩
theorem wi_370 : mm_in (.methodLinkNest "ScreenTalk" 63 ⟨"ScreenTalk$Wiring", "<init>", "()V"⟩ "ScreenTalk") := ⟨List.mem_of_getElem? (i := 370) (by decide +kernel), by decide +kernel⟩
theorem wi_371 : mm_in (.instanceMethod ⟨"ScreenTalk$Wiring", "<init>", "()V"⟩) := ⟨List.mem_of_getElem? (i := 371) (by decide +kernel), by decide +kernel⟩
theorem wi_373 : mm_in (.methodLink "ScreenTalk$Wiring" 3 ⟨"java/lang/Object", "<init>", "()V"⟩) := ⟨List.mem_of_getElem? (i := 373) (by decide +kernel), by decide +kernel⟩
theorem wi_374 : mm_in (.fieldLink "ScreenTalk$Wiring" 9 "ScreenTalk$Wiring" "loss" "[I") := ⟨List.mem_of_getElem? (i := 374) (by decide +kernel), by decide +kernel⟩
theorem wi_375 : mm_in (.fieldLinkNest "ScreenTalk$Training" 113 "ScreenTalk$Wiring" "loss" "[I" "ScreenTalk") := ⟨List.mem_of_getElem? (i := 375) (by decide +kernel), by decide +kernel⟩
theorem wi_376 : mm_in (.fieldLinkNest "ScreenTalk" 293 "ScreenTalk$Wiring" "loss" "[I" "ScreenTalk") := ⟨List.mem_of_getElem? (i := 376) (by decide +kernel), by decide +kernel⟩
theorem wi_377 : mm_in (.fieldLink "ScreenTalk$Wiring" 15 "ScreenTalk$Wiring" "slow" "[I") := ⟨List.mem_of_getElem? (i := 377) (by decide +kernel), by decide +kernel⟩
theorem wi_378 : mm_in (.fieldLinkNest "ScreenTalk$Training" 116 "ScreenTalk$Wiring" "slow" "[I" "ScreenTalk") := ⟨List.mem_of_getElem? (i := 378) (by decide +kernel), by decide +kernel⟩
theorem wi_379 : mm_in (.fieldLinkNest "ScreenTalk" 296 "ScreenTalk$Wiring" "slow" "[I" "ScreenTalk") := ⟨List.mem_of_getElem? (i := 379) (by decide +kernel), by decide +kernel⟩
theorem wi_380 : mm_in (.fieldLink "ScreenTalk$Wiring" 18 "ScreenTalk$Wiring" "lanes" "I") := ⟨List.mem_of_getElem? (i := 380) (by decide +kernel), by decide +kernel⟩
theorem wi_381 : mm_in (.fieldLinkNest "ScreenTalk$Training" 40 "ScreenTalk$Wiring" "lanes" "I" "ScreenTalk") := ⟨List.mem_of_getElem? (i := 381) (by decide +kernel), by decide +kernel⟩
theorem wi_382 : mm_in (.fieldLinkNest "ScreenTalk" 302 "ScreenTalk$Wiring" "lanes" "I" "ScreenTalk") := ⟨List.mem_of_getElem? (i := 382) (by decide +kernel), by decide +kernel⟩
theorem wi_383 : mm_in (.fieldLink "ScreenTalk$Wiring" 22 "ScreenTalk$Wiring" "rate" "I") := ⟨List.mem_of_getElem? (i := 383) (by decide +kernel), by decide +kernel⟩
theorem wi_384 : mm_in (.fieldLinkNest "ScreenTalk$Training" 43 "ScreenTalk$Wiring" "rate" "I" "ScreenTalk") := ⟨List.mem_of_getElem? (i := 384) (by decide +kernel), by decide +kernel⟩
theorem wi_385 : mm_in (.fieldLinkNest "ScreenTalk" 305 "ScreenTalk$Wiring" "rate" "I" "ScreenTalk") := ⟨List.mem_of_getElem? (i := 385) (by decide +kernel), by decide +kernel⟩
theorem wi_395 : mm_in (.classLink "ScreenTalk" 68 "ScreenTalk$Training") := ⟨List.mem_of_getElem? (i := 395) (by decide +kernel), by decide +kernel⟩
theorem wi_396 : mm_in (.instantiable "ScreenTalk$Training" 13) := ⟨List.mem_of_getElem? (i := 396) (by decide +kernel), by decide +kernel⟩
theorem wi_397 : mm_in (.methodLinkNest "ScreenTalk" 70 ⟨"ScreenTalk$Training", "<init>", "()V"⟩ "ScreenTalk") := ⟨List.mem_of_getElem? (i := 397) (by decide +kernel), by decide +kernel⟩
theorem wi_398 : mm_in (.instanceMethod ⟨"ScreenTalk$Training", "<init>", "()V"⟩) := ⟨List.mem_of_getElem? (i := 398) (by decide +kernel), by decide +kernel⟩
theorem wi_400 : mm_in (.methodLink "ScreenTalk$Training" 3 ⟨"java/lang/Object", "<init>", "()V"⟩) := ⟨List.mem_of_getElem? (i := 400) (by decide +kernel), by decide +kernel⟩
theorem wi_401 : mm_in (.fieldLink "ScreenTalk$Training" 9 "ScreenTalk$Training" "swing" "[I") := ⟨List.mem_of_getElem? (i := 401) (by decide +kernel), by decide +kernel⟩
theorem wi_402 : mm_in (.fieldLinkNest "ScreenTalk$Journal" 40 "ScreenTalk$Training" "swing" "[I" "ScreenTalk") := ⟨List.mem_of_getElem? (i := 402) (by decide +kernel), by decide +kernel⟩
theorem wi_403 : mm_in (.fieldLinkNest "ScreenTalk" 345 "ScreenTalk$Training" "swing" "[I" "ScreenTalk") := ⟨List.mem_of_getElem? (i := 403) (by decide +kernel), by decide +kernel⟩
theorem wi_404 : mm_in (.fieldLink "ScreenTalk$Training" 15 "ScreenTalk$Training" "emphasis" "[I") := ⟨List.mem_of_getElem? (i := 404) (by decide +kernel), by decide +kernel⟩
theorem wi_405 : mm_in (.fieldLinkNest "ScreenTalk$Journal" 47 "ScreenTalk$Training" "emphasis" "[I" "ScreenTalk") := ⟨List.mem_of_getElem? (i := 405) (by decide +kernel), by decide +kernel⟩
theorem wi_406 : mm_in (.fieldLinkNest "ScreenTalk" 352 "ScreenTalk$Training" "emphasis" "[I" "ScreenTalk") := ⟨List.mem_of_getElem? (i := 406) (by decide +kernel), by decide +kernel⟩
theorem wi_407 : mm_in (.fieldLink "ScreenTalk$Training" 18 "ScreenTalk$Training" "phase" "I") := ⟨List.mem_of_getElem? (i := 407) (by decide +kernel), by decide +kernel⟩
theorem wi_408 : mm_in (.fieldLinkNest "ScreenTalk$Journal" 25 "ScreenTalk$Training" "phase" "I" "ScreenTalk") := ⟨List.mem_of_getElem? (i := 408) (by decide +kernel), by decide +kernel⟩
theorem wi_409 : mm_in (.fieldLinkNest "ScreenTalk" 331 "ScreenTalk$Training" "phase" "I" "ScreenTalk") := ⟨List.mem_of_getElem? (i := 409) (by decide +kernel), by decide +kernel⟩
theorem wi_410 : mm_in (.fieldLink "ScreenTalk$Training" 22 "ScreenTalk$Training" "lanes" "I") := ⟨List.mem_of_getElem? (i := 410) (by decide +kernel), by decide +kernel⟩
theorem wi_411 : mm_in (.fieldLinkNest "ScreenTalk$Journal" 34 "ScreenTalk$Training" "lanes" "I" "ScreenTalk") := ⟨List.mem_of_getElem? (i := 411) (by decide +kernel), by decide +kernel⟩
theorem wi_412 : mm_in (.fieldLinkNest "ScreenTalk" 334 "ScreenTalk$Training" "lanes" "I" "ScreenTalk") := ⟨List.mem_of_getElem? (i := 412) (by decide +kernel), by decide +kernel⟩
theorem wi_413 : mm_in (.fieldLink "ScreenTalk$Training" 25 "ScreenTalk$Training" "rate" "I") := ⟨List.mem_of_getElem? (i := 413) (by decide +kernel), by decide +kernel⟩
theorem wi_414 : mm_in (.fieldLinkNest "ScreenTalk$Journal" 37 "ScreenTalk$Training" "rate" "I" "ScreenTalk") := ⟨List.mem_of_getElem? (i := 414) (by decide +kernel), by decide +kernel⟩
theorem wi_415 : mm_in (.fieldLinkNest "ScreenTalk" 335 "ScreenTalk$Training" "rate" "I" "ScreenTalk") := ⟨List.mem_of_getElem? (i := 415) (by decide +kernel), by decide +kernel⟩
theorem wi_416 : mm_in (.fieldLink "ScreenTalk$Training" 85 "ScreenTalk$Training" "clocked" "I") := ⟨List.mem_of_getElem? (i := 416) (by decide +kernel), by decide +kernel⟩
theorem wi_417 : mm_in (.fieldLinkNest "ScreenTalk" 355 "ScreenTalk$Training" "clocked" "I" "ScreenTalk") := ⟨List.mem_of_getElem? (i := 417) (by decide +kernel), by decide +kernel⟩
theorem wi_418 : mm_in (.fieldLink "ScreenTalk$Training" 103 "ScreenTalk$Training" "even" "I") := ⟨List.mem_of_getElem? (i := 418) (by decide +kernel), by decide +kernel⟩
theorem wi_419 : mm_in (.fieldLinkNest "ScreenTalk" 358 "ScreenTalk$Training" "even" "I" "ScreenTalk") := ⟨List.mem_of_getElem? (i := 419) (by decide +kernel), by decide +kernel⟩
theorem wi_420 : mm_in (.fieldLink "ScreenTalk$Training" 44 "ScreenTalk$Training" "clockTries" "I") := ⟨List.mem_of_getElem? (i := 420) (by decide +kernel), by decide +kernel⟩
theorem wi_421 : mm_in (.fieldLink "ScreenTalk$Training" 47 "ScreenTalk$Training" "evenTries" "I") := ⟨List.mem_of_getElem? (i := 421) (by decide +kernel), by decide +kernel⟩
theorem wi_422 : mm_in (.fieldLink "ScreenTalk$Training" 75 "ScreenTalk$Training" "triesSinceSwing" "I") := ⟨List.mem_of_getElem? (i := 422) (by decide +kernel), by decide +kernel⟩
theorem wi_423 : mm_in (.fieldLink "ScreenTalk$Training" 28 "ScreenTalk$Training" "triesInAll" "I") := ⟨List.mem_of_getElem? (i := 423) (by decide +kernel), by decide +kernel⟩
theorem wi_424 : mm_in (.fieldLinkNest "ScreenTalk" 339 "ScreenTalk$Training" "triesInAll" "I" "ScreenTalk") := ⟨List.mem_of_getElem? (i := 424) (by decide +kernel), by decide +kernel⟩
theorem wi_425 : mm_in (.fieldLink "ScreenTalk$Training" 31 "ScreenTalk$Training" "falls" "I") := ⟨List.mem_of_getElem? (i := 425) (by decide +kernel), by decide +kernel⟩
theorem wi_426 : mm_in (.fieldLinkNest "ScreenTalk" 342 "ScreenTalk$Training" "falls" "I" "ScreenTalk") := ⟨List.mem_of_getElem? (i := 426) (by decide +kernel), by decide +kernel⟩
theorem wi_427 : mm_in (.fieldLink "ScreenTalk$Training" 88 "ScreenTalk$Training" "found" "I") := ⟨List.mem_of_getElem? (i := 427) (by decide +kernel), by decide +kernel⟩
theorem wi_428 : mm_in (.fieldLinkNest "ScreenTalk" 324 "ScreenTalk$Training" "found" "I" "ScreenTalk") := ⟨List.mem_of_getElem? (i := 428) (by decide +kernel), by decide +kernel⟩
theorem wi_456 : mm_in (.classLink "ScreenTalk" 75 "ScreenTalk$Journal") := ⟨List.mem_of_getElem? (i := 456) (by decide +kernel), by decide +kernel⟩
theorem wi_457 : mm_in (.instantiable "ScreenTalk$Journal" 4) := ⟨List.mem_of_getElem? (i := 457) (by decide +kernel), by decide +kernel⟩
theorem wi_458 : mm_in (.methodLinkNest "ScreenTalk" 77 ⟨"ScreenTalk$Journal", "<init>", "()V"⟩ "ScreenTalk") := ⟨List.mem_of_getElem? (i := 458) (by decide +kernel), by decide +kernel⟩
theorem wi_459 : mm_in (.instanceMethod ⟨"ScreenTalk$Journal", "<init>", "()V"⟩) := ⟨List.mem_of_getElem? (i := 459) (by decide +kernel), by decide +kernel⟩
theorem wi_461 : mm_in (.methodLink "ScreenTalk$Journal" 3 ⟨"java/lang/Object", "<init>", "()V"⟩) := ⟨List.mem_of_getElem? (i := 461) (by decide +kernel), by decide +kernel⟩
theorem wi_462 : mm_in (.fieldLink "ScreenTalk$Journal" 11 "ScreenTalk$Journal" "rows" "[I") := ⟨List.mem_of_getElem? (i := 462) (by decide +kernel), by decide +kernel⟩
theorem wi_463 : mm_in (.fieldLink "ScreenTalk$Journal" 15 "ScreenTalk$Journal" "fallSteps" "[I") := ⟨List.mem_of_getElem? (i := 463) (by decide +kernel), by decide +kernel⟩
theorem wi_464 : mm_in (.fieldLink "ScreenTalk$Journal" 18 "ScreenTalk$Journal" "steps" "I") := ⟨List.mem_of_getElem? (i := 464) (by decide +kernel), by decide +kernel⟩
theorem wi_465 : mm_in (.fieldLinkNest "ScreenTalk" 365 "ScreenTalk$Journal" "steps" "I" "ScreenTalk") := ⟨List.mem_of_getElem? (i := 465) (by decide +kernel), by decide +kernel⟩
theorem wi_466 : mm_in (.fieldLink "ScreenTalk$Journal" 22 "ScreenTalk$Journal" "falls" "I") := ⟨List.mem_of_getElem? (i := 466) (by decide +kernel), by decide +kernel⟩
theorem wi_467 : mm_in (.fieldLinkNest "ScreenTalk" 361 "ScreenTalk$Journal" "falls" "I" "ScreenTalk") := ⟨List.mem_of_getElem? (i := 467) (by decide +kernel), by decide +kernel⟩
theorem wi_477 : mm_in (.fieldLink "ScreenTalk" 10 "ScreenTalk" "tape" "LScreenTalk$Bytes;") := ⟨List.mem_of_getElem? (i := 477) (by decide +kernel), by decide +kernel⟩
theorem wi_478 : mm_in (.fieldLink "ScreenTalk" 16 "ScreenTalk" "latest" "LScreenTalk$Bytes;") := ⟨List.mem_of_getElem? (i := 478) (by decide +kernel), by decide +kernel⟩
theorem wi_479 : mm_in (.fieldLink "ScreenTalk" 22 "ScreenTalk" "inspection" "LScreenTalk$Inspection;") := ⟨List.mem_of_getElem? (i := 479) (by decide +kernel), by decide +kernel⟩
theorem wi_480 : mm_in (.fieldLink "ScreenTalk" 29 "ScreenTalk" "screen" "LScreenTalk$Screen;") := ⟨List.mem_of_getElem? (i := 480) (by decide +kernel), by decide +kernel⟩
theorem wi_481 : mm_in (.fieldLink "ScreenTalk" 36 "ScreenTalk" "modes" "LScreenTalk$ModeList;") := ⟨List.mem_of_getElem? (i := 481) (by decide +kernel), by decide +kernel⟩
theorem wi_482 : mm_in (.fieldLink "ScreenTalk" 43 "ScreenTalk" "forge" "LScreenTalk$Forge;") := ⟨List.mem_of_getElem? (i := 482) (by decide +kernel), by decide +kernel⟩
theorem wi_483 : mm_in (.fieldLink "ScreenTalk" 50 "ScreenTalk" "drawn" "LScreenTalk$Timing;") := ⟨List.mem_of_getElem? (i := 483) (by decide +kernel), by decide +kernel⟩
theorem wi_484 : mm_in (.fieldLink "ScreenTalk" 57 "ScreenTalk" "text" "Ljava/lang/StringBuilder;") := ⟨List.mem_of_getElem? (i := 484) (by decide +kernel), by decide +kernel⟩
theorem wi_485 : mm_in (.fieldLink "ScreenTalk" 64 "ScreenTalk" "wiring" "LScreenTalk$Wiring;") := ⟨List.mem_of_getElem? (i := 485) (by decide +kernel), by decide +kernel⟩
theorem wi_486 : mm_in (.fieldLink "ScreenTalk" 71 "ScreenTalk" "training" "LScreenTalk$Training;") := ⟨List.mem_of_getElem? (i := 486) (by decide +kernel), by decide +kernel⟩
theorem wi_487 : mm_in (.fieldLink "ScreenTalk" 78 "ScreenTalk" "journal" "LScreenTalk$Journal;") := ⟨List.mem_of_getElem? (i := 487) (by decide +kernel), by decide +kernel⟩
theorem wi_488 : mm_in (.fieldLink "ScreenTalk" 82 "ScreenTalk" "paperWiring" "LScreenTalk$Wiring;") := ⟨List.mem_of_getElem? (i := 488) (by decide +kernel), by decide +kernel⟩
theorem wi_489 : mm_in (.fieldLink "ScreenTalk" 85 "ScreenTalk" "paper" "LScreenTalk$Training;") := ⟨List.mem_of_getElem? (i := 489) (by decide +kernel), by decide +kernel⟩
theorem wi_490 : mm_in (.fieldLink "ScreenTalk" 88 "ScreenTalk" "deepest" "I") := ⟨List.mem_of_getElem? (i := 490) (by decide +kernel), by decide +kernel⟩
theorem wi_520 : mm_in (.methodLink "ScreenTalkLaw" 13 ⟨"ScreenTalk", "feed", "(IIIII)I"⟩) := ⟨List.mem_of_getElem? (i := 520) (by decide +kernel), by decide +kernel⟩
theorem wi_521 : mm_in (.instanceMethod ⟨"ScreenTalk", "feed", "(IIIII)I"⟩) := ⟨List.mem_of_getElem? (i := 521) (by decide +kernel), by decide +kernel⟩
theorem wi_522 : mm_in (.selects "ScreenTalk" ⟨"ScreenTalk", "feed", "(IIIII)I"⟩ ⟨"ScreenTalk", "feed", "(IIIII)I"⟩) := ⟨List.mem_of_getElem? (i := 522) (by decide +kernel), by decide +kernel⟩
theorem wi_524 : mm_in (.methodLink "ScreenTalk" 95 ⟨"ScreenTalk$Bytes", "addInt", "(I)V"⟩) := ⟨List.mem_of_getElem? (i := 524) (by decide +kernel), by decide +kernel⟩
theorem wi_525 : mm_in (.instanceMethod ⟨"ScreenTalk$Bytes", "addInt", "(I)V"⟩) := ⟨List.mem_of_getElem? (i := 525) (by decide +kernel), by decide +kernel⟩
theorem wi_526 : mm_in (.selects "ScreenTalk$Bytes" ⟨"ScreenTalk$Bytes", "addInt", "(I)V"⟩ ⟨"ScreenTalk$Bytes", "addInt", "(I)V"⟩) := ⟨List.mem_of_getElem? (i := 526) (by decide +kernel), by decide +kernel⟩
theorem wi_528 : mm_in (.methodLink "ScreenTalkLaw" 18 ⟨"ScreenTalk", "load", "(I)I"⟩) := ⟨List.mem_of_getElem? (i := 528) (by decide +kernel), by decide +kernel⟩
theorem wi_529 : mm_in (.instanceMethod ⟨"ScreenTalk", "load", "(I)I"⟩) := ⟨List.mem_of_getElem? (i := 529) (by decide +kernel), by decide +kernel⟩
theorem wi_530 : mm_in (.selects "ScreenTalk" ⟨"ScreenTalk", "load", "(I)I"⟩ ⟨"ScreenTalk", "load", "(I)I"⟩) := ⟨List.mem_of_getElem? (i := 530) (by decide +kernel), by decide +kernel⟩
theorem wi_532 : mm_in (.methodLink "ScreenTalk" 99 ⟨"ScreenTalk$Bytes", "take", "(LScreenTalk$Bytes;I)V"⟩) := ⟨List.mem_of_getElem? (i := 532) (by decide +kernel), by decide +kernel⟩
theorem wi_533 : mm_in (.instanceMethod ⟨"ScreenTalk$Bytes", "take", "(LScreenTalk$Bytes;I)V"⟩) := ⟨List.mem_of_getElem? (i := 533) (by decide +kernel), by decide +kernel⟩
theorem wi_534 : mm_in (.selects "ScreenTalk$Bytes" ⟨"ScreenTalk$Bytes", "take", "(LScreenTalk$Bytes;I)V"⟩ ⟨"ScreenTalk$Bytes", "take", "(LScreenTalk$Bytes;I)V"⟩) := ⟨List.mem_of_getElem? (i := 534) (by decide +kernel), by decide +kernel⟩
theorem wi_536 : mm_in (.methodLink "ScreenTalk$Bytes" 19 ⟨"java/lang/Math", "min", "(II)I"⟩) := ⟨List.mem_of_getElem? (i := 536) (by decide +kernel), by decide +kernel⟩
theorem wi_537 : mm_in (.static ⟨"java/lang/Math", "min", "(II)I"⟩) := ⟨List.mem_of_getElem? (i := 537) (by decide +kernel), by decide +kernel⟩
theorem wi_539 : mm_in (.methodLink "ScreenTalk$Bytes" 25 ⟨"java/lang/Math", "max", "(II)I"⟩) := ⟨List.mem_of_getElem? (i := 539) (by decide +kernel), by decide +kernel⟩
theorem wi_540 : mm_in (.static ⟨"java/lang/Math", "max", "(II)I"⟩) := ⟨List.mem_of_getElem? (i := 540) (by decide +kernel), by decide +kernel⟩
theorem wi_542 : mm_in (.methodLink "ScreenTalk$Bytes" 28 ⟨"java/lang/System", "arraycopy", "(Ljava/lang/Object;ILjava/lang/Object;II)V"⟩) := ⟨List.mem_of_getElem? (i := 542) (by decide +kernel), by decide +kernel⟩
theorem wi_543 : mm_in (.static ⟨"java/lang/System", "arraycopy", "(Ljava/lang/Object;ILjava/lang/Object;II)V"⟩) := ⟨List.mem_of_getElem? (i := 543) (by decide +kernel), by decide +kernel⟩
theorem wi_544 : mm_in (.native ⟨"java/lang/System", "arraycopy", "(Ljava/lang/Object;ILjava/lang/Object;II)V"⟩) := ⟨List.mem_of_getElem? (i := 544) (by decide +kernel), by decide +kernel⟩
theorem wi_545 : mm_in (.methodLink "ScreenTalk" 103 ⟨"ScreenTalk$Bytes", "clear", "()V"⟩) := ⟨List.mem_of_getElem? (i := 545) (by decide +kernel), by decide +kernel⟩
theorem wi_546 : mm_in (.instanceMethod ⟨"ScreenTalk$Bytes", "clear", "()V"⟩) := ⟨List.mem_of_getElem? (i := 546) (by decide +kernel), by decide +kernel⟩
theorem wi_547 : mm_in (.selects "ScreenTalk$Bytes" ⟨"ScreenTalk$Bytes", "clear", "()V"⟩ ⟨"ScreenTalk$Bytes", "clear", "()V"⟩) := ⟨List.mem_of_getElem? (i := 547) (by decide +kernel), by decide +kernel⟩
theorem wi_549 : mm_in (.methodLink "ScreenTalk" 106 ⟨"ScreenTalk$Inspection", "inspect", "(LScreenTalk$Bytes;)V"⟩) := ⟨List.mem_of_getElem? (i := 549) (by decide +kernel), by decide +kernel⟩
theorem wi_550 : mm_in (.instanceMethod ⟨"ScreenTalk$Inspection", "inspect", "(LScreenTalk$Bytes;)V"⟩) := ⟨List.mem_of_getElem? (i := 550) (by decide +kernel), by decide +kernel⟩
theorem wi_551 : mm_in (.selects "ScreenTalk$Inspection" ⟨"ScreenTalk$Inspection", "inspect", "(LScreenTalk$Bytes;)V"⟩ ⟨"ScreenTalk$Inspection", "inspect", "(LScreenTalk$Bytes;)V"⟩) := ⟨List.mem_of_getElem? (i := 551) (by decide +kernel), by decide +kernel⟩
theorem wi_553 : mm_in (.methodLink "ScreenTalk$Inspection" 23 ⟨"ScreenTalk$Inspection", "note", "(II)V"⟩) := ⟨List.mem_of_getElem? (i := 553) (by decide +kernel), by decide +kernel⟩
theorem wi_555 : mm_in (.instanceMethod ⟨"ScreenTalk$Inspection", "note", "(II)V"⟩) := ⟨List.mem_of_getElem? (i := 555) (by decide +kernel), by decide +kernel⟩
theorem wi_557 : mm_in (.methodLink "ScreenTalk$Inspection" 27 ⟨"ScreenTalk$Inspection", "inspectHead", "(LScreenTalk$Bytes;I)V"⟩) := ⟨List.mem_of_getElem? (i := 557) (by decide +kernel), by decide +kernel⟩
theorem wi_559 : mm_in (.instanceMethod ⟨"ScreenTalk$Inspection", "inspectHead", "(LScreenTalk$Bytes;I)V"⟩) := ⟨List.mem_of_getElem? (i := 559) (by decide +kernel), by decide +kernel⟩
theorem wi_561 : mm_in (.methodLink "ScreenTalk$Inspection" 35 ⟨"ScreenTalk$Bytes", "at", "(I)I"⟩) := ⟨List.mem_of_getElem? (i := 561) (by decide +kernel), by decide +kernel⟩
theorem wi_562 : mm_in (.instanceMethod ⟨"ScreenTalk$Bytes", "at", "(I)I"⟩) := ⟨List.mem_of_getElem? (i := 562) (by decide +kernel), by decide +kernel⟩
theorem wi_563 : mm_in (.selects "ScreenTalk$Bytes" ⟨"ScreenTalk$Bytes", "at", "(I)I"⟩ ⟨"ScreenTalk$Bytes", "at", "(I)I"⟩) := ⟨List.mem_of_getElem? (i := 563) (by decide +kernel), by decide +kernel⟩
theorem wi_565 : mm_in (.methodLinkNest "ScreenTalk$Inspection" 41 ⟨"ScreenTalk", "headByte", "(I)I"⟩ "ScreenTalk") := ⟨List.mem_of_getElem? (i := 565) (by decide +kernel), by decide +kernel⟩
theorem wi_566 : mm_in (.static ⟨"ScreenTalk", "headByte", "(I)I"⟩) := ⟨List.mem_of_getElem? (i := 566) (by decide +kernel), by decide +kernel⟩
theorem wi_568 : mm_in (.methodLink "ScreenTalk$Inspection" 31 ⟨"ScreenTalk$Bytes", "sumOfBlock", "(I)I"⟩) := ⟨List.mem_of_getElem? (i := 568) (by decide +kernel), by decide +kernel⟩
theorem wi_569 : mm_in (.instanceMethod ⟨"ScreenTalk$Bytes", "sumOfBlock", "(I)I"⟩) := ⟨List.mem_of_getElem? (i := 569) (by decide +kernel), by decide +kernel⟩
theorem wi_570 : mm_in (.selects "ScreenTalk$Bytes" ⟨"ScreenTalk$Bytes", "sumOfBlock", "(I)I"⟩ ⟨"ScreenTalk$Bytes", "sumOfBlock", "(I)I"⟩) := ⟨List.mem_of_getElem? (i := 570) (by decide +kernel), by decide +kernel⟩
theorem wi_572 : mm_in (.methodLink "ScreenTalk$Bytes" 34 ⟨"ScreenTalk$Bytes", "at", "(I)I"⟩) := ⟨List.mem_of_getElem? (i := 572) (by decide +kernel), by decide +kernel⟩
theorem wi_573 : mm_in (.methodLink "ScreenTalk$Inspection" 38 ⟨"ScreenTalk$Inspection", "inspectExtension", "(LScreenTalk$Bytes;I)V"⟩) := ⟨List.mem_of_getElem? (i := 573) (by decide +kernel), by decide +kernel⟩
theorem wi_575 : mm_in (.instanceMethod ⟨"ScreenTalk$Inspection", "inspectExtension", "(LScreenTalk$Bytes;I)V"⟩) := ⟨List.mem_of_getElem? (i := 575) (by decide +kernel), by decide +kernel⟩
theorem wi_577 : mm_in (.methodLink "ScreenTalk" 113 ⟨"ScreenTalk$Screen", "read", "(LScreenTalk$Bytes;)V"⟩) := ⟨List.mem_of_getElem? (i := 577) (by decide +kernel), by decide +kernel⟩
theorem wi_578 : mm_in (.instanceMethod ⟨"ScreenTalk$Screen", "read", "(LScreenTalk$Bytes;)V"⟩) := ⟨List.mem_of_getElem? (i := 578) (by decide +kernel), by decide +kernel⟩
theorem wi_579 : mm_in (.selects "ScreenTalk$Screen" ⟨"ScreenTalk$Screen", "read", "(LScreenTalk$Bytes;)V"⟩ ⟨"ScreenTalk$Screen", "read", "(LScreenTalk$Bytes;)V"⟩) := ⟨List.mem_of_getElem? (i := 579) (by decide +kernel), by decide +kernel⟩
theorem wi_581 : mm_in (.methodLink "ScreenTalk$Screen" 39 ⟨"ScreenTalk$Bytes", "take", "(LScreenTalk$Bytes;I)V"⟩) := ⟨List.mem_of_getElem? (i := 581) (by decide +kernel), by decide +kernel⟩
theorem wi_582 : mm_in (.methodLink "ScreenTalk$Screen" 65 ⟨"ScreenTalk$Screen", "readBaseDescriptor", "(I)V"⟩) := ⟨List.mem_of_getElem? (i := 582) (by decide +kernel), by decide +kernel⟩
theorem wi_584 : mm_in (.instanceMethod ⟨"ScreenTalk$Screen", "readBaseDescriptor", "(I)V"⟩) := ⟨List.mem_of_getElem? (i := 584) (by decide +kernel), by decide +kernel⟩
theorem wi_586 : mm_in (.methodLink "ScreenTalk$Screen" 83 ⟨"ScreenTalk$Screen", "hasClock", "(I)Z"⟩) := ⟨List.mem_of_getElem? (i := 586) (by decide +kernel), by decide +kernel⟩
theorem wi_588 : mm_in (.instanceMethod ⟨"ScreenTalk$Screen", "hasClock", "(I)Z"⟩) := ⟨List.mem_of_getElem? (i := 588) (by decide +kernel), by decide +kernel⟩
theorem wi_590 : mm_in (.methodLink "ScreenTalk$Screen" 72 ⟨"ScreenTalk$Bytes", "at", "(I)I"⟩) := ⟨List.mem_of_getElem? (i := 590) (by decide +kernel), by decide +kernel⟩
theorem wi_591 : mm_in (.methodLink "ScreenTalk$Screen" 87 ⟨"ScreenTalk$Screen", "addDetailed", "(I)V"⟩) := ⟨List.mem_of_getElem? (i := 591) (by decide +kernel), by decide +kernel⟩
theorem wi_593 : mm_in (.instanceMethod ⟨"ScreenTalk$Screen", "addDetailed", "(I)V"⟩) := ⟨List.mem_of_getElem? (i := 593) (by decide +kernel), by decide +kernel⟩
theorem wi_595 : mm_in (.methodLink "ScreenTalk$Screen" 96 ⟨"ScreenTalk$Timing", "read", "(LScreenTalk$Bytes;I)V"⟩) := ⟨List.mem_of_getElem? (i := 595) (by decide +kernel), by decide +kernel⟩
theorem wi_596 : mm_in (.instanceMethod ⟨"ScreenTalk$Timing", "read", "(LScreenTalk$Bytes;I)V"⟩) := ⟨List.mem_of_getElem? (i := 596) (by decide +kernel), by decide +kernel⟩
theorem wi_597 : mm_in (.selects "ScreenTalk$Timing" ⟨"ScreenTalk$Timing", "read", "(LScreenTalk$Bytes;I)V"⟩ ⟨"ScreenTalk$Timing", "read", "(LScreenTalk$Bytes;I)V"⟩) := ⟨List.mem_of_getElem? (i := 597) (by decide +kernel), by decide +kernel⟩
theorem wi_599 : mm_in (.methodLink "ScreenTalk$Timing" 9 ⟨"ScreenTalk$Bytes", "at", "(I)I"⟩) := ⟨List.mem_of_getElem? (i := 599) (by decide +kernel), by decide +kernel⟩
theorem wi_600 : mm_in (.methodLink "ScreenTalk$Screen" 90 ⟨"ScreenTalk$Screen", "readName", "(I)V"⟩) := ⟨List.mem_of_getElem? (i := 600) (by decide +kernel), by decide +kernel⟩
theorem wi_602 : mm_in (.instanceMethod ⟨"ScreenTalk$Screen", "readName", "(I)V"⟩) := ⟨List.mem_of_getElem? (i := 602) (by decide +kernel), by decide +kernel⟩
theorem wi_604 : mm_in (.methodLink "ScreenTalk$Screen" 93 ⟨"ScreenTalk$Screen", "readRange", "(I)V"⟩) := ⟨List.mem_of_getElem? (i := 604) (by decide +kernel), by decide +kernel⟩
theorem wi_606 : mm_in (.instanceMethod ⟨"ScreenTalk$Screen", "readRange", "(I)V"⟩) := ⟨List.mem_of_getElem? (i := 606) (by decide +kernel), by decide +kernel⟩
theorem wi_608 : mm_in (.methodLink "ScreenTalk$Screen" 76 ⟨"ScreenTalk$Screen", "readData", "(II)V"⟩) := ⟨List.mem_of_getElem? (i := 608) (by decide +kernel), by decide +kernel⟩
theorem wi_610 : mm_in (.instanceMethod ⟨"ScreenTalk$Screen", "readData", "(II)V"⟩) := ⟨List.mem_of_getElem? (i := 610) (by decide +kernel), by decide +kernel⟩
theorem wi_612 : mm_in (.methodLink "ScreenTalk$Screen" 99 ⟨"ScreenTalk$Screen", "readCodes", "(II)V"⟩) := ⟨List.mem_of_getElem? (i := 612) (by decide +kernel), by decide +kernel⟩
theorem wi_614 : mm_in (.instanceMethod ⟨"ScreenTalk$Screen", "readCodes", "(II)V"⟩) := ⟨List.mem_of_getElem? (i := 614) (by decide +kernel), by decide +kernel⟩
theorem wi_616 : mm_in (.methodLink "ScreenTalk$Screen" 102 ⟨"ScreenTalk$Screen", "readMost", "(I)V"⟩) := ⟨List.mem_of_getElem? (i := 616) (by decide +kernel), by decide +kernel⟩
theorem wi_618 : mm_in (.instanceMethod ⟨"ScreenTalk$Screen", "readMost", "(I)V"⟩) := ⟨List.mem_of_getElem? (i := 618) (by decide +kernel), by decide +kernel⟩
theorem wi_620 : mm_in (.methodLink "ScreenTalk$Screen" 80 ⟨"ScreenTalk$Screen", "readDetailedFrom", "(II)V"⟩) := ⟨List.mem_of_getElem? (i := 620) (by decide +kernel), by decide +kernel⟩
theorem wi_622 : mm_in (.instanceMethod ⟨"ScreenTalk$Screen", "readDetailedFrom", "(II)V"⟩) := ⟨List.mem_of_getElem? (i := 622) (by decide +kernel), by decide +kernel⟩
theorem wi_624 : mm_in (.methodLink "ScreenTalk" 116 ⟨"ScreenTalk$ModeList", "collect", "(LScreenTalk$Screen;)V"⟩) := ⟨List.mem_of_getElem? (i := 624) (by decide +kernel), by decide +kernel⟩
theorem wi_625 : mm_in (.instanceMethod ⟨"ScreenTalk$ModeList", "collect", "(LScreenTalk$Screen;)V"⟩) := ⟨List.mem_of_getElem? (i := 625) (by decide +kernel), by decide +kernel⟩
theorem wi_626 : mm_in (.selects "ScreenTalk$ModeList" ⟨"ScreenTalk$ModeList", "collect", "(LScreenTalk$Screen;)V"⟩ ⟨"ScreenTalk$ModeList", "collect", "(LScreenTalk$Screen;)V"⟩) := ⟨List.mem_of_getElem? (i := 626) (by decide +kernel), by decide +kernel⟩
theorem wi_628 : mm_in (.methodLink "ScreenTalk$ModeList" 37 ⟨"java/util/Arrays", "fill", "([II)V"⟩) := ⟨List.mem_of_getElem? (i := 628) (by decide +kernel), by decide +kernel⟩
theorem wi_629 : mm_in (.static ⟨"java/util/Arrays", "fill", "([II)V"⟩) := ⟨List.mem_of_getElem? (i := 629) (by decide +kernel), by decide +kernel⟩
theorem wi_631 : mm_in (.methodLinkNest "ScreenTalk$ModeList" 43 ⟨"ScreenTalk$Screen", "hasClock", "(I)Z"⟩ "ScreenTalk") := ⟨List.mem_of_getElem? (i := 631) (by decide +kernel), by decide +kernel⟩
theorem wi_632 : mm_in (.methodLink "ScreenTalk$ModeList" 52 ⟨"ScreenTalk$Screen", "detailedAt", "(I)LScreenTalk$Timing;"⟩) := ⟨List.mem_of_getElem? (i := 632) (by decide +kernel), by decide +kernel⟩
theorem wi_633 : mm_in (.instanceMethod ⟨"ScreenTalk$Screen", "detailedAt", "(I)LScreenTalk$Timing;"⟩) := ⟨List.mem_of_getElem? (i := 633) (by decide +kernel), by decide +kernel⟩
theorem wi_634 : mm_in (.selects "ScreenTalk$Screen" ⟨"ScreenTalk$Screen", "detailedAt", "(I)LScreenTalk$Timing;"⟩ ⟨"ScreenTalk$Screen", "detailedAt", "(I)LScreenTalk$Timing;"⟩) := ⟨List.mem_of_getElem? (i := 634) (by decide +kernel), by decide +kernel⟩
theorem wi_636 : mm_in (.methodLink "ScreenTalk$ModeList" 56 ⟨"ScreenTalk$Timing", "copy", "(LScreenTalk$Timing;)V"⟩) := ⟨List.mem_of_getElem? (i := 636) (by decide +kernel), by decide +kernel⟩
theorem wi_637 : mm_in (.instanceMethod ⟨"ScreenTalk$Timing", "copy", "(LScreenTalk$Timing;)V"⟩) := ⟨List.mem_of_getElem? (i := 637) (by decide +kernel), by decide +kernel⟩
theorem wi_638 : mm_in (.selects "ScreenTalk$Timing" ⟨"ScreenTalk$Timing", "copy", "(LScreenTalk$Timing;)V"⟩ ⟨"ScreenTalk$Timing", "copy", "(LScreenTalk$Timing;)V"⟩) := ⟨List.mem_of_getElem? (i := 638) (by decide +kernel), by decide +kernel⟩
theorem wi_640 : mm_in (.methodLink "ScreenTalk$ModeList" 63 ⟨"ScreenTalk$ModeList", "offer", "(LScreenTalk$Screen;IZ)V"⟩) := ⟨List.mem_of_getElem? (i := 640) (by decide +kernel), by decide +kernel⟩
theorem wi_642 : mm_in (.instanceMethod ⟨"ScreenTalk$ModeList", "offer", "(LScreenTalk$Screen;IZ)V"⟩) := ⟨List.mem_of_getElem? (i := 642) (by decide +kernel), by decide +kernel⟩
theorem wi_644 : mm_in (.methodLink "ScreenTalk$ModeList" 109 ⟨"ScreenTalk$Timing", "nearestHertz", "()I"⟩) := ⟨List.mem_of_getElem? (i := 644) (by decide +kernel), by decide +kernel⟩
theorem wi_645 : mm_in (.instanceMethod ⟨"ScreenTalk$Timing", "nearestHertz", "()I"⟩) := ⟨List.mem_of_getElem? (i := 645) (by decide +kernel), by decide +kernel⟩
theorem wi_646 : mm_in (.selects "ScreenTalk$Timing" ⟨"ScreenTalk$Timing", "nearestHertz", "()I"⟩ ⟨"ScreenTalk$Timing", "nearestHertz", "()I"⟩) := ⟨List.mem_of_getElem? (i := 646) (by decide +kernel), by decide +kernel⟩
theorem wi_648 : mm_in (.methodLink "ScreenTalk$Timing" 61 ⟨"ScreenTalk$Timing", "pixels", "()J"⟩) := ⟨List.mem_of_getElem? (i := 648) (by decide +kernel), by decide +kernel⟩
theorem wi_649 : mm_in (.instanceMethod ⟨"ScreenTalk$Timing", "pixels", "()J"⟩) := ⟨List.mem_of_getElem? (i := 649) (by decide +kernel), by decide +kernel⟩
theorem wi_650 : mm_in (.selects "ScreenTalk$Timing" ⟨"ScreenTalk$Timing", "pixels", "()J"⟩ ⟨"ScreenTalk$Timing", "pixels", "()J"⟩) := ⟨List.mem_of_getElem? (i := 650) (by decide +kernel), by decide +kernel⟩
theorem wi_652 : mm_in (.constantLong "ScreenTalk$Timing" 82 (Int64.ofInt (2000))) := ⟨List.mem_of_getElem? (i := 652) (by decide +kernel), by decide +kernel⟩
theorem wi_653 : mm_in (.constantLong "ScreenTalk$Timing" 84 (Int64.ofInt (2))) := ⟨List.mem_of_getElem? (i := 653) (by decide +kernel), by decide +kernel⟩
theorem wi_654 : mm_in (.methodLink "ScreenTalk$ModeList" 116 ⟨"ScreenTalk$ModeList", "whyLeftOut", "(LScreenTalk$Screen;)I"⟩) := ⟨List.mem_of_getElem? (i := 654) (by decide +kernel), by decide +kernel⟩
theorem wi_656 : mm_in (.instanceMethod ⟨"ScreenTalk$ModeList", "whyLeftOut", "(LScreenTalk$Screen;)I"⟩) := ⟨List.mem_of_getElem? (i := 656) (by decide +kernel), by decide +kernel⟩
theorem wi_658 : mm_in (.methodLink "ScreenTalk$ModeList" 124 ⟨"ScreenTalk$Timing", "isBroken", "()Z"⟩) := ⟨List.mem_of_getElem? (i := 658) (by decide +kernel), by decide +kernel⟩
theorem wi_659 : mm_in (.instanceMethod ⟨"ScreenTalk$Timing", "isBroken", "()Z"⟩) := ⟨List.mem_of_getElem? (i := 659) (by decide +kernel), by decide +kernel⟩
theorem wi_660 : mm_in (.selects "ScreenTalk$Timing" ⟨"ScreenTalk$Timing", "isBroken", "()Z"⟩ ⟨"ScreenTalk$Timing", "isBroken", "()Z"⟩) := ⟨List.mem_of_getElem? (i := 660) (by decide +kernel), by decide +kernel⟩
theorem wi_662 : mm_in (.methodLink "ScreenTalk$ModeList" 132 ⟨"ScreenTalk$Timing", "lineRate", "()I"⟩) := ⟨List.mem_of_getElem? (i := 662) (by decide +kernel), by decide +kernel⟩
theorem wi_663 : mm_in (.instanceMethod ⟨"ScreenTalk$Timing", "lineRate", "()I"⟩) := ⟨List.mem_of_getElem? (i := 663) (by decide +kernel), by decide +kernel⟩
theorem wi_664 : mm_in (.selects "ScreenTalk$Timing" ⟨"ScreenTalk$Timing", "lineRate", "()I"⟩ ⟨"ScreenTalk$Timing", "lineRate", "()I"⟩) := ⟨List.mem_of_getElem? (i := 664) (by decide +kernel), by decide +kernel⟩
theorem wi_666 : mm_in (.methodLink "ScreenTalk$Timing" 92 ⟨"ScreenTalk$Timing", "wholeH", "()I"⟩) := ⟨List.mem_of_getElem? (i := 666) (by decide +kernel), by decide +kernel⟩
theorem wi_667 : mm_in (.instanceMethod ⟨"ScreenTalk$Timing", "wholeH", "()I"⟩) := ⟨List.mem_of_getElem? (i := 667) (by decide +kernel), by decide +kernel⟩
theorem wi_668 : mm_in (.selects "ScreenTalk$Timing" ⟨"ScreenTalk$Timing", "wholeH", "()I"⟩ ⟨"ScreenTalk$Timing", "wholeH", "()I"⟩) := ⟨List.mem_of_getElem? (i := 668) (by decide +kernel), by decide +kernel⟩
theorem wi_670 : mm_in (.methodLink "ScreenTalk$ModeList" 138 ⟨"ScreenTalk$Screen", "isInRange", "(III)Z"⟩) := ⟨List.mem_of_getElem? (i := 670) (by decide +kernel), by decide +kernel⟩
theorem wi_671 : mm_in (.instanceMethod ⟨"ScreenTalk$Screen", "isInRange", "(III)Z"⟩) := ⟨List.mem_of_getElem? (i := 671) (by decide +kernel), by decide +kernel⟩
theorem wi_672 : mm_in (.selects "ScreenTalk$Screen" ⟨"ScreenTalk$Screen", "isInRange", "(III)Z"⟩ ⟨"ScreenTalk$Screen", "isInRange", "(III)Z"⟩) := ⟨List.mem_of_getElem? (i := 672) (by decide +kernel), by decide +kernel⟩
theorem wi_674 : mm_in (.methodLink "ScreenTalk$ModeList" 150 ⟨"ScreenTalk$ModeList", "indexOf", "(III)I"⟩) := ⟨List.mem_of_getElem? (i := 674) (by decide +kernel), by decide +kernel⟩
theorem wi_675 : mm_in (.instanceMethod ⟨"ScreenTalk$ModeList", "indexOf", "(III)I"⟩) := ⟨List.mem_of_getElem? (i := 675) (by decide +kernel), by decide +kernel⟩
theorem wi_676 : mm_in (.selects "ScreenTalk$ModeList" ⟨"ScreenTalk$ModeList", "indexOf", "(III)I"⟩ ⟨"ScreenTalk$ModeList", "indexOf", "(III)I"⟩) := ⟨List.mem_of_getElem? (i := 676) (by decide +kernel), by decide +kernel⟩
theorem wi_678 : mm_in (.methodLink "ScreenTalk$ModeList" 33 ⟨"ScreenTalk$Mode", "isLike", "(III)Z"⟩) := ⟨List.mem_of_getElem? (i := 678) (by decide +kernel), by decide +kernel⟩
theorem wi_679 : mm_in (.instanceMethod ⟨"ScreenTalk$Mode", "isLike", "(III)Z"⟩) := ⟨List.mem_of_getElem? (i := 679) (by decide +kernel), by decide +kernel⟩
theorem wi_680 : mm_in (.selects "ScreenTalk$Mode" ⟨"ScreenTalk$Mode", "isLike", "(III)Z"⟩ ⟨"ScreenTalk$Mode", "isLike", "(III)Z"⟩) := ⟨List.mem_of_getElem? (i := 680) (by decide +kernel), by decide +kernel⟩
theorem wi_682 : mm_in (.methodLink "ScreenTalk$ModeList" 120 ⟨"ScreenTalk$ModeList", "insert", "(IZ)V"⟩) := ⟨List.mem_of_getElem? (i := 682) (by decide +kernel), by decide +kernel⟩
theorem wi_684 : mm_in (.instanceMethod ⟨"ScreenTalk$ModeList", "insert", "(IZ)V"⟩) := ⟨List.mem_of_getElem? (i := 684) (by decide +kernel), by decide +kernel⟩
theorem wi_686 : mm_in (.methodLink "ScreenTalk$ModeList" 166 ⟨"ScreenTalk$Mode", "comesAhead", "(LScreenTalk$Mode;)Z"⟩) := ⟨List.mem_of_getElem? (i := 686) (by decide +kernel), by decide +kernel⟩
theorem wi_687 : mm_in (.instanceMethod ⟨"ScreenTalk$Mode", "comesAhead", "(LScreenTalk$Mode;)Z"⟩) := ⟨List.mem_of_getElem? (i := 687) (by decide +kernel), by decide +kernel⟩
theorem wi_688 : mm_in (.selects "ScreenTalk$Mode" ⟨"ScreenTalk$Mode", "comesAhead", "(LScreenTalk$Mode;)Z"⟩ ⟨"ScreenTalk$Mode", "comesAhead", "(LScreenTalk$Mode;)Z"⟩) := ⟨List.mem_of_getElem? (i := 688) (by decide +kernel), by decide +kernel⟩
theorem wi_690 : mm_in (.methodLink "ScreenTalk$ModeList" 70 ⟨"ScreenTalk$Screen", "codeAt", "(I)I"⟩) := ⟨List.mem_of_getElem? (i := 690) (by decide +kernel), by decide +kernel⟩
theorem wi_691 : mm_in (.instanceMethod ⟨"ScreenTalk$Screen", "codeAt", "(I)I"⟩) := ⟨List.mem_of_getElem? (i := 691) (by decide +kernel), by decide +kernel⟩
theorem wi_692 : mm_in (.selects "ScreenTalk$Screen" ⟨"ScreenTalk$Screen", "codeAt", "(I)I"⟩ ⟨"ScreenTalk$Screen", "codeAt", "(I)I"⟩) := ⟨List.mem_of_getElem? (i := 692) (by decide +kernel), by decide +kernel⟩
theorem wi_694 : mm_in (.methodLink "ScreenTalk$ModeList" 74 ⟨"ScreenTalk$ModeList", "offerCode", "(LScreenTalk$Screen;I)V"⟩) := ⟨List.mem_of_getElem? (i := 694) (by decide +kernel), by decide +kernel⟩
theorem wi_696 : mm_in (.instanceMethod ⟨"ScreenTalk$ModeList", "offerCode", "(LScreenTalk$Screen;I)V"⟩) := ⟨List.mem_of_getElem? (i := 696) (by decide +kernel), by decide +kernel⟩
theorem wi_698 : mm_in (.fieldLinkNest "ScreenTalk$ModeList" 98 "ScreenTalk" "CODE_ROWS" "[I" "ScreenTalk") := ⟨List.mem_of_getElem? (i := 698) (by decide +kernel), by decide +kernel⟩
theorem wi_700 : mm_in (.methodLink "ScreenTalk$ModeList" 101 ⟨"ScreenTalk$Timing", "setByTable", "(I)V"⟩) := ⟨List.mem_of_getElem? (i := 700) (by decide +kernel), by decide +kernel⟩
theorem wi_701 : mm_in (.instanceMethod ⟨"ScreenTalk$Timing", "setByTable", "(I)V"⟩) := ⟨List.mem_of_getElem? (i := 701) (by decide +kernel), by decide +kernel⟩
theorem wi_702 : mm_in (.selects "ScreenTalk$Timing" ⟨"ScreenTalk$Timing", "setByTable", "(I)V"⟩ ⟨"ScreenTalk$Timing", "setByTable", "(I)V"⟩) := ⟨List.mem_of_getElem? (i := 702) (by decide +kernel), by decide +kernel⟩
theorem wi_704 : mm_in (.fieldLinkNest "ScreenTalk$Timing" 73 "ScreenTalk" "CODE_ROWS" "[I" "ScreenTalk") := ⟨List.mem_of_getElem? (i := 704) (by decide +kernel), by decide +kernel⟩
theorem wi_705 : mm_in (.methodLink "ScreenTalk$ModeList" 82 ⟨"ScreenTalk$Bytes", "at", "(I)I"⟩) := ⟨List.mem_of_getElem? (i := 705) (by decide +kernel), by decide +kernel⟩
theorem wi_706 : mm_in (.methodLink "ScreenTalk$ModeList" 87 ⟨"ScreenTalk$ModeList", "offerStandard", "(LScreenTalk$Screen;II)V"⟩) := ⟨List.mem_of_getElem? (i := 706) (by decide +kernel), by decide +kernel⟩
theorem wi_708 : mm_in (.instanceMethod ⟨"ScreenTalk$ModeList", "offerStandard", "(LScreenTalk$Screen;II)V"⟩) := ⟨List.mem_of_getElem? (i := 708) (by decide +kernel), by decide +kernel⟩
theorem wi_710 : mm_in (.methodLink "ScreenTalk$ModeList" 105 ⟨"ScreenTalk$ModeList", "standardHeight", "(II)I"⟩) := ⟨List.mem_of_getElem? (i := 710) (by decide +kernel), by decide +kernel⟩
theorem wi_711 : mm_in (.static ⟨"ScreenTalk$ModeList", "standardHeight", "(II)I"⟩) := ⟨List.mem_of_getElem? (i := 711) (by decide +kernel), by decide +kernel⟩
theorem wi_713 : mm_in (.methodLink "ScreenTalk$ModeList" 94 ⟨"ScreenTalk$Timing", "draw", "(IIII)V"⟩) := ⟨List.mem_of_getElem? (i := 713) (by decide +kernel), by decide +kernel⟩
theorem wi_714 : mm_in (.instanceMethod ⟨"ScreenTalk$Timing", "draw", "(IIII)V"⟩) := ⟨List.mem_of_getElem? (i := 714) (by decide +kernel), by decide +kernel⟩
theorem wi_715 : mm_in (.selects "ScreenTalk$Timing" ⟨"ScreenTalk$Timing", "draw", "(IIII)V"⟩ ⟨"ScreenTalk$Timing", "draw", "(IIII)V"⟩) := ⟨List.mem_of_getElem? (i := 715) (by decide +kernel), by decide +kernel⟩
theorem wi_717 : mm_in (.methodLink "ScreenTalk$Timing" 49 ⟨"ScreenTalk$Timing", "blankLines", "(II)I"⟩) := ⟨List.mem_of_getElem? (i := 717) (by decide +kernel), by decide +kernel⟩
theorem wi_718 : mm_in (.static ⟨"ScreenTalk$Timing", "blankLines", "(II)I"⟩) := ⟨List.mem_of_getElem? (i := 718) (by decide +kernel), by decide +kernel⟩
theorem wi_720 : mm_in (.constantLong "ScreenTalk$Timing" 69 (Int64.ofInt (1000000))) := ⟨List.mem_of_getElem? (i := 720) (by decide +kernel), by decide +kernel⟩
theorem wi_721 : mm_in (.constantLong "ScreenTalk$Timing" 71 (Int64.ofInt (460))) := ⟨List.mem_of_getElem? (i := 721) (by decide +kernel), by decide +kernel⟩
theorem wi_722 : mm_in (.methodLink "ScreenTalk$Timing" 53 ⟨"ScreenTalk$Timing", "plainSync", "(II)I"⟩) := ⟨List.mem_of_getElem? (i := 722) (by decide +kernel), by decide +kernel⟩
theorem wi_723 : mm_in (.static ⟨"ScreenTalk$Timing", "plainSync", "(II)I"⟩) := ⟨List.mem_of_getElem? (i := 723) (by decide +kernel), by decide +kernel⟩
theorem wi_725 : mm_in (.methodLink "ScreenTalk$Timing" 56 ⟨"java/lang/Math", "max", "(II)I"⟩) := ⟨List.mem_of_getElem? (i := 725) (by decide +kernel), by decide +kernel⟩
theorem wi_726 : mm_in (.constantLong "ScreenTalk$Timing" 65 (Int64.ofInt (250000))) := ⟨List.mem_of_getElem? (i := 726) (by decide +kernel), by decide +kernel⟩
theorem wi_727 : mm_in (.constantLong "ScreenTalk$Timing" 67 (Int64.ofInt (1000))) := ⟨List.mem_of_getElem? (i := 727) (by decide +kernel), by decide +kernel⟩
theorem wi_728 : mm_in (.fieldLinkNest "ScreenTalk$ModeList" 91 "ScreenTalk" "ESTABLISHED_ROWS" "[I" "ScreenTalk") := ⟨List.mem_of_getElem? (i := 728) (by decide +kernel), by decide +kernel⟩
theorem wi_730 : mm_in (.methodLink "ScreenTalk" 120 ⟨"ScreenTalk$Forge", "make", "(LScreenTalk$Screen;LScreenTalk$ModeList;)V"⟩) := ⟨List.mem_of_getElem? (i := 730) (by decide +kernel), by decide +kernel⟩
theorem wi_731 : mm_in (.instanceMethod ⟨"ScreenTalk$Forge", "make", "(LScreenTalk$Screen;LScreenTalk$ModeList;)V"⟩) := ⟨List.mem_of_getElem? (i := 731) (by decide +kernel), by decide +kernel⟩
theorem wi_732 : mm_in (.selects "ScreenTalk$Forge" ⟨"ScreenTalk$Forge", "make", "(LScreenTalk$Screen;LScreenTalk$ModeList;)V"⟩ ⟨"ScreenTalk$Forge", "make", "(LScreenTalk$Screen;LScreenTalk$ModeList;)V"⟩) := ⟨List.mem_of_getElem? (i := 732) (by decide +kernel), by decide +kernel⟩
theorem wi_734 : mm_in (.methodLink "ScreenTalk$Forge" 15 ⟨"java/util/Arrays", "fill", "([II)V"⟩) := ⟨List.mem_of_getElem? (i := 734) (by decide +kernel), by decide +kernel⟩
theorem wi_735 : mm_in (.methodLinkNest "ScreenTalk$Forge" 25 ⟨"ScreenTalk", "headByte", "(I)I"⟩ "ScreenTalk") := ⟨List.mem_of_getElem? (i := 735) (by decide +kernel), by decide +kernel⟩
theorem wi_736 : mm_in (.methodLink "ScreenTalk$Forge" 35 ⟨"ScreenTalk$Bytes", "at", "(I)I"⟩) := ⟨List.mem_of_getElem? (i := 736) (by decide +kernel), by decide +kernel⟩
theorem wi_737 : mm_in (.methodLink "ScreenTalk$Forge" 40 ⟨"ScreenTalk$ModeList", "at", "(I)LScreenTalk$Mode;"⟩) := ⟨List.mem_of_getElem? (i := 737) (by decide +kernel), by decide +kernel⟩
theorem wi_738 : mm_in (.instanceMethod ⟨"ScreenTalk$ModeList", "at", "(I)LScreenTalk$Mode;"⟩) := ⟨List.mem_of_getElem? (i := 738) (by decide +kernel), by decide +kernel⟩
theorem wi_739 : mm_in (.selects "ScreenTalk$ModeList" ⟨"ScreenTalk$ModeList", "at", "(I)LScreenTalk$Mode;"⟩ ⟨"ScreenTalk$ModeList", "at", "(I)LScreenTalk$Mode;"⟩) := ⟨List.mem_of_getElem? (i := 739) (by decide +kernel), by decide +kernel⟩
theorem wi_741 : mm_in (.methodLink "ScreenTalk$Forge" 51 ⟨"ScreenTalk$Forge", "putTiming", "(ILScreenTalk$Timing;)V"⟩) := ⟨List.mem_of_getElem? (i := 741) (by decide +kernel), by decide +kernel⟩
theorem wi_743 : mm_in (.instanceMethod ⟨"ScreenTalk$Forge", "putTiming", "(ILScreenTalk$Timing;)V"⟩) := ⟨List.mem_of_getElem? (i := 743) (by decide +kernel), by decide +kernel⟩
theorem wi_745 : mm_in (.methodLink "ScreenTalk$Forge" 69 ⟨"ScreenTalk$Timing", "fits", "()Z"⟩) := ⟨List.mem_of_getElem? (i := 745) (by decide +kernel), by decide +kernel⟩
theorem wi_746 : mm_in (.instanceMethod ⟨"ScreenTalk$Timing", "fits", "()Z"⟩) := ⟨List.mem_of_getElem? (i := 746) (by decide +kernel), by decide +kernel⟩
theorem wi_747 : mm_in (.selects "ScreenTalk$Timing" ⟨"ScreenTalk$Timing", "fits", "()Z"⟩ ⟨"ScreenTalk$Timing", "fits", "()Z"⟩) := ⟨List.mem_of_getElem? (i := 747) (by decide +kernel), by decide +kernel⟩
theorem wi_749 : mm_in (.constant "ScreenTalk$Timing" 81 (Int32.ofInt (655359))) := ⟨List.mem_of_getElem? (i := 749) (by decide +kernel), by decide +kernel⟩
theorem wi_750 : mm_in (.methodLink "ScreenTalk$Forge" 75 ⟨"ScreenTalk$Timing", "descriptorByte", "(I)I"⟩) := ⟨List.mem_of_getElem? (i := 750) (by decide +kernel), by decide +kernel⟩
theorem wi_751 : mm_in (.instanceMethod ⟨"ScreenTalk$Timing", "descriptorByte", "(I)I"⟩) := ⟨List.mem_of_getElem? (i := 751) (by decide +kernel), by decide +kernel⟩
theorem wi_752 : mm_in (.selects "ScreenTalk$Timing" ⟨"ScreenTalk$Timing", "descriptorByte", "(I)I"⟩ ⟨"ScreenTalk$Timing", "descriptorByte", "(I)I"⟩) := ⟨List.mem_of_getElem? (i := 752) (by decide +kernel), by decide +kernel⟩
theorem wi_754 : mm_in (.methodLink "ScreenTalk$Forge" 78 ⟨"ScreenTalk$Forge", "put", "(III)V"⟩) := ⟨List.mem_of_getElem? (i := 754) (by decide +kernel), by decide +kernel⟩
theorem wi_756 : mm_in (.instanceMethod ⟨"ScreenTalk$Forge", "put", "(III)V"⟩) := ⟨List.mem_of_getElem? (i := 756) (by decide +kernel), by decide +kernel⟩
theorem wi_758 : mm_in (.methodLink "ScreenTalk$Forge" 59 ⟨"ScreenTalk$Forge", "putName", "(ILScreenTalk$Screen;)V"⟩) := ⟨List.mem_of_getElem? (i := 758) (by decide +kernel), by decide +kernel⟩
theorem wi_760 : mm_in (.instanceMethod ⟨"ScreenTalk$Forge", "putName", "(ILScreenTalk$Screen;)V"⟩) := ⟨List.mem_of_getElem? (i := 760) (by decide +kernel), by decide +kernel⟩
theorem wi_762 : mm_in (.methodLink "ScreenTalk$Forge" 85 ⟨"ScreenTalk$Screen", "nameByte", "(I)I"⟩) := ⟨List.mem_of_getElem? (i := 762) (by decide +kernel), by decide +kernel⟩
theorem wi_763 : mm_in (.instanceMethod ⟨"ScreenTalk$Screen", "nameByte", "(I)I"⟩) := ⟨List.mem_of_getElem? (i := 763) (by decide +kernel), by decide +kernel⟩
theorem wi_764 : mm_in (.selects "ScreenTalk$Screen" ⟨"ScreenTalk$Screen", "nameByte", "(I)I"⟩ ⟨"ScreenTalk$Screen", "nameByte", "(I)I"⟩) := ⟨List.mem_of_getElem? (i := 764) (by decide +kernel), by decide +kernel⟩
theorem wi_766 : mm_in (.methodLink "ScreenTalk$Forge" 63 ⟨"ScreenTalk$Forge", "putRange", "(ILScreenTalk$Screen;)V"⟩) := ⟨List.mem_of_getElem? (i := 766) (by decide +kernel), by decide +kernel⟩
theorem wi_768 : mm_in (.instanceMethod ⟨"ScreenTalk$Forge", "putRange", "(ILScreenTalk$Screen;)V"⟩) := ⟨List.mem_of_getElem? (i := 768) (by decide +kernel), by decide +kernel⟩
theorem wi_770 : mm_in (.methodLink "ScreenTalk$Forge" 91 ⟨"ScreenTalk$Screen", "rangeByte", "(I)I"⟩) := ⟨List.mem_of_getElem? (i := 770) (by decide +kernel), by decide +kernel⟩
theorem wi_771 : mm_in (.instanceMethod ⟨"ScreenTalk$Screen", "rangeByte", "(I)I"⟩) := ⟨List.mem_of_getElem? (i := 771) (by decide +kernel), by decide +kernel⟩
theorem wi_772 : mm_in (.selects "ScreenTalk$Screen" ⟨"ScreenTalk$Screen", "rangeByte", "(I)I"⟩ ⟨"ScreenTalk$Screen", "rangeByte", "(I)I"⟩) := ⟨List.mem_of_getElem? (i := 772) (by decide +kernel), by decide +kernel⟩
theorem wi_774 : mm_in (.methodLink "ScreenTalk$Forge" 66 ⟨"ScreenTalk$Forge", "putSum", "()V"⟩) := ⟨List.mem_of_getElem? (i := 774) (by decide +kernel), by decide +kernel⟩
theorem wi_776 : mm_in (.instanceMethod ⟨"ScreenTalk$Forge", "putSum", "()V"⟩) := ⟨List.mem_of_getElem? (i := 776) (by decide +kernel), by decide +kernel⟩
theorem wi_778 : mm_in (.methodLink "ScreenTalkLaw" 23 ⟨"ScreenTalk", "fault", "(I)I"⟩) := ⟨List.mem_of_getElem? (i := 778) (by decide +kernel), by decide +kernel⟩
theorem wi_779 : mm_in (.instanceMethod ⟨"ScreenTalk", "fault", "(I)I"⟩) := ⟨List.mem_of_getElem? (i := 779) (by decide +kernel), by decide +kernel⟩
theorem wi_780 : mm_in (.selects "ScreenTalk" ⟨"ScreenTalk", "fault", "(I)I"⟩ ⟨"ScreenTalk", "fault", "(I)I"⟩) := ⟨List.mem_of_getElem? (i := 780) (by decide +kernel), by decide +kernel⟩
theorem wi_782 : mm_in (.methodLink "ScreenTalkLaw" 27 ⟨"ScreenTalk", "mend", "(I)I"⟩) := ⟨List.mem_of_getElem? (i := 782) (by decide +kernel), by decide +kernel⟩
theorem wi_783 : mm_in (.instanceMethod ⟨"ScreenTalk", "mend", "(I)I"⟩) := ⟨List.mem_of_getElem? (i := 783) (by decide +kernel), by decide +kernel⟩
theorem wi_784 : mm_in (.selects "ScreenTalk" ⟨"ScreenTalk", "mend", "(I)I"⟩ ⟨"ScreenTalk", "mend", "(I)I"⟩) := ⟨List.mem_of_getElem? (i := 784) (by decide +kernel), by decide +kernel⟩
theorem wi_786 : mm_in (.methodLink "ScreenTalk" 130 ⟨"ScreenTalk$Bytes", "at", "(I)I"⟩) := ⟨List.mem_of_getElem? (i := 786) (by decide +kernel), by decide +kernel⟩
theorem wi_787 : mm_in (.methodLink "ScreenTalk" 134 ⟨"ScreenTalk$Bytes", "sumOfBlock", "(I)I"⟩) := ⟨List.mem_of_getElem? (i := 787) (by decide +kernel), by decide +kernel⟩
theorem wi_788 : mm_in (.methodLink "ScreenTalkLaw" 31 ⟨"ScreenTalk", "told", "(I)I"⟩) := ⟨List.mem_of_getElem? (i := 788) (by decide +kernel), by decide +kernel⟩
theorem wi_789 : mm_in (.instanceMethod ⟨"ScreenTalk", "told", "(I)I"⟩) := ⟨List.mem_of_getElem? (i := 789) (by decide +kernel), by decide +kernel⟩
theorem wi_790 : mm_in (.selects "ScreenTalk" ⟨"ScreenTalk", "told", "(I)I"⟩ ⟨"ScreenTalk", "told", "(I)I"⟩) := ⟨List.mem_of_getElem? (i := 790) (by decide +kernel), by decide +kernel⟩
theorem wi_792 : mm_in (.methodLink "ScreenTalk" 140 ⟨"ScreenTalk$ModeList", "leftOutBy", "(I)I"⟩) := ⟨List.mem_of_getElem? (i := 792) (by decide +kernel), by decide +kernel⟩
theorem wi_793 : mm_in (.instanceMethod ⟨"ScreenTalk$ModeList", "leftOutBy", "(I)I"⟩) := ⟨List.mem_of_getElem? (i := 793) (by decide +kernel), by decide +kernel⟩
theorem wi_794 : mm_in (.selects "ScreenTalk$ModeList" ⟨"ScreenTalk$ModeList", "leftOutBy", "(I)I"⟩ ⟨"ScreenTalk$ModeList", "leftOutBy", "(I)I"⟩) := ⟨List.mem_of_getElem? (i := 794) (by decide +kernel), by decide +kernel⟩
theorem wi_796 : mm_in (.methodLink "ScreenTalk" 143 ⟨"ScreenTalk$Screen", "rangePart", "(I)I"⟩) := ⟨List.mem_of_getElem? (i := 796) (by decide +kernel), by decide +kernel⟩
theorem wi_797 : mm_in (.instanceMethod ⟨"ScreenTalk$Screen", "rangePart", "(I)I"⟩) := ⟨List.mem_of_getElem? (i := 797) (by decide +kernel), by decide +kernel⟩
theorem wi_798 : mm_in (.selects "ScreenTalk$Screen" ⟨"ScreenTalk$Screen", "rangePart", "(I)I"⟩ ⟨"ScreenTalk$Screen", "rangePart", "(I)I"⟩) := ⟨List.mem_of_getElem? (i := 798) (by decide +kernel), by decide +kernel⟩
theorem wi_800 : mm_in (.methodLink "ScreenTalk$Screen" 105 ⟨"ScreenTalk$Screen", "rangeByte", "(I)I"⟩) := ⟨List.mem_of_getElem? (i := 800) (by decide +kernel), by decide +kernel⟩
theorem wi_801 : mm_in (.methodLink "ScreenTalk" 146 ⟨"ScreenTalk", "toldPlainly", "(I)I"⟩) := ⟨List.mem_of_getElem? (i := 801) (by decide +kernel), by decide +kernel⟩
theorem wi_803 : mm_in (.instanceMethod ⟨"ScreenTalk", "toldPlainly", "(I)I"⟩) := ⟨List.mem_of_getElem? (i := 803) (by decide +kernel), by decide +kernel⟩
theorem wi_805 : mm_in (.methodLink "ScreenTalk" 149 ⟨"ScreenTalk$Screen", "makerLetter", "(I)I"⟩) := ⟨List.mem_of_getElem? (i := 805) (by decide +kernel), by decide +kernel⟩
theorem wi_806 : mm_in (.instanceMethod ⟨"ScreenTalk$Screen", "makerLetter", "(I)I"⟩) := ⟨List.mem_of_getElem? (i := 806) (by decide +kernel), by decide +kernel⟩
theorem wi_807 : mm_in (.selects "ScreenTalk$Screen" ⟨"ScreenTalk$Screen", "makerLetter", "(I)I"⟩ ⟨"ScreenTalk$Screen", "makerLetter", "(I)I"⟩) := ⟨List.mem_of_getElem? (i := 807) (by decide +kernel), by decide +kernel⟩
theorem wi_809 : mm_in (.methodLink "ScreenTalkLaw" 35 ⟨"ScreenTalk", "name", "(I)I"⟩) := ⟨List.mem_of_getElem? (i := 809) (by decide +kernel), by decide +kernel⟩
theorem wi_810 : mm_in (.instanceMethod ⟨"ScreenTalk", "name", "(I)I"⟩) := ⟨List.mem_of_getElem? (i := 810) (by decide +kernel), by decide +kernel⟩
theorem wi_811 : mm_in (.selects "ScreenTalk" ⟨"ScreenTalk", "name", "(I)I"⟩ ⟨"ScreenTalk", "name", "(I)I"⟩) := ⟨List.mem_of_getElem? (i := 811) (by decide +kernel), by decide +kernel⟩
theorem wi_813 : mm_in (.methodLink "ScreenTalk" 170 ⟨"ScreenTalk$Screen", "nameByte", "(I)I"⟩) := ⟨List.mem_of_getElem? (i := 813) (by decide +kernel), by decide +kernel⟩
theorem wi_814 : mm_in (.methodLink "ScreenTalkLaw" 39 ⟨"ScreenTalk", "detailed", "(II)I"⟩) := ⟨List.mem_of_getElem? (i := 814) (by decide +kernel), by decide +kernel⟩
theorem wi_815 : mm_in (.instanceMethod ⟨"ScreenTalk", "detailed", "(II)I"⟩) := ⟨List.mem_of_getElem? (i := 815) (by decide +kernel), by decide +kernel⟩
theorem wi_816 : mm_in (.selects "ScreenTalk" ⟨"ScreenTalk", "detailed", "(II)I"⟩ ⟨"ScreenTalk", "detailed", "(II)I"⟩) := ⟨List.mem_of_getElem? (i := 816) (by decide +kernel), by decide +kernel⟩
theorem wi_818 : mm_in (.methodLink "ScreenTalk" 173 ⟨"ScreenTalk$Screen", "detailedAt", "(I)LScreenTalk$Timing;"⟩) := ⟨List.mem_of_getElem? (i := 818) (by decide +kernel), by decide +kernel⟩
theorem wi_819 : mm_in (.methodLink "ScreenTalk" 177 ⟨"ScreenTalk$Timing", "part", "(I)I"⟩) := ⟨List.mem_of_getElem? (i := 819) (by decide +kernel), by decide +kernel⟩
theorem wi_820 : mm_in (.instanceMethod ⟨"ScreenTalk$Timing", "part", "(I)I"⟩) := ⟨List.mem_of_getElem? (i := 820) (by decide +kernel), by decide +kernel⟩
theorem wi_821 : mm_in (.selects "ScreenTalk$Timing" ⟨"ScreenTalk$Timing", "part", "(I)I"⟩ ⟨"ScreenTalk$Timing", "part", "(I)I"⟩) := ⟨List.mem_of_getElem? (i := 821) (by decide +kernel), by decide +kernel⟩
theorem wi_823 : mm_in (.methodLink "ScreenTalk$Timing" 77 ⟨"ScreenTalk$Timing", "isBroken", "()Z"⟩) := ⟨List.mem_of_getElem? (i := 823) (by decide +kernel), by decide +kernel⟩
theorem wi_824 : mm_in (.methodLink "ScreenTalkLaw" 44 ⟨"ScreenTalk", "forged", "(I)I"⟩) := ⟨List.mem_of_getElem? (i := 824) (by decide +kernel), by decide +kernel⟩
theorem wi_825 : mm_in (.instanceMethod ⟨"ScreenTalk", "forged", "(I)I"⟩) := ⟨List.mem_of_getElem? (i := 825) (by decide +kernel), by decide +kernel⟩
theorem wi_826 : mm_in (.selects "ScreenTalk" ⟨"ScreenTalk", "forged", "(I)I"⟩ ⟨"ScreenTalk", "forged", "(I)I"⟩) := ⟨List.mem_of_getElem? (i := 826) (by decide +kernel), by decide +kernel⟩
theorem wi_828 : mm_in (.methodLink "ScreenTalk" 184 ⟨"ScreenTalk$Forge", "at", "(I)I"⟩) := ⟨List.mem_of_getElem? (i := 828) (by decide +kernel), by decide +kernel⟩
theorem wi_829 : mm_in (.instanceMethod ⟨"ScreenTalk$Forge", "at", "(I)I"⟩) := ⟨List.mem_of_getElem? (i := 829) (by decide +kernel), by decide +kernel⟩
theorem wi_830 : mm_in (.selects "ScreenTalk$Forge" ⟨"ScreenTalk$Forge", "at", "(I)I"⟩ ⟨"ScreenTalk$Forge", "at", "(I)I"⟩) := ⟨List.mem_of_getElem? (i := 830) (by decide +kernel), by decide +kernel⟩
theorem wi_832 : mm_in (.methodLink "ScreenTalkLaw" 48 ⟨"ScreenTalk", "mode", "(II)I"⟩) := ⟨List.mem_of_getElem? (i := 832) (by decide +kernel), by decide +kernel⟩
theorem wi_833 : mm_in (.instanceMethod ⟨"ScreenTalk", "mode", "(II)I"⟩) := ⟨List.mem_of_getElem? (i := 833) (by decide +kernel), by decide +kernel⟩
theorem wi_834 : mm_in (.selects "ScreenTalk" ⟨"ScreenTalk", "mode", "(II)I"⟩ ⟨"ScreenTalk", "mode", "(II)I"⟩) := ⟨List.mem_of_getElem? (i := 834) (by decide +kernel), by decide +kernel⟩
theorem wi_836 : mm_in (.methodLink "ScreenTalk" 185 ⟨"ScreenTalk$ModeList", "at", "(I)LScreenTalk$Mode;"⟩) := ⟨List.mem_of_getElem? (i := 836) (by decide +kernel), by decide +kernel⟩
theorem wi_837 : mm_in (.methodLink "ScreenTalk" 205 ⟨"ScreenTalk$Timing", "wholeH", "()I"⟩) := ⟨List.mem_of_getElem? (i := 837) (by decide +kernel), by decide +kernel⟩
theorem wi_838 : mm_in (.methodLink "ScreenTalk" 209 ⟨"ScreenTalk$Timing", "wholeV", "()I"⟩) := ⟨List.mem_of_getElem? (i := 838) (by decide +kernel), by decide +kernel⟩
theorem wi_839 : mm_in (.instanceMethod ⟨"ScreenTalk$Timing", "wholeV", "()I"⟩) := ⟨List.mem_of_getElem? (i := 839) (by decide +kernel), by decide +kernel⟩
theorem wi_840 : mm_in (.selects "ScreenTalk$Timing" ⟨"ScreenTalk$Timing", "wholeV", "()I"⟩ ⟨"ScreenTalk$Timing", "wholeV", "()I"⟩) := ⟨List.mem_of_getElem? (i := 840) (by decide +kernel), by decide +kernel⟩
theorem wi_842 : mm_in (.methodLink "ScreenTalk" 218 ⟨"ScreenTalk$Timing", "thousandths", "()I"⟩) := ⟨List.mem_of_getElem? (i := 842) (by decide +kernel), by decide +kernel⟩
theorem wi_843 : mm_in (.instanceMethod ⟨"ScreenTalk$Timing", "thousandths", "()I"⟩) := ⟨List.mem_of_getElem? (i := 843) (by decide +kernel), by decide +kernel⟩
theorem wi_844 : mm_in (.selects "ScreenTalk$Timing" ⟨"ScreenTalk$Timing", "thousandths", "()I"⟩ ⟨"ScreenTalk$Timing", "thousandths", "()I"⟩) := ⟨List.mem_of_getElem? (i := 844) (by decide +kernel), by decide +kernel⟩
theorem wi_846 : mm_in (.constantLong "ScreenTalk$Timing" 86 (Int64.ofInt (2147483647))) := ⟨List.mem_of_getElem? (i := 846) (by decide +kernel), by decide +kernel⟩
theorem wi_847 : mm_in (.methodLink "ScreenTalk$Timing" 88 ⟨"java/lang/Math", "min", "(JJ)J"⟩) := ⟨List.mem_of_getElem? (i := 847) (by decide +kernel), by decide +kernel⟩
theorem wi_848 : mm_in (.static ⟨"java/lang/Math", "min", "(JJ)J"⟩) := ⟨List.mem_of_getElem? (i := 848) (by decide +kernel), by decide +kernel⟩
theorem wi_850 : mm_in (.methodLink "ScreenTalkLaw" 52 ⟨"ScreenTalk", "called", "(II)I"⟩) := ⟨List.mem_of_getElem? (i := 850) (by decide +kernel), by decide +kernel⟩
theorem wi_851 : mm_in (.instanceMethod ⟨"ScreenTalk", "called", "(II)I"⟩) := ⟨List.mem_of_getElem? (i := 851) (by decide +kernel), by decide +kernel⟩
theorem wi_852 : mm_in (.selects "ScreenTalk" ⟨"ScreenTalk", "called", "(II)I"⟩ ⟨"ScreenTalk", "called", "(II)I"⟩) := ⟨List.mem_of_getElem? (i := 852) (by decide +kernel), by decide +kernel⟩
theorem wi_854 : mm_in (.methodLink "ScreenTalk" 221 ⟨"java/lang/StringBuilder", "setLength", "(I)V"⟩) := ⟨List.mem_of_getElem? (i := 854) (by decide +kernel), by decide +kernel⟩
theorem wi_855 : mm_in (.instanceMethod ⟨"java/lang/StringBuilder", "setLength", "(I)V"⟩) := ⟨List.mem_of_getElem? (i := 855) (by decide +kernel), by decide +kernel⟩
theorem wi_856 : mm_in (.selects "java/lang/StringBuilder" ⟨"java/lang/StringBuilder", "setLength", "(I)V"⟩ ⟨"java/lang/StringBuilder", "setLength", "(I)V"⟩) := ⟨List.mem_of_getElem? (i := 856) (by decide +kernel), by decide +kernel⟩
theorem wi_858 : mm_in (.methodLink "java/lang/StringBuilder" 333 ⟨"java/lang/AbstractStringBuilder", "setLength", "(I)V"⟩) := ⟨List.mem_of_getElem? (i := 858) (by decide +kernel), by decide +kernel⟩
theorem wi_859 : mm_in (.instanceMethod ⟨"java/lang/AbstractStringBuilder", "setLength", "(I)V"⟩) := ⟨List.mem_of_getElem? (i := 859) (by decide +kernel), by decide +kernel⟩
theorem wi_861 : mm_in (.methodLink "java/lang/AbstractStringBuilder" 100 ⟨"java/lang/AbstractStringBuilder", "ensureCapacityInternal", "(I)V"⟩) := ⟨List.mem_of_getElem? (i := 861) (by decide +kernel), by decide +kernel⟩
theorem wi_862 : mm_in (.privateMethod ⟨"java/lang/AbstractStringBuilder", "ensureCapacityInternal", "(I)V"⟩) := ⟨List.mem_of_getElem? (i := 862) (by decide +kernel), by decide +kernel⟩
theorem wi_863 : mm_in (.instanceMethod ⟨"java/lang/AbstractStringBuilder", "ensureCapacityInternal", "(I)V"⟩) := ⟨List.mem_of_getElem? (i := 863) (by decide +kernel), by decide +kernel⟩
theorem wi_890 : mm_in (.methodLink "java/lang/AbstractStringBuilder" 83 ⟨"java/lang/AbstractStringBuilder", "isLatin1", "()Z"⟩) := ⟨List.mem_of_getElem? (i := 890) (by decide +kernel), by decide +kernel⟩
theorem wi_891 : mm_in (.instanceMethod ⟨"java/lang/AbstractStringBuilder", "isLatin1", "()Z"⟩) := ⟨List.mem_of_getElem? (i := 891) (by decide +kernel), by decide +kernel⟩
theorem wi_893 : mm_in (.selects "java/lang/StringBuilder" ⟨"java/lang/AbstractStringBuilder", "isLatin1", "()Z"⟩ ⟨"java/lang/AbstractStringBuilder", "isLatin1", "()Z"⟩) := ⟨List.mem_of_getElem? (i := 893) (by decide +kernel), by decide +kernel⟩
theorem wi_908 : mm_in (.methodLink "ScreenTalk" 224 ⟨"java/lang/StringBuilder", "append", "(I)Ljava/lang/StringBuilder;"⟩) := ⟨List.mem_of_getElem? (i := 908) (by decide +kernel), by decide +kernel⟩
theorem wi_909 : mm_in (.instanceMethod ⟨"java/lang/StringBuilder", "append", "(I)Ljava/lang/StringBuilder;"⟩) := ⟨List.mem_of_getElem? (i := 909) (by decide +kernel), by decide +kernel⟩
theorem wi_910 : mm_in (.selects "java/lang/StringBuilder" ⟨"java/lang/StringBuilder", "append", "(I)Ljava/lang/StringBuilder;"⟩ ⟨"java/lang/StringBuilder", "append", "(I)Ljava/lang/StringBuilder;"⟩) := ⟨List.mem_of_getElem? (i := 910) (by decide +kernel), by decide +kernel⟩
theorem wi_912 : mm_in (.methodLink "java/lang/StringBuilder" 53 ⟨"java/lang/AbstractStringBuilder", "append", "(I)Ljava/lang/AbstractStringBuilder;"⟩) := ⟨List.mem_of_getElem? (i := 912) (by decide +kernel), by decide +kernel⟩
theorem wi_913 : mm_in (.instanceMethod ⟨"java/lang/AbstractStringBuilder", "append", "(I)Ljava/lang/AbstractStringBuilder;"⟩) := ⟨List.mem_of_getElem? (i := 913) (by decide +kernel), by decide +kernel⟩
theorem wi_915 : mm_in (.methodLink "java/lang/AbstractStringBuilder" 245 ⟨"java/lang/Integer", "stringSize", "(I)I"⟩) := ⟨List.mem_of_getElem? (i := 915) (by decide +kernel), by decide +kernel⟩
theorem wi_916 : mm_in (.static ⟨"java/lang/Integer", "stringSize", "(I)I"⟩) := ⟨List.mem_of_getElem? (i := 916) (by decide +kernel), by decide +kernel⟩
theorem wi_918 : mm_in (.methodLink "java/lang/AbstractStringBuilder" 248 ⟨"java/lang/Integer", "getChars", "(II[B)I"⟩) := ⟨List.mem_of_getElem? (i := 918) (by decide +kernel), by decide +kernel⟩
theorem wi_919 : mm_in (.static ⟨"java/lang/Integer", "getChars", "(II[B)I"⟩) := ⟨List.mem_of_getElem? (i := 919) (by decide +kernel), by decide +kernel⟩
theorem wi_921 : mm_in (.fieldLink "java/lang/Integer" 83 "java/lang/Integer" "DigitOnes" "[B") := ⟨List.mem_of_getElem? (i := 921) (by decide +kernel), by decide +kernel⟩
theorem wi_923 : mm_in (.fieldLink "java/lang/Integer" 87 "java/lang/Integer" "DigitTens" "[B") := ⟨List.mem_of_getElem? (i := 923) (by decide +kernel), by decide +kernel⟩
theorem wi_937 : mm_in (.fieldLink "java/lang/String" 1053 "jdk/internal/util/Preconditions" "SIOOBE_FORMATTER" "Ljava/util/function/BiFunction;") := ⟨List.mem_of_getElem? (i := 937) (by decide +kernel), by decide +kernel⟩
theorem wi_956 : mm_in (.methodLink "ScreenTalk" 228 ⟨"java/lang/StringBuilder", "append", "(C)Ljava/lang/StringBuilder;"⟩) := ⟨List.mem_of_getElem? (i := 956) (by decide +kernel), by decide +kernel⟩
theorem wi_957 : mm_in (.instanceMethod ⟨"java/lang/StringBuilder", "append", "(C)Ljava/lang/StringBuilder;"⟩) := ⟨List.mem_of_getElem? (i := 957) (by decide +kernel), by decide +kernel⟩
theorem wi_958 : mm_in (.selects "java/lang/StringBuilder" ⟨"java/lang/StringBuilder", "append", "(C)Ljava/lang/StringBuilder;"⟩ ⟨"java/lang/StringBuilder", "append", "(C)Ljava/lang/StringBuilder;"⟩) := ⟨List.mem_of_getElem? (i := 958) (by decide +kernel), by decide +kernel⟩
theorem wi_960 : mm_in (.methodLink "java/lang/StringBuilder" 50 ⟨"java/lang/AbstractStringBuilder", "append", "(C)Ljava/lang/AbstractStringBuilder;"⟩) := ⟨List.mem_of_getElem? (i := 960) (by decide +kernel), by decide +kernel⟩
theorem wi_961 : mm_in (.instanceMethod ⟨"java/lang/AbstractStringBuilder", "append", "(C)Ljava/lang/AbstractStringBuilder;"⟩) := ⟨List.mem_of_getElem? (i := 961) (by decide +kernel), by decide +kernel⟩
theorem wi_963 : mm_in (.methodLink "java/lang/AbstractStringBuilder" 191 ⟨"java/lang/StringLatin1", "canEncode", "(C)Z"⟩) := ⟨List.mem_of_getElem? (i := 963) (by decide +kernel), by decide +kernel⟩
theorem wi_964 : mm_in (.static ⟨"java/lang/StringLatin1", "canEncode", "(C)Z"⟩) := ⟨List.mem_of_getElem? (i := 964) (by decide +kernel), by decide +kernel⟩
theorem wi_992 : mm_in (.static ⟨"java/lang/String", "checkIndex", "(II)V"⟩) := ⟨List.mem_of_getElem? (i := 992) (by decide +kernel), by decide +kernel⟩
theorem wi_994 : mm_in (.methodLink "java/lang/String" 1059 ⟨"jdk/internal/util/Preconditions", "checkIndex", "(IILjava/util/function/BiFunction;)I"⟩) := ⟨List.mem_of_getElem? (i := 994) (by decide +kernel), by decide +kernel⟩
theorem wi_995 : mm_in (.static ⟨"jdk/internal/util/Preconditions", "checkIndex", "(IILjava/util/function/BiFunction;)I"⟩) := ⟨List.mem_of_getElem? (i := 995) (by decide +kernel), by decide +kernel⟩
theorem wi_997 : mm_in (.methodLink "ScreenTalk" 231 ⟨"java/lang/StringBuilder", "length", "()I"⟩) := ⟨List.mem_of_getElem? (i := 997) (by decide +kernel), by decide +kernel⟩
theorem wi_998 : mm_in (.instanceMethod ⟨"java/lang/StringBuilder", "length", "()I"⟩) := ⟨List.mem_of_getElem? (i := 998) (by decide +kernel), by decide +kernel⟩
theorem wi_999 : mm_in (.selects "java/lang/StringBuilder" ⟨"java/lang/StringBuilder", "length", "()I"⟩ ⟨"java/lang/StringBuilder", "length", "()I"⟩) := ⟨List.mem_of_getElem? (i := 999) (by decide +kernel), by decide +kernel⟩
theorem wi_1001 : mm_in (.methodLink "java/lang/StringBuilder" 343 ⟨"java/lang/AbstractStringBuilder", "length", "()I"⟩) := ⟨List.mem_of_getElem? (i := 1001) (by decide +kernel), by decide +kernel⟩
theorem wi_1002 : mm_in (.instanceMethod ⟨"java/lang/AbstractStringBuilder", "length", "()I"⟩) := ⟨List.mem_of_getElem? (i := 1002) (by decide +kernel), by decide +kernel⟩
theorem wi_1004 : mm_in (.methodLink "ScreenTalk" 233 ⟨"java/lang/StringBuilder", "charAt", "(I)C"⟩) := ⟨List.mem_of_getElem? (i := 1004) (by decide +kernel), by decide +kernel⟩
theorem wi_1005 : mm_in (.instanceMethod ⟨"java/lang/StringBuilder", "charAt", "(I)C"⟩) := ⟨List.mem_of_getElem? (i := 1005) (by decide +kernel), by decide +kernel⟩
theorem wi_1006 : mm_in (.selects "java/lang/StringBuilder" ⟨"java/lang/StringBuilder", "charAt", "(I)C"⟩ ⟨"java/lang/StringBuilder", "charAt", "(I)C"⟩) := ⟨List.mem_of_getElem? (i := 1006) (by decide +kernel), by decide +kernel⟩
theorem wi_1008 : mm_in (.methodLink "java/lang/StringBuilder" 329 ⟨"java/lang/AbstractStringBuilder", "charAt", "(I)C"⟩) := ⟨List.mem_of_getElem? (i := 1008) (by decide +kernel), by decide +kernel⟩
theorem wi_1009 : mm_in (.instanceMethod ⟨"java/lang/AbstractStringBuilder", "charAt", "(I)C"⟩) := ⟨List.mem_of_getElem? (i := 1009) (by decide +kernel), by decide +kernel⟩
theorem wi_1011 : mm_in (.methodLink "java/lang/AbstractStringBuilder" 138 ⟨"java/lang/Math", "min", "(II)I"⟩) := ⟨List.mem_of_getElem? (i := 1011) (by decide +kernel), by decide +kernel⟩
theorem wi_1012 : mm_in (.methodLink "java/lang/AbstractStringBuilder" 144 ⟨"java/lang/String", "checkIndex", "(II)V"⟩) := ⟨List.mem_of_getElem? (i := 1012) (by decide +kernel), by decide +kernel⟩
theorem wi_1016 : mm_in (.methodLink "ScreenTalkLaw" 56 ⟨"ScreenTalk", "find", "(III)I"⟩) := ⟨List.mem_of_getElem? (i := 1016) (by decide +kernel), by decide +kernel⟩
theorem wi_1017 : mm_in (.instanceMethod ⟨"ScreenTalk", "find", "(III)I"⟩) := ⟨List.mem_of_getElem? (i := 1017) (by decide +kernel), by decide +kernel⟩
theorem wi_1018 : mm_in (.selects "ScreenTalk" ⟨"ScreenTalk", "find", "(III)I"⟩ ⟨"ScreenTalk", "find", "(III)I"⟩) := ⟨List.mem_of_getElem? (i := 1018) (by decide +kernel), by decide +kernel⟩
theorem wi_1020 : mm_in (.methodLink "ScreenTalk" 237 ⟨"ScreenTalk$ModeList", "indexOf", "(III)I"⟩) := ⟨List.mem_of_getElem? (i := 1020) (by decide +kernel), by decide +kernel⟩
theorem wi_1021 : mm_in (.methodLink "ScreenTalkLaw" 61 ⟨"ScreenTalk", "formula", "(IIIII)I"⟩) := ⟨List.mem_of_getElem? (i := 1021) (by decide +kernel), by decide +kernel⟩
theorem wi_1022 : mm_in (.instanceMethod ⟨"ScreenTalk", "formula", "(IIIII)I"⟩) := ⟨List.mem_of_getElem? (i := 1022) (by decide +kernel), by decide +kernel⟩
theorem wi_1023 : mm_in (.selects "ScreenTalk" ⟨"ScreenTalk", "formula", "(IIIII)I"⟩ ⟨"ScreenTalk", "formula", "(IIIII)I"⟩) := ⟨List.mem_of_getElem? (i := 1023) (by decide +kernel), by decide +kernel⟩
theorem wi_1025 : mm_in (.methodLink "ScreenTalk" 241 ⟨"ScreenTalk", "isFormula", "(I)Z"⟩) := ⟨List.mem_of_getElem? (i := 1025) (by decide +kernel), by decide +kernel⟩
theorem wi_1026 : mm_in (.static ⟨"ScreenTalk", "isFormula", "(I)Z"⟩) := ⟨List.mem_of_getElem? (i := 1026) (by decide +kernel), by decide +kernel⟩
theorem wi_1028 : mm_in (.methodLink "ScreenTalk" 245 ⟨"ScreenTalk", "isSize", "(II)Z"⟩) := ⟨List.mem_of_getElem? (i := 1028) (by decide +kernel), by decide +kernel⟩
theorem wi_1029 : mm_in (.static ⟨"ScreenTalk", "isSize", "(II)Z"⟩) := ⟨List.mem_of_getElem? (i := 1029) (by decide +kernel), by decide +kernel⟩
theorem wi_1031 : mm_in (.methodLink "ScreenTalk" 249 ⟨"ScreenTalk", "isHertz", "(I)Z"⟩) := ⟨List.mem_of_getElem? (i := 1031) (by decide +kernel), by decide +kernel⟩
theorem wi_1032 : mm_in (.static ⟨"ScreenTalk", "isHertz", "(I)Z"⟩) := ⟨List.mem_of_getElem? (i := 1032) (by decide +kernel), by decide +kernel⟩
theorem wi_1034 : mm_in (.methodLink "ScreenTalk" 252 ⟨"ScreenTalk$Timing", "draw", "(IIII)V"⟩) := ⟨List.mem_of_getElem? (i := 1034) (by decide +kernel), by decide +kernel⟩
theorem wi_1035 : mm_in (.methodLink "ScreenTalkLaw" 65 ⟨"ScreenTalk", "descriptor", "(IIIII)I"⟩) := ⟨List.mem_of_getElem? (i := 1035) (by decide +kernel), by decide +kernel⟩
theorem wi_1036 : mm_in (.instanceMethod ⟨"ScreenTalk", "descriptor", "(IIIII)I"⟩) := ⟨List.mem_of_getElem? (i := 1036) (by decide +kernel), by decide +kernel⟩
theorem wi_1037 : mm_in (.selects "ScreenTalk" ⟨"ScreenTalk", "descriptor", "(IIIII)I"⟩ ⟨"ScreenTalk", "descriptor", "(IIIII)I"⟩) := ⟨List.mem_of_getElem? (i := 1037) (by decide +kernel), by decide +kernel⟩
theorem wi_1039 : mm_in (.methodLink "ScreenTalk" 256 ⟨"ScreenTalk$Timing", "fits", "()Z"⟩) := ⟨List.mem_of_getElem? (i := 1039) (by decide +kernel), by decide +kernel⟩
theorem wi_1040 : mm_in (.methodLink "ScreenTalk" 260 ⟨"ScreenTalk$Timing", "descriptorByte", "(I)I"⟩) := ⟨List.mem_of_getElem? (i := 1040) (by decide +kernel), by decide +kernel⟩
theorem wi_1041 : mm_in (.methodLink "ScreenTalkLaw" 69 ⟨"ScreenTalk", "fastest", "(IIIIII)I"⟩) := ⟨List.mem_of_getElem? (i := 1041) (by decide +kernel), by decide +kernel⟩
theorem wi_1042 : mm_in (.instanceMethod ⟨"ScreenTalk", "fastest", "(IIIIII)I"⟩) := ⟨List.mem_of_getElem? (i := 1042) (by decide +kernel), by decide +kernel⟩
theorem wi_1043 : mm_in (.selects "ScreenTalk" ⟨"ScreenTalk", "fastest", "(IIIIII)I"⟩ ⟨"ScreenTalk", "fastest", "(IIIIII)I"⟩) := ⟨List.mem_of_getElem? (i := 1043) (by decide +kernel), by decide +kernel⟩
theorem wi_1045 : mm_in (.methodLink "ScreenTalk" 263 ⟨"ScreenTalk", "isLink", "(II)Z"⟩) := ⟨List.mem_of_getElem? (i := 1045) (by decide +kernel), by decide +kernel⟩
theorem wi_1046 : mm_in (.static ⟨"ScreenTalk", "isLink", "(II)Z"⟩) := ⟨List.mem_of_getElem? (i := 1046) (by decide +kernel), by decide +kernel⟩
theorem wi_1048 : mm_in (.methodLink "ScreenTalk" 266 ⟨"ScreenTalk", "isDepth", "(I)Z"⟩) := ⟨List.mem_of_getElem? (i := 1048) (by decide +kernel), by decide +kernel⟩
theorem wi_1049 : mm_in (.static ⟨"ScreenTalk", "isDepth", "(I)Z"⟩) := ⟨List.mem_of_getElem? (i := 1049) (by decide +kernel), by decide +kernel⟩
theorem wi_1051 : mm_in (.methodLink "ScreenTalk" 269 ⟨"ScreenTalk", "roomOf", "(II)I"⟩) := ⟨List.mem_of_getElem? (i := 1051) (by decide +kernel), by decide +kernel⟩
theorem wi_1052 : mm_in (.static ⟨"ScreenTalk", "roomOf", "(II)I"⟩) := ⟨List.mem_of_getElem? (i := 1052) (by decide +kernel), by decide +kernel⟩
theorem wi_1054 : mm_in (.fieldLink "ScreenTalk" 281 "ScreenTalk" "RATES" "[I") := ⟨List.mem_of_getElem? (i := 1054) (by decide +kernel), by decide +kernel⟩
theorem wi_1056 : mm_in (.methodLink "ScreenTalk" 273 ⟨"ScreenTalk", "needOf", "(II)J"⟩) := ⟨List.mem_of_getElem? (i := 1056) (by decide +kernel), by decide +kernel⟩
theorem wi_1057 : mm_in (.static ⟨"ScreenTalk", "needOf", "(II)J"⟩) := ⟨List.mem_of_getElem? (i := 1057) (by decide +kernel), by decide +kernel⟩
theorem wi_1059 : mm_in (.constantLong "ScreenTalk" 285 (Int64.ofInt (3))) := ⟨List.mem_of_getElem? (i := 1059) (by decide +kernel), by decide +kernel⟩
theorem wi_1060 : mm_in (.methodLink "ScreenTalkLaw" 74 ⟨"ScreenTalk", "wish", "(I)I"⟩) := ⟨List.mem_of_getElem? (i := 1060) (by decide +kernel), by decide +kernel⟩
theorem wi_1061 : mm_in (.instanceMethod ⟨"ScreenTalk", "wish", "(I)I"⟩) := ⟨List.mem_of_getElem? (i := 1061) (by decide +kernel), by decide +kernel⟩
theorem wi_1062 : mm_in (.selects "ScreenTalk" ⟨"ScreenTalk", "wish", "(I)I"⟩ ⟨"ScreenTalk", "wish", "(I)I"⟩) := ⟨List.mem_of_getElem? (i := 1062) (by decide +kernel), by decide +kernel⟩
theorem wi_1064 : mm_in (.methodLink "ScreenTalkLaw" 78 ⟨"ScreenTalk", "room", "(II)I"⟩) := ⟨List.mem_of_getElem? (i := 1064) (by decide +kernel), by decide +kernel⟩
theorem wi_1065 : mm_in (.instanceMethod ⟨"ScreenTalk", "room", "(II)I"⟩) := ⟨List.mem_of_getElem? (i := 1065) (by decide +kernel), by decide +kernel⟩
theorem wi_1066 : mm_in (.selects "ScreenTalk" ⟨"ScreenTalk", "room", "(II)I"⟩ ⟨"ScreenTalk", "room", "(II)I"⟩) := ⟨List.mem_of_getElem? (i := 1066) (by decide +kernel), by decide +kernel⟩
theorem wi_1068 : mm_in (.methodLink "ScreenTalkLaw" 82 ⟨"ScreenTalk", "need", "(II)I"⟩) := ⟨List.mem_of_getElem? (i := 1068) (by decide +kernel), by decide +kernel⟩
theorem wi_1069 : mm_in (.instanceMethod ⟨"ScreenTalk", "need", "(II)I"⟩) := ⟨List.mem_of_getElem? (i := 1069) (by decide +kernel), by decide +kernel⟩
theorem wi_1070 : mm_in (.selects "ScreenTalk" ⟨"ScreenTalk", "need", "(II)I"⟩ ⟨"ScreenTalk", "need", "(II)I"⟩) := ⟨List.mem_of_getElem? (i := 1070) (by decide +kernel), by decide +kernel⟩
theorem wi_1072 : mm_in (.methodLink "ScreenTalkLaw" 86 ⟨"ScreenTalk", "best", "(III)I"⟩) := ⟨List.mem_of_getElem? (i := 1072) (by decide +kernel), by decide +kernel⟩
theorem wi_1073 : mm_in (.instanceMethod ⟨"ScreenTalk", "best", "(III)I"⟩) := ⟨List.mem_of_getElem? (i := 1073) (by decide +kernel), by decide +kernel⟩
theorem wi_1074 : mm_in (.selects "ScreenTalk" ⟨"ScreenTalk", "best", "(III)I"⟩ ⟨"ScreenTalk", "best", "(III)I"⟩) := ⟨List.mem_of_getElem? (i := 1074) (by decide +kernel), by decide +kernel⟩
theorem wi_1076 : mm_in (.methodLink "ScreenTalk" 277 ⟨"ScreenTalk", "bestWithin", "(II)I"⟩) := ⟨List.mem_of_getElem? (i := 1076) (by decide +kernel), by decide +kernel⟩
theorem wi_1078 : mm_in (.instanceMethod ⟨"ScreenTalk", "bestWithin", "(II)I"⟩) := ⟨List.mem_of_getElem? (i := 1078) (by decide +kernel), by decide +kernel⟩
theorem wi_1080 : mm_in (.methodLink "ScreenTalk" 287 ⟨"ScreenTalk", "depthWithin", "(II)I"⟩) := ⟨List.mem_of_getElem? (i := 1080) (by decide +kernel), by decide +kernel⟩
theorem wi_1082 : mm_in (.instanceMethod ⟨"ScreenTalk", "depthWithin", "(II)I"⟩) := ⟨List.mem_of_getElem? (i := 1082) (by decide +kernel), by decide +kernel⟩
theorem wi_1084 : mm_in (.methodLink "ScreenTalkLaw" 90 ⟨"ScreenTalk", "cheapest", "(II)I"⟩) := ⟨List.mem_of_getElem? (i := 1084) (by decide +kernel), by decide +kernel⟩
theorem wi_1085 : mm_in (.instanceMethod ⟨"ScreenTalk", "cheapest", "(II)I"⟩) := ⟨List.mem_of_getElem? (i := 1085) (by decide +kernel), by decide +kernel⟩
theorem wi_1086 : mm_in (.selects "ScreenTalk" ⟨"ScreenTalk", "cheapest", "(II)I"⟩ ⟨"ScreenTalk", "cheapest", "(II)I"⟩) := ⟨List.mem_of_getElem? (i := 1086) (by decide +kernel), by decide +kernel⟩
theorem wi_1088 : mm_in (.constant "ScreenTalk" 280 (Int32.ofInt (2147483647))) := ⟨List.mem_of_getElem? (i := 1088) (by decide +kernel), by decide +kernel⟩
theorem wi_1089 : mm_in (.methodLink "ScreenTalkLaw" 94 ⟨"ScreenTalk", "lane", "(III)I"⟩) := ⟨List.mem_of_getElem? (i := 1089) (by decide +kernel), by decide +kernel⟩
theorem wi_1090 : mm_in (.instanceMethod ⟨"ScreenTalk", "lane", "(III)I"⟩) := ⟨List.mem_of_getElem? (i := 1090) (by decide +kernel), by decide +kernel⟩
theorem wi_1091 : mm_in (.selects "ScreenTalk" ⟨"ScreenTalk", "lane", "(III)I"⟩ ⟨"ScreenTalk", "lane", "(III)I"⟩) := ⟨List.mem_of_getElem? (i := 1091) (by decide +kernel), by decide +kernel⟩
theorem wi_1093 : mm_in (.methodLink "ScreenTalk" 290 ⟨"ScreenTalk", "isLane", "(I)Z"⟩) := ⟨List.mem_of_getElem? (i := 1093) (by decide +kernel), by decide +kernel⟩
theorem wi_1094 : mm_in (.static ⟨"ScreenTalk", "isLane", "(I)Z"⟩) := ⟨List.mem_of_getElem? (i := 1094) (by decide +kernel), by decide +kernel⟩
theorem wi_1096 : mm_in (.methodLink "ScreenTalk" 299 ⟨"ScreenTalk", "endTraining", "()V"⟩) := ⟨List.mem_of_getElem? (i := 1096) (by decide +kernel), by decide +kernel⟩
theorem wi_1098 : mm_in (.instanceMethod ⟨"ScreenTalk", "endTraining", "()V"⟩) := ⟨List.mem_of_getElem? (i := 1098) (by decide +kernel), by decide +kernel⟩
theorem wi_1100 : mm_in (.methodLink "ScreenTalk" 376 ⟨"ScreenTalk$Training", "stop", "()V"⟩) := ⟨List.mem_of_getElem? (i := 1100) (by decide +kernel), by decide +kernel⟩
theorem wi_1101 : mm_in (.instanceMethod ⟨"ScreenTalk$Training", "stop", "()V"⟩) := ⟨List.mem_of_getElem? (i := 1101) (by decide +kernel), by decide +kernel⟩
theorem wi_1102 : mm_in (.selects "ScreenTalk$Training" ⟨"ScreenTalk$Training", "stop", "()V"⟩ ⟨"ScreenTalk$Training", "stop", "()V"⟩) := ⟨List.mem_of_getElem? (i := 1102) (by decide +kernel), by decide +kernel⟩
theorem wi_1104 : mm_in (.methodLink "ScreenTalk$Training" 34 ⟨"ScreenTalk$Training", "toFoot", "()V"⟩) := ⟨List.mem_of_getElem? (i := 1104) (by decide +kernel), by decide +kernel⟩
theorem wi_1106 : mm_in (.instanceMethod ⟨"ScreenTalk$Training", "toFoot", "()V"⟩) := ⟨List.mem_of_getElem? (i := 1106) (by decide +kernel), by decide +kernel⟩
theorem wi_1108 : mm_in (.methodLink "ScreenTalk$Training" 125 ⟨"java/util/Arrays", "fill", "([II)V"⟩) := ⟨List.mem_of_getElem? (i := 1108) (by decide +kernel), by decide +kernel⟩
theorem wi_1109 : mm_in (.methodLink "ScreenTalk" 312 ⟨"ScreenTalk$Journal", "clear", "()V"⟩) := ⟨List.mem_of_getElem? (i := 1109) (by decide +kernel), by decide +kernel⟩
theorem wi_1110 : mm_in (.instanceMethod ⟨"ScreenTalk$Journal", "clear", "()V"⟩) := ⟨List.mem_of_getElem? (i := 1110) (by decide +kernel), by decide +kernel⟩
theorem wi_1111 : mm_in (.selects "ScreenTalk$Journal" ⟨"ScreenTalk$Journal", "clear", "()V"⟩ ⟨"ScreenTalk$Journal", "clear", "()V"⟩) := ⟨List.mem_of_getElem? (i := 1111) (by decide +kernel), by decide +kernel⟩
theorem wi_1113 : mm_in (.methodLink "ScreenTalkLaw" 98 ⟨"ScreenTalk", "wire", "(II)I"⟩) := ⟨List.mem_of_getElem? (i := 1113) (by decide +kernel), by decide +kernel⟩
theorem wi_1114 : mm_in (.instanceMethod ⟨"ScreenTalk", "wire", "(II)I"⟩) := ⟨List.mem_of_getElem? (i := 1114) (by decide +kernel), by decide +kernel⟩
theorem wi_1115 : mm_in (.selects "ScreenTalk" ⟨"ScreenTalk", "wire", "(II)I"⟩ ⟨"ScreenTalk", "wire", "(II)I"⟩) := ⟨List.mem_of_getElem? (i := 1115) (by decide +kernel), by decide +kernel⟩
theorem wi_1117 : mm_in (.methodLink "ScreenTalkLaw" 102 ⟨"ScreenTalk", "begin", "()I"⟩) := ⟨List.mem_of_getElem? (i := 1117) (by decide +kernel), by decide +kernel⟩
theorem wi_1118 : mm_in (.instanceMethod ⟨"ScreenTalk", "begin", "()I"⟩) := ⟨List.mem_of_getElem? (i := 1118) (by decide +kernel), by decide +kernel⟩
theorem wi_1119 : mm_in (.selects "ScreenTalk" ⟨"ScreenTalk", "begin", "()I"⟩ ⟨"ScreenTalk", "begin", "()I"⟩) := ⟨List.mem_of_getElem? (i := 1119) (by decide +kernel), by decide +kernel⟩
theorem wi_1121 : mm_in (.methodLink "ScreenTalk" 308 ⟨"ScreenTalk$Training", "start", "(LScreenTalk$Wiring;)V"⟩) := ⟨List.mem_of_getElem? (i := 1121) (by decide +kernel), by decide +kernel⟩
theorem wi_1122 : mm_in (.instanceMethod ⟨"ScreenTalk$Training", "start", "(LScreenTalk$Wiring;)V"⟩) := ⟨List.mem_of_getElem? (i := 1122) (by decide +kernel), by decide +kernel⟩
theorem wi_1123 : mm_in (.selects "ScreenTalk$Training" ⟨"ScreenTalk$Training", "start", "(LScreenTalk$Wiring;)V"⟩ ⟨"ScreenTalk$Training", "start", "(LScreenTalk$Wiring;)V"⟩) := ⟨List.mem_of_getElem? (i := 1123) (by decide +kernel), by decide +kernel⟩
theorem wi_1125 : mm_in (.methodLink "ScreenTalk$Training" 37 ⟨"ScreenTalk$Training", "stop", "()V"⟩) := ⟨List.mem_of_getElem? (i := 1125) (by decide +kernel), by decide +kernel⟩
theorem wi_1126 : mm_in (.methodLink "ScreenTalkLaw" 107 ⟨"ScreenTalk", "tries", "(I)I"⟩) := ⟨List.mem_of_getElem? (i := 1126) (by decide +kernel), by decide +kernel⟩
theorem wi_1127 : mm_in (.instanceMethod ⟨"ScreenTalk", "tries", "(I)I"⟩) := ⟨List.mem_of_getElem? (i := 1127) (by decide +kernel), by decide +kernel⟩
theorem wi_1128 : mm_in (.selects "ScreenTalk" ⟨"ScreenTalk", "tries", "(I)I"⟩ ⟨"ScreenTalk", "tries", "(I)I"⟩) := ⟨List.mem_of_getElem? (i := 1128) (by decide +kernel), by decide +kernel⟩
theorem wi_1130 : mm_in (.methodLink "ScreenTalk" 313 ⟨"ScreenTalk$Training", "isRunning", "()Z"⟩) := ⟨List.mem_of_getElem? (i := 1130) (by decide +kernel), by decide +kernel⟩
theorem wi_1131 : mm_in (.instanceMethod ⟨"ScreenTalk$Training", "isRunning", "()Z"⟩) := ⟨List.mem_of_getElem? (i := 1131) (by decide +kernel), by decide +kernel⟩
theorem wi_1132 : mm_in (.selects "ScreenTalk$Training" ⟨"ScreenTalk$Training", "isRunning", "()Z"⟩ ⟨"ScreenTalk$Training", "isRunning", "()Z"⟩) := ⟨List.mem_of_getElem? (i := 1132) (by decide +kernel), by decide +kernel⟩
theorem wi_1134 : mm_in (.methodLink "ScreenTalk" 316 ⟨"ScreenTalk$Journal", "open", "(LScreenTalk$Training;)V"⟩) := ⟨List.mem_of_getElem? (i := 1134) (by decide +kernel), by decide +kernel⟩
theorem wi_1135 : mm_in (.instanceMethod ⟨"ScreenTalk$Journal", "open", "(LScreenTalk$Training;)V"⟩) := ⟨List.mem_of_getElem? (i := 1135) (by decide +kernel), by decide +kernel⟩
theorem wi_1136 : mm_in (.selects "ScreenTalk$Journal" ⟨"ScreenTalk$Journal", "open", "(LScreenTalk$Training;)V"⟩ ⟨"ScreenTalk$Journal", "open", "(LScreenTalk$Training;)V"⟩) := ⟨List.mem_of_getElem? (i := 1136) (by decide +kernel), by decide +kernel⟩
theorem wi_1138 : mm_in (.methodLink "ScreenTalk$Journal" 30 ⟨"ScreenTalk$Journal", "put", "(II)V"⟩) := ⟨List.mem_of_getElem? (i := 1138) (by decide +kernel), by decide +kernel⟩
theorem wi_1140 : mm_in (.instanceMethod ⟨"ScreenTalk$Journal", "put", "(II)V"⟩) := ⟨List.mem_of_getElem? (i := 1140) (by decide +kernel), by decide +kernel⟩
theorem wi_1142 : mm_in (.methodLink "ScreenTalk$Journal" 43 ⟨"ScreenTalk$Journal", "digits", "([I)I"⟩) := ⟨List.mem_of_getElem? (i := 1142) (by decide +kernel), by decide +kernel⟩
theorem wi_1143 : mm_in (.static ⟨"ScreenTalk$Journal", "digits", "([I)I"⟩) := ⟨List.mem_of_getElem? (i := 1143) (by decide +kernel), by decide +kernel⟩
theorem wi_1145 : mm_in (.methodLink "ScreenTalk$Journal" 50 ⟨"ScreenTalk$Training", "triesOfPhase", "()I"⟩) := ⟨List.mem_of_getElem? (i := 1145) (by decide +kernel), by decide +kernel⟩
theorem wi_1146 : mm_in (.instanceMethod ⟨"ScreenTalk$Training", "triesOfPhase", "()I"⟩) := ⟨List.mem_of_getElem? (i := 1146) (by decide +kernel), by decide +kernel⟩
theorem wi_1147 : mm_in (.selects "ScreenTalk$Training" ⟨"ScreenTalk$Training", "triesOfPhase", "()I"⟩ ⟨"ScreenTalk$Training", "triesOfPhase", "()I"⟩) := ⟨List.mem_of_getElem? (i := 1147) (by decide +kernel), by decide +kernel⟩
theorem wi_1149 : mm_in (.methodLink "ScreenTalk" 320 ⟨"ScreenTalk$Training", "attempt", "(LScreenTalk$Wiring;)I"⟩) := ⟨List.mem_of_getElem? (i := 1149) (by decide +kernel), by decide +kernel⟩
theorem wi_1150 : mm_in (.instanceMethod ⟨"ScreenTalk$Training", "attempt", "(LScreenTalk$Wiring;)I"⟩) := ⟨List.mem_of_getElem? (i := 1150) (by decide +kernel), by decide +kernel⟩
theorem wi_1151 : mm_in (.selects "ScreenTalk$Training" ⟨"ScreenTalk$Training", "attempt", "(LScreenTalk$Wiring;)I"⟩ ⟨"ScreenTalk$Training", "attempt", "(LScreenTalk$Wiring;)I"⟩) := ⟨List.mem_of_getElem? (i := 1151) (by decide +kernel), by decide +kernel⟩
theorem wi_1153 : mm_in (.methodLink "ScreenTalk$Training" 66 ⟨"ScreenTalk$Training", "attemptClock", "(LScreenTalk$Wiring;)I"⟩) := ⟨List.mem_of_getElem? (i := 1153) (by decide +kernel), by decide +kernel⟩
theorem wi_1155 : mm_in (.instanceMethod ⟨"ScreenTalk$Training", "attemptClock", "(LScreenTalk$Wiring;)I"⟩) := ⟨List.mem_of_getElem? (i := 1155) (by decide +kernel), by decide +kernel⟩
theorem wi_1157 : mm_in (.methodLink "ScreenTalk$Training" 78 ⟨"ScreenTalk$Training", "wantSwing", "(LScreenTalk$Wiring;)I"⟩) := ⟨List.mem_of_getElem? (i := 1157) (by decide +kernel), by decide +kernel⟩
theorem wi_1159 : mm_in (.instanceMethod ⟨"ScreenTalk$Training", "wantSwing", "(LScreenTalk$Wiring;)I"⟩) := ⟨List.mem_of_getElem? (i := 1159) (by decide +kernel), by decide +kernel⟩
theorem wi_1161 : mm_in (.methodLink "ScreenTalk$Training" 81 ⟨"ScreenTalk$Training", "fastLanes", "(LScreenTalk$Wiring;I)I"⟩) := ⟨List.mem_of_getElem? (i := 1161) (by decide +kernel), by decide +kernel⟩
theorem wi_1163 : mm_in (.instanceMethod ⟨"ScreenTalk$Training", "fastLanes", "(LScreenTalk$Wiring;I)I"⟩) := ⟨List.mem_of_getElem? (i := 1163) (by decide +kernel), by decide +kernel⟩
theorem wi_1165 : mm_in (.methodLink "ScreenTalk$Training" 91 ⟨"ScreenTalk$Training", "allLanes", "()I"⟩) := ⟨List.mem_of_getElem? (i := 1165) (by decide +kernel), by decide +kernel⟩
theorem wi_1167 : mm_in (.instanceMethod ⟨"ScreenTalk$Training", "allLanes", "()I"⟩) := ⟨List.mem_of_getElem? (i := 1167) (by decide +kernel), by decide +kernel⟩
theorem wi_1169 : mm_in (.methodLink "ScreenTalk$Training" 95 ⟨"ScreenTalk$Training", "isOneAtTop", "([II)Z"⟩) := ⟨List.mem_of_getElem? (i := 1169) (by decide +kernel), by decide +kernel⟩
theorem wi_1170 : mm_in (.static ⟨"ScreenTalk$Training", "isOneAtTop", "([II)Z"⟩) := ⟨List.mem_of_getElem? (i := 1170) (by decide +kernel), by decide +kernel⟩
theorem wi_1172 : mm_in (.methodLink "ScreenTalk$Training" 99 ⟨"ScreenTalk$Training", "raise", "([II)V"⟩) := ⟨List.mem_of_getElem? (i := 1172) (by decide +kernel), by decide +kernel⟩
theorem wi_1173 : mm_in (.static ⟨"ScreenTalk$Training", "raise", "([II)V"⟩) := ⟨List.mem_of_getElem? (i := 1173) (by decide +kernel), by decide +kernel⟩
theorem wi_1175 : mm_in (.methodLink "ScreenTalk$Training" 69 ⟨"ScreenTalk$Training", "attemptEven", "(LScreenTalk$Wiring;)I"⟩) := ⟨List.mem_of_getElem? (i := 1175) (by decide +kernel), by decide +kernel⟩
theorem wi_1177 : mm_in (.instanceMethod ⟨"ScreenTalk$Training", "attemptEven", "(LScreenTalk$Wiring;)I"⟩) := ⟨List.mem_of_getElem? (i := 1177) (by decide +kernel), by decide +kernel⟩
theorem wi_1179 : mm_in (.methodLink "ScreenTalk$Training" 106 ⟨"ScreenTalk$Training", "wantEmphasis", "(LScreenTalk$Wiring;)I"⟩) := ⟨List.mem_of_getElem? (i := 1179) (by decide +kernel), by decide +kernel⟩
theorem wi_1181 : mm_in (.instanceMethod ⟨"ScreenTalk$Training", "wantEmphasis", "(LScreenTalk$Wiring;)I"⟩) := ⟨List.mem_of_getElem? (i := 1181) (by decide +kernel), by decide +kernel⟩
theorem wi_1183 : mm_in (.methodLink "ScreenTalk$Training" 109 ⟨"ScreenTalk$Training", "easeSwing", "(I)V"⟩) := ⟨List.mem_of_getElem? (i := 1183) (by decide +kernel), by decide +kernel⟩
theorem wi_1185 : mm_in (.instanceMethod ⟨"ScreenTalk$Training", "easeSwing", "(I)V"⟩) := ⟨List.mem_of_getElem? (i := 1185) (by decide +kernel), by decide +kernel⟩
theorem wi_1187 : mm_in (.methodLink "ScreenTalk$Training" 72 ⟨"ScreenTalk$Training", "drop", "(LScreenTalk$Wiring;)V"⟩) := ⟨List.mem_of_getElem? (i := 1187) (by decide +kernel), by decide +kernel⟩
theorem wi_1189 : mm_in (.instanceMethod ⟨"ScreenTalk$Training", "drop", "(LScreenTalk$Wiring;)V"⟩) := ⟨List.mem_of_getElem? (i := 1189) (by decide +kernel), by decide +kernel⟩
theorem wi_1191 : mm_in (.methodLink "ScreenTalk$Training" 119 ⟨"ScreenTalk$Training", "dropFromClock", "(LScreenTalk$Wiring;)V"⟩) := ⟨List.mem_of_getElem? (i := 1191) (by decide +kernel), by decide +kernel⟩
theorem wi_1193 : mm_in (.instanceMethod ⟨"ScreenTalk$Training", "dropFromClock", "(LScreenTalk$Wiring;)V"⟩) := ⟨List.mem_of_getElem? (i := 1193) (by decide +kernel), by decide +kernel⟩
theorem wi_1195 : mm_in (.methodLink "ScreenTalk$Training" 122 ⟨"ScreenTalk$Training", "dropFromEven", "()V"⟩) := ⟨List.mem_of_getElem? (i := 1195) (by decide +kernel), by decide +kernel⟩
theorem wi_1197 : mm_in (.instanceMethod ⟨"ScreenTalk$Training", "dropFromEven", "()V"⟩) := ⟨List.mem_of_getElem? (i := 1197) (by decide +kernel), by decide +kernel⟩
theorem wi_1199 : mm_in (.methodLink "ScreenTalk" 327 ⟨"ScreenTalk$Journal", "close", "(II)V"⟩) := ⟨List.mem_of_getElem? (i := 1199) (by decide +kernel), by decide +kernel⟩
theorem wi_1200 : mm_in (.instanceMethod ⟨"ScreenTalk$Journal", "close", "(II)V"⟩) := ⟨List.mem_of_getElem? (i := 1200) (by decide +kernel), by decide +kernel⟩
theorem wi_1201 : mm_in (.selects "ScreenTalk$Journal" ⟨"ScreenTalk$Journal", "close", "(II)V"⟩ ⟨"ScreenTalk$Journal", "close", "(II)V"⟩) := ⟨List.mem_of_getElem? (i := 1201) (by decide +kernel), by decide +kernel⟩
theorem wi_1203 : mm_in (.methodLink "ScreenTalkLaw" 111 ⟨"ScreenTalk", "state", "(I)I"⟩) := ⟨List.mem_of_getElem? (i := 1203) (by decide +kernel), by decide +kernel⟩
theorem wi_1204 : mm_in (.instanceMethod ⟨"ScreenTalk", "state", "(I)I"⟩) := ⟨List.mem_of_getElem? (i := 1204) (by decide +kernel), by decide +kernel⟩
theorem wi_1205 : mm_in (.selects "ScreenTalk" ⟨"ScreenTalk", "state", "(I)I"⟩ ⟨"ScreenTalk", "state", "(I)I"⟩) := ⟨List.mem_of_getElem? (i := 1205) (by decide +kernel), by decide +kernel⟩
theorem wi_1207 : mm_in (.methodLink "ScreenTalk" 336 ⟨"ScreenTalk$Training", "triesOfPhase", "()I"⟩) := ⟨List.mem_of_getElem? (i := 1207) (by decide +kernel), by decide +kernel⟩
theorem wi_1208 : mm_in (.methodLink "ScreenTalk" 348 ⟨"ScreenTalk", "greatest", "([I)I"⟩) := ⟨List.mem_of_getElem? (i := 1208) (by decide +kernel), by decide +kernel⟩
theorem wi_1209 : mm_in (.static ⟨"ScreenTalk", "greatest", "([I)I"⟩) := ⟨List.mem_of_getElem? (i := 1209) (by decide +kernel), by decide +kernel⟩
theorem wi_1211 : mm_in (.methodLink "ScreenTalk" 371 ⟨"java/lang/Math", "max", "(II)I"⟩) := ⟨List.mem_of_getElem? (i := 1211) (by decide +kernel), by decide +kernel⟩
theorem wi_1212 : mm_in (.methodLink "ScreenTalkLaw" 115 ⟨"ScreenTalk", "level", "(II)I"⟩) := ⟨List.mem_of_getElem? (i := 1212) (by decide +kernel), by decide +kernel⟩
theorem wi_1213 : mm_in (.instanceMethod ⟨"ScreenTalk", "level", "(II)I"⟩) := ⟨List.mem_of_getElem? (i := 1213) (by decide +kernel), by decide +kernel⟩
theorem wi_1214 : mm_in (.selects "ScreenTalk" ⟨"ScreenTalk", "level", "(II)I"⟩ ⟨"ScreenTalk", "level", "(II)I"⟩) := ⟨List.mem_of_getElem? (i := 1214) (by decide +kernel), by decide +kernel⟩
theorem wi_1216 : mm_in (.methodLink "ScreenTalkLaw" 119 ⟨"ScreenTalk", "fall", "(II)I"⟩) := ⟨List.mem_of_getElem? (i := 1216) (by decide +kernel), by decide +kernel⟩
theorem wi_1217 : mm_in (.instanceMethod ⟨"ScreenTalk", "fall", "(II)I"⟩) := ⟨List.mem_of_getElem? (i := 1217) (by decide +kernel), by decide +kernel⟩
theorem wi_1218 : mm_in (.selects "ScreenTalk" ⟨"ScreenTalk", "fall", "(II)I"⟩ ⟨"ScreenTalk", "fall", "(II)I"⟩) := ⟨List.mem_of_getElem? (i := 1218) (by decide +kernel), by decide +kernel⟩
theorem wi_1220 : mm_in (.methodLink "ScreenTalk" 362 ⟨"ScreenTalk$Journal", "fallPart", "(II)I"⟩) := ⟨List.mem_of_getElem? (i := 1220) (by decide +kernel), by decide +kernel⟩
theorem wi_1221 : mm_in (.instanceMethod ⟨"ScreenTalk$Journal", "fallPart", "(II)I"⟩) := ⟨List.mem_of_getElem? (i := 1221) (by decide +kernel), by decide +kernel⟩
theorem wi_1222 : mm_in (.selects "ScreenTalk$Journal" ⟨"ScreenTalk$Journal", "fallPart", "(II)I"⟩ ⟨"ScreenTalk$Journal", "fallPart", "(II)I"⟩) := ⟨List.mem_of_getElem? (i := 1222) (by decide +kernel), by decide +kernel⟩
theorem wi_1224 : mm_in (.methodLink "ScreenTalk$Journal" 54 ⟨"ScreenTalk$Journal", "stepPart", "(II)I"⟩) := ⟨List.mem_of_getElem? (i := 1224) (by decide +kernel), by decide +kernel⟩
theorem wi_1225 : mm_in (.instanceMethod ⟨"ScreenTalk$Journal", "stepPart", "(II)I"⟩) := ⟨List.mem_of_getElem? (i := 1225) (by decide +kernel), by decide +kernel⟩
theorem wi_1226 : mm_in (.selects "ScreenTalk$Journal" ⟨"ScreenTalk$Journal", "stepPart", "(II)I"⟩ ⟨"ScreenTalk$Journal", "stepPart", "(II)I"⟩) := ⟨List.mem_of_getElem? (i := 1226) (by decide +kernel), by decide +kernel⟩
theorem wi_1228 : mm_in (.methodLink "ScreenTalkLaw" 123 ⟨"ScreenTalk", "step", "(II)I"⟩) := ⟨List.mem_of_getElem? (i := 1228) (by decide +kernel), by decide +kernel⟩
theorem wi_1229 : mm_in (.instanceMethod ⟨"ScreenTalk", "step", "(II)I"⟩) := ⟨List.mem_of_getElem? (i := 1229) (by decide +kernel), by decide +kernel⟩
theorem wi_1230 : mm_in (.selects "ScreenTalk" ⟨"ScreenTalk", "step", "(II)I"⟩ ⟨"ScreenTalk", "step", "(II)I"⟩) := ⟨List.mem_of_getElem? (i := 1230) (by decide +kernel), by decide +kernel⟩
theorem wi_1232 : mm_in (.methodLink "ScreenTalk" 368 ⟨"ScreenTalk$Journal", "stepPart", "(II)I"⟩) := ⟨List.mem_of_getElem? (i := 1232) (by decide +kernel), by decide +kernel⟩
theorem wi_1233 : mm_in (.methodLink "ScreenTalkLaw" 127 ⟨"ScreenTalk", "shown", "(I)I"⟩) := ⟨List.mem_of_getElem? (i := 1233) (by decide +kernel), by decide +kernel⟩
theorem wi_1234 : mm_in (.instanceMethod ⟨"ScreenTalk", "shown", "(I)I"⟩) := ⟨List.mem_of_getElem? (i := 1234) (by decide +kernel), by decide +kernel⟩
theorem wi_1235 : mm_in (.selects "ScreenTalk" ⟨"ScreenTalk", "shown", "(I)I"⟩ ⟨"ScreenTalk", "shown", "(I)I"⟩) := ⟨List.mem_of_getElem? (i := 1235) (by decide +kernel), by decide +kernel⟩
theorem wi_1237 : mm_in (.methodLink "ScreenTalkLaw" 131 ⟨"ScreenTalk", "trained", "(I)I"⟩) := ⟨List.mem_of_getElem? (i := 1237) (by decide +kernel), by decide +kernel⟩
theorem wi_1238 : mm_in (.instanceMethod ⟨"ScreenTalk", "trained", "(I)I"⟩) := ⟨List.mem_of_getElem? (i := 1238) (by decide +kernel), by decide +kernel⟩
theorem wi_1239 : mm_in (.selects "ScreenTalk" ⟨"ScreenTalk", "trained", "(I)I"⟩ ⟨"ScreenTalk", "trained", "(I)I"⟩) := ⟨List.mem_of_getElem? (i := 1239) (by decide +kernel), by decide +kernel⟩
theorem wi_1241 : mm_in (.methodLink "ScreenTalk" 379 ⟨"ScreenTalk$Training", "finish", "(LScreenTalk$Wiring;)I"⟩) := ⟨List.mem_of_getElem? (i := 1241) (by decide +kernel), by decide +kernel⟩
theorem wi_1242 : mm_in (.instanceMethod ⟨"ScreenTalk$Training", "finish", "(LScreenTalk$Wiring;)I"⟩) := ⟨List.mem_of_getElem? (i := 1242) (by decide +kernel), by decide +kernel⟩
theorem wi_1243 : mm_in (.selects "ScreenTalk$Training" ⟨"ScreenTalk$Training", "finish", "(LScreenTalk$Wiring;)I"⟩ ⟨"ScreenTalk$Training", "finish", "(LScreenTalk$Wiring;)I"⟩) := ⟨List.mem_of_getElem? (i := 1243) (by decide +kernel), by decide +kernel⟩
theorem wi_1245 : mm_in (.methodLink "ScreenTalk$Training" 50 ⟨"ScreenTalk$Training", "start", "(LScreenTalk$Wiring;)V"⟩) := ⟨List.mem_of_getElem? (i := 1245) (by decide +kernel), by decide +kernel⟩
theorem wi_1246 : mm_in (.methodLink "ScreenTalk$Training" 54 ⟨"ScreenTalk$Training", "isRunning", "()Z"⟩) := ⟨List.mem_of_getElem? (i := 1246) (by decide +kernel), by decide +kernel⟩
theorem wi_1247 : mm_in (.methodLink "ScreenTalk$Training" 58 ⟨"ScreenTalk$Training", "attempt", "(LScreenTalk$Wiring;)I"⟩) := ⟨List.mem_of_getElem? (i := 1247) (by decide +kernel), by decide +kernel⟩
theorem wi_1248 : mm_in (.methodLinkNest "ScreenTalk$Training" 62 ⟨"ScreenTalk", "roomOf", "(II)I"⟩ "ScreenTalk") := ⟨List.mem_of_getElem? (i := 1248) (by decide +kernel), by decide +kernel⟩
theorem wi_1249 : mm_in (.methodLink "ScreenTalkLaw" 135 ⟨"ScreenTalk", "margin", "(I)I"⟩) := ⟨List.mem_of_getElem? (i := 1249) (by decide +kernel), by decide +kernel⟩
theorem wi_1250 : mm_in (.instanceMethod ⟨"ScreenTalk", "margin", "(I)I"⟩) := ⟨List.mem_of_getElem? (i := 1250) (by decide +kernel), by decide +kernel⟩
theorem wi_1251 : mm_in (.selects "ScreenTalk" ⟨"ScreenTalk", "margin", "(I)I"⟩ ⟨"ScreenTalk", "margin", "(I)I"⟩) := ⟨List.mem_of_getElem? (i := 1251) (by decide +kernel), by decide +kernel⟩
theorem wi_1253 : mm_in (.methodLink "ScreenTalk" 382 ⟨"ScreenTalk$Wiring", "copy", "(LScreenTalk$Wiring;)V"⟩) := ⟨List.mem_of_getElem? (i := 1253) (by decide +kernel), by decide +kernel⟩
theorem wi_1254 : mm_in (.instanceMethod ⟨"ScreenTalk$Wiring", "copy", "(LScreenTalk$Wiring;)V"⟩) := ⟨List.mem_of_getElem? (i := 1254) (by decide +kernel), by decide +kernel⟩
theorem wi_1255 : mm_in (.selects "ScreenTalk$Wiring" ⟨"ScreenTalk$Wiring", "copy", "(LScreenTalk$Wiring;)V"⟩ ⟨"ScreenTalk$Wiring", "copy", "(LScreenTalk$Wiring;)V"⟩) := ⟨List.mem_of_getElem? (i := 1255) (by decide +kernel), by decide +kernel⟩
theorem wi_1257 : mm_in (.methodLink "ScreenTalk$Wiring" 25 ⟨"java/lang/System", "arraycopy", "(Ljava/lang/Object;ILjava/lang/Object;II)V"⟩) := ⟨List.mem_of_getElem? (i := 1257) (by decide +kernel), by decide +kernel⟩
theorem wi_1258 : mm_in (.methodLink "ScreenTalkLaw" 139 ⟨"ScreenTalk", "laid", "(I)I"⟩) := ⟨List.mem_of_getElem? (i := 1258) (by decide +kernel), by decide +kernel⟩
theorem wi_1259 : mm_in (.instanceMethod ⟨"ScreenTalk", "laid", "(I)I"⟩) := ⟨List.mem_of_getElem? (i := 1259) (by decide +kernel), by decide +kernel⟩
theorem wi_1260 : mm_in (.selects "ScreenTalk" ⟨"ScreenTalk", "laid", "(I)I"⟩ ⟨"ScreenTalk", "laid", "(I)I"⟩) := ⟨List.mem_of_getElem? (i := 1260) (by decide +kernel), by decide +kernel⟩
theorem wi_1262 : mm_in (.methodLink "ScreenTalk" 385 ⟨"ScreenTalk", "layLane", "(II)V"⟩) := ⟨List.mem_of_getElem? (i := 1262) (by decide +kernel), by decide +kernel⟩
theorem wi_1264 : mm_in (.instanceMethod ⟨"ScreenTalk", "layLane", "(II)V"⟩) := ⟨List.mem_of_getElem? (i := 1264) (by decide +kernel), by decide +kernel⟩
theorem wi_1266 : mm_in (.methodLink "ScreenTalkLaw" 143 ⟨"ScreenTalk", "enough", "()I"⟩) := ⟨List.mem_of_getElem? (i := 1266) (by decide +kernel), by decide +kernel⟩
theorem wi_1267 : mm_in (.instanceMethod ⟨"ScreenTalk", "enough", "()I"⟩) := ⟨List.mem_of_getElem? (i := 1267) (by decide +kernel), by decide +kernel⟩
theorem wi_1268 : mm_in (.selects "ScreenTalk" ⟨"ScreenTalk", "enough", "()I"⟩ ⟨"ScreenTalk", "enough", "()I"⟩) := ⟨List.mem_of_getElem? (i := 1268) (by decide +kernel), by decide +kernel⟩
theorem wi_1270 : mm_in (.methodLink "ScreenTalkLaw" 147 ⟨"ScreenTalk", "would", "(I)I"⟩) := ⟨List.mem_of_getElem? (i := 1270) (by decide +kernel), by decide +kernel⟩
theorem wi_1271 : mm_in (.instanceMethod ⟨"ScreenTalk", "would", "(I)I"⟩) := ⟨List.mem_of_getElem? (i := 1271) (by decide +kernel), by decide +kernel⟩
theorem wi_1272 : mm_in (.selects "ScreenTalk" ⟨"ScreenTalk", "would", "(I)I"⟩ ⟨"ScreenTalk", "would", "(I)I"⟩) := ⟨List.mem_of_getElem? (i := 1272) (by decide +kernel), by decide +kernel⟩
theorem wi_1274 : mm_in (.methodLink "ScreenTalkLaw" 151 ⟨"ScreenTalk", "count", "(I)I"⟩) := ⟨List.mem_of_getElem? (i := 1274) (by decide +kernel), by decide +kernel⟩
theorem wi_1275 : mm_in (.instanceMethod ⟨"ScreenTalk", "count", "(I)I"⟩) := ⟨List.mem_of_getElem? (i := 1275) (by decide +kernel), by decide +kernel⟩
theorem wi_1276 : mm_in (.selects "ScreenTalk" ⟨"ScreenTalk", "count", "(I)I"⟩ ⟨"ScreenTalk", "count", "(I)I"⟩) := ⟨List.mem_of_getElem? (i := 1276) (by decide +kernel), by decide +kernel⟩
theorem wi_1278 : mm_in (.classLink "ScreenTalkLaw" 10 "ScreenTalkModel") := ⟨List.mem_of_getElem? (i := 1278) (by decide +kernel), by decide +kernel⟩
theorem wi_1279 : mm_in (.instantiable "ScreenTalkModel" 47) := ⟨List.mem_of_getElem? (i := 1279) (by decide +kernel), by decide +kernel⟩
theorem wi_1280 : mm_in (.methodLink "ScreenTalkLaw" 12 ⟨"ScreenTalkModel", "<init>", "()V"⟩) := ⟨List.mem_of_getElem? (i := 1280) (by decide +kernel), by decide +kernel⟩
theorem wi_1281 : mm_in (.instanceMethod ⟨"ScreenTalkModel", "<init>", "()V"⟩) := ⟨List.mem_of_getElem? (i := 1281) (by decide +kernel), by decide +kernel⟩
theorem wi_1283 : mm_in (.methodLink "ScreenTalkModel" 7 ⟨"java/lang/Object", "<init>", "()V"⟩) := ⟨List.mem_of_getElem? (i := 1283) (by decide +kernel), by decide +kernel⟩
theorem wi_1284 : mm_in (.constant "ScreenTalkModel" 47 (Int32.ofInt (74250))) := ⟨List.mem_of_getElem? (i := 1284) (by decide +kernel), by decide +kernel⟩
theorem wi_1285 : mm_in (.constant "ScreenTalkModel" 48 (Int32.ofInt (148500))) := ⟨List.mem_of_getElem? (i := 1285) (by decide +kernel), by decide +kernel⟩
theorem wi_1286 : mm_in (.constant "ScreenTalkModel" 49 (Int32.ofInt (297000))) := ⟨List.mem_of_getElem? (i := 1286) (by decide +kernel), by decide +kernel⟩
theorem wi_1287 : mm_in (.constant "ScreenTalkModel" 50 (Int32.ofInt (594000))) := ⟨List.mem_of_getElem? (i := 1287) (by decide +kernel), by decide +kernel⟩
theorem wi_1288 : mm_in (.fieldLink "ScreenTalkModel" 1 "ScreenTalkModel" "thrown" "I") := ⟨List.mem_of_getElem? (i := 1288) (by decide +kernel), by decide +kernel⟩
theorem wi_1289 : mm_in (.fieldLink "ScreenTalkModel" 13 "ScreenTalkModel" "tape" "[I") := ⟨List.mem_of_getElem? (i := 1289) (by decide +kernel), by decide +kernel⟩
theorem wi_1290 : mm_in (.fieldLink "ScreenTalkModel" 17 "ScreenTalkModel" "latest" "[I") := ⟨List.mem_of_getElem? (i := 1290) (by decide +kernel), by decide +kernel⟩
theorem wi_1291 : mm_in (.fieldLink "ScreenTalkModel" 20 "ScreenTalkModel" "bytes" "[I") := ⟨List.mem_of_getElem? (i := 1291) (by decide +kernel), by decide +kernel⟩
theorem wi_1292 : mm_in (.fieldLink "ScreenTalkModel" 96 "ScreenTalkModel" "taped" "I") := ⟨List.mem_of_getElem? (i := 1292) (by decide +kernel), by decide +kernel⟩
theorem wi_1293 : mm_in (.fieldLink "ScreenTalkModel" 102 "ScreenTalkModel" "latestLong" "I") := ⟨List.mem_of_getElem? (i := 1293) (by decide +kernel), by decide +kernel⟩
theorem wi_1294 : mm_in (.fieldLink "ScreenTalkModel" 128 "ScreenTalkModel" "blocks" "I") := ⟨List.mem_of_getElem? (i := 1294) (by decide +kernel), by decide +kernel⟩
theorem wi_1295 : mm_in (.fieldLink "ScreenTalkModel" 99 "ScreenTalkModel" "wrong" "I") := ⟨List.mem_of_getElem? (i := 1295) (by decide +kernel), by decide +kernel⟩
theorem wi_1296 : mm_in (.fieldLink "ScreenTalkModel" 23 "ScreenTalkModel" "wrongAt" "I") := ⟨List.mem_of_getElem? (i := 1296) (by decide +kernel), by decide +kernel⟩
theorem wi_1297 : mm_in (.fieldLink "ScreenTalkModel" 26 "ScreenTalkModel" "detail" "[I") := ⟨List.mem_of_getElem? (i := 1297) (by decide +kernel), by decide +kernel⟩
theorem wi_1298 : mm_in (.fieldLink "ScreenTalkModel" 29 "ScreenTalkModel" "name" "[I") := ⟨List.mem_of_getElem? (i := 1298) (by decide +kernel), by decide +kernel⟩
theorem wi_1299 : mm_in (.fieldLink "ScreenTalkModel" 32 "ScreenTalkModel" "range" "[I") := ⟨List.mem_of_getElem? (i := 1299) (by decide +kernel), by decide +kernel⟩
theorem wi_1300 : mm_in (.fieldLink "ScreenTalkModel" 35 "ScreenTalkModel" "codes" "[I") := ⟨List.mem_of_getElem? (i := 1300) (by decide +kernel), by decide +kernel⟩
theorem wi_1301 : mm_in (.fieldLink "ScreenTalkModel" 137 "ScreenTalkModel" "detailMany" "I") := ⟨List.mem_of_getElem? (i := 1301) (by decide +kernel), by decide +kernel⟩
theorem wi_1302 : mm_in (.fieldLink "ScreenTalkModel" 147 "ScreenTalkModel" "nameLong" "I") := ⟨List.mem_of_getElem? (i := 1302) (by decide +kernel), by decide +kernel⟩
theorem wi_1303 : mm_in (.fieldLink "ScreenTalkModel" 164 "ScreenTalkModel" "most" "I") := ⟨List.mem_of_getElem? (i := 1303) (by decide +kernel), by decide +kernel⟩
theorem wi_1304 : mm_in (.fieldLink "ScreenTalkModel" 158 "ScreenTalkModel" "sounds" "I") := ⟨List.mem_of_getElem? (i := 1304) (by decide +kernel), by decide +kernel⟩
theorem wi_1305 : mm_in (.fieldLink "ScreenTalkModel" 161 "ScreenTalkModel" "codeMany" "I") := ⟨List.mem_of_getElem? (i := 1305) (by decide +kernel), by decide +kernel⟩
theorem wi_1306 : mm_in (.fieldLink "ScreenTalkModel" 154 "ScreenTalkModel" "hasRange" "Z") := ⟨List.mem_of_getElem? (i := 1306) (by decide +kernel), by decide +kernel⟩
theorem wi_1307 : mm_in (.fieldLink "ScreenTalkModel" 176 "ScreenTalkModel" "baseDetailed" "I") := ⟨List.mem_of_getElem? (i := 1307) (by decide +kernel), by decide +kernel⟩
theorem wi_1308 : mm_in (.fieldLink "ScreenTalkModel" 38 "ScreenTalkModel" "mode" "[I") := ⟨List.mem_of_getElem? (i := 1308) (by decide +kernel), by decide +kernel⟩
theorem wi_1309 : mm_in (.fieldLink "ScreenTalkModel" 41 "ScreenTalkModel" "order" "[I") := ⟨List.mem_of_getElem? (i := 1309) (by decide +kernel), by decide +kernel⟩
theorem wi_1310 : mm_in (.fieldLink "ScreenTalkModel" 44 "ScreenTalkModel" "out" "[I") := ⟨List.mem_of_getElem? (i := 1310) (by decide +kernel), by decide +kernel⟩
theorem wi_1311 : mm_in (.fieldLink "ScreenTalkModel" 134 "ScreenTalkModel" "modeMany" "I") := ⟨List.mem_of_getElem? (i := 1311) (by decide +kernel), by decide +kernel⟩
theorem wi_1312 : mm_in (.fieldLink "ScreenTalkModel" 51 "ScreenTalkModel" "table" "[I") := ⟨List.mem_of_getElem? (i := 1312) (by decide +kernel), by decide +kernel⟩
theorem wi_1313 : mm_in (.fieldLink "ScreenTalkModel" 54 "ScreenTalkModel" "established" "[I") := ⟨List.mem_of_getElem? (i := 1313) (by decide +kernel), by decide +kernel⟩
theorem wi_1314 : mm_in (.fieldLink "ScreenTalkModel" 57 "ScreenTalkModel" "forge" "[I") := ⟨List.mem_of_getElem? (i := 1314) (by decide +kernel), by decide +kernel⟩
theorem wi_1315 : mm_in (.fieldLink "ScreenTalkModel" 60 "ScreenTalkModel" "called" "[I") := ⟨List.mem_of_getElem? (i := 1315) (by decide +kernel), by decide +kernel⟩
theorem wi_1316 : mm_in (.fieldLink "ScreenTalkModel" 276 "ScreenTalkModel" "calledLong" "I") := ⟨List.mem_of_getElem? (i := 1316) (by decide +kernel), by decide +kernel⟩
theorem wi_1317 : mm_in (.fieldLink "ScreenTalkModel" 63 "ScreenTalkModel" "f" "[I") := ⟨List.mem_of_getElem? (i := 1317) (by decide +kernel), by decide +kernel⟩
theorem wi_1318 : mm_in (.fieldLink "ScreenTalkModel" 66 "ScreenTalkModel" "wished" "I") := ⟨List.mem_of_getElem? (i := 1318) (by decide +kernel), by decide +kernel⟩
theorem wi_1319 : mm_in (.fieldLink "ScreenTalkModel" 69 "ScreenTalkModel" "wireLanes" "I") := ⟨List.mem_of_getElem? (i := 1319) (by decide +kernel), by decide +kernel⟩
theorem wi_1320 : mm_in (.fieldLink "ScreenTalkModel" 72 "ScreenTalkModel" "wireRate" "I") := ⟨List.mem_of_getElem? (i := 1320) (by decide +kernel), by decide +kernel⟩
theorem wi_1321 : mm_in (.fieldLink "ScreenTalkModel" 333 "ScreenTalkModel" "bestMode" "I") := ⟨List.mem_of_getElem? (i := 1321) (by decide +kernel), by decide +kernel⟩
theorem wi_1322 : mm_in (.fieldLink "ScreenTalkModel" 336 "ScreenTalkModel" "bestDepth" "I") := ⟨List.mem_of_getElem? (i := 1322) (by decide +kernel), by decide +kernel⟩
theorem wi_1323 : mm_in (.fieldLink "ScreenTalkModel" 75 "ScreenTalkModel" "t" "[I") := ⟨List.mem_of_getElem? (i := 1323) (by decide +kernel), by decide +kernel⟩
theorem wi_1324 : mm_in (.fieldLink "ScreenTalkModel" 78 "ScreenTalkModel" "aside" "[I") := ⟨List.mem_of_getElem? (i := 1324) (by decide +kernel), by decide +kernel⟩
theorem wi_1325 : mm_in (.fieldLink "ScreenTalkModel" 81 "ScreenTalkModel" "loss" "[I") := ⟨List.mem_of_getElem? (i := 1325) (by decide +kernel), by decide +kernel⟩
theorem wi_1326 : mm_in (.fieldLink "ScreenTalkModel" 84 "ScreenTalkModel" "slow" "[I") := ⟨List.mem_of_getElem? (i := 1326) (by decide +kernel), by decide +kernel⟩
theorem wi_1327 : mm_in (.fieldLink "ScreenTalkModel" 87 "ScreenTalkModel" "lossAside" "[I") := ⟨List.mem_of_getElem? (i := 1327) (by decide +kernel), by decide +kernel⟩
theorem wi_1328 : mm_in (.fieldLink "ScreenTalkModel" 90 "ScreenTalkModel" "slowAside" "[I") := ⟨List.mem_of_getElem? (i := 1328) (by decide +kernel), by decide +kernel⟩
theorem wi_1329 : mm_in (.fieldLink "ScreenTalkModel" 93 "ScreenTalkModel" "steps" "[I") := ⟨List.mem_of_getElem? (i := 1329) (by decide +kernel), by decide +kernel⟩
theorem wi_1330 : mm_in (.fieldLink "ScreenTalkModel" 371 "ScreenTalkModel" "isPaper" "Z") := ⟨List.mem_of_getElem? (i := 1330) (by decide +kernel), by decide +kernel⟩
theorem wi_1331 : mm_in (.fieldLink "ScreenTalkModel" 362 "ScreenTalkModel" "foundLanes" "I") := ⟨List.mem_of_getElem? (i := 1331) (by decide +kernel), by decide +kernel⟩
theorem wi_1332 : mm_in (.fieldLink "ScreenTalkModel" 356 "ScreenTalkModel" "foundWhat" "I") := ⟨List.mem_of_getElem? (i := 1332) (by decide +kernel), by decide +kernel⟩
theorem wi_1333 : mm_in (.fieldLink "ScreenTalkModel" 409 "ScreenTalkModel" "laidRoom" "I") := ⟨List.mem_of_getElem? (i := 1333) (by decide +kernel), by decide +kernel⟩
theorem wi_1334 : mm_in (.fieldLink "ScreenTalkModel" 412 "ScreenTalkModel" "laidOrder" "I") := ⟨List.mem_of_getElem? (i := 1334) (by decide +kernel), by decide +kernel⟩
theorem wi_1430 : mm_in (.methodLink "ScreenTalkLaw" 17 ⟨"ScreenTalkModel", "feed", "(IIIII)I"⟩) := ⟨List.mem_of_getElem? (i := 1430) (by decide +kernel), by decide +kernel⟩
theorem wi_1431 : mm_in (.instanceMethod ⟨"ScreenTalkModel", "feed", "(IIIII)I"⟩) := ⟨List.mem_of_getElem? (i := 1431) (by decide +kernel), by decide +kernel⟩
theorem wi_1432 : mm_in (.selects "ScreenTalkModel" ⟨"ScreenTalkModel", "feed", "(IIIII)I"⟩ ⟨"ScreenTalkModel", "feed", "(IIIII)I"⟩) := ⟨List.mem_of_getElem? (i := 1432) (by decide +kernel), by decide +kernel⟩
theorem wi_1434 : mm_in (.methodLink "ScreenTalkLaw" 22 ⟨"ScreenTalkModel", "load", "(I)I"⟩) := ⟨List.mem_of_getElem? (i := 1434) (by decide +kernel), by decide +kernel⟩
theorem wi_1435 : mm_in (.instanceMethod ⟨"ScreenTalkModel", "load", "(I)I"⟩) := ⟨List.mem_of_getElem? (i := 1435) (by decide +kernel), by decide +kernel⟩
theorem wi_1436 : mm_in (.selects "ScreenTalkModel" ⟨"ScreenTalkModel", "load", "(I)I"⟩ ⟨"ScreenTalkModel", "load", "(I)I"⟩) := ⟨List.mem_of_getElem? (i := 1436) (by decide +kernel), by decide +kernel⟩
theorem wi_1438 : mm_in (.methodLink "ScreenTalkModel" 107 ⟨"ScreenTalkModel", "isIn", "(JJJ)Z"⟩) := ⟨List.mem_of_getElem? (i := 1438) (by decide +kernel), by decide +kernel⟩
theorem wi_1439 : mm_in (.static ⟨"ScreenTalkModel", "isIn", "(JJJ)Z"⟩) := ⟨List.mem_of_getElem? (i := 1439) (by decide +kernel), by decide +kernel⟩
theorem wi_1441 : mm_in (.methodLink "ScreenTalkModel" 125 ⟨"ScreenTalkModel", "checks", "()V"⟩) := ⟨List.mem_of_getElem? (i := 1441) (by decide +kernel), by decide +kernel⟩
theorem wi_1443 : mm_in (.instanceMethod ⟨"ScreenTalkModel", "checks", "()V"⟩) := ⟨List.mem_of_getElem? (i := 1443) (by decide +kernel), by decide +kernel⟩
theorem wi_1445 : mm_in (.constantLong "ScreenTalkModel" 105 (Int64.ofInt (4))) := ⟨List.mem_of_getElem? (i := 1445) (by decide +kernel), by decide +kernel⟩
theorem wi_1446 : mm_in (.methodLink "ScreenTalkModel" 111 ⟨"ScreenTalkModel", "fails", "(II)V"⟩) := ⟨List.mem_of_getElem? (i := 1446) (by decide +kernel), by decide +kernel⟩
theorem wi_1448 : mm_in (.instanceMethod ⟨"ScreenTalkModel", "fails", "(II)V"⟩) := ⟨List.mem_of_getElem? (i := 1448) (by decide +kernel), by decide +kernel⟩
theorem wi_1450 : mm_in (.methodLink "ScreenTalkModel" 115 ⟨"ScreenTalkModel", "sumOf", "(I)I"⟩) := ⟨List.mem_of_getElem? (i := 1450) (by decide +kernel), by decide +kernel⟩
theorem wi_1452 : mm_in (.instanceMethod ⟨"ScreenTalkModel", "sumOf", "(I)I"⟩) := ⟨List.mem_of_getElem? (i := 1452) (by decide +kernel), by decide +kernel⟩
theorem wi_1454 : mm_in (.methodLink "ScreenTalkModel" 119 ⟨"ScreenTalkModel", "checksExtension", "(I)V"⟩) := ⟨List.mem_of_getElem? (i := 1454) (by decide +kernel), by decide +kernel⟩
theorem wi_1456 : mm_in (.instanceMethod ⟨"ScreenTalkModel", "checksExtension", "(I)V"⟩) := ⟨List.mem_of_getElem? (i := 1456) (by decide +kernel), by decide +kernel⟩
theorem wi_1458 : mm_in (.constantLong "ScreenTalkModel" 123 (Int64.ofInt (127))) := ⟨List.mem_of_getElem? (i := 1458) (by decide +kernel), by decide +kernel⟩
theorem wi_1459 : mm_in (.methodLink "ScreenTalkModel" 131 ⟨"ScreenTalkModel", "reads", "()V"⟩) := ⟨List.mem_of_getElem? (i := 1459) (by decide +kernel), by decide +kernel⟩
theorem wi_1461 : mm_in (.instanceMethod ⟨"ScreenTalkModel", "reads", "()V"⟩) := ⟨List.mem_of_getElem? (i := 1461) (by decide +kernel), by decide +kernel⟩
theorem wi_1463 : mm_in (.methodLink "ScreenTalkModel" 208 ⟨"ScreenTalkModel", "readsAll", "()V"⟩) := ⟨List.mem_of_getElem? (i := 1463) (by decide +kernel), by decide +kernel⟩
theorem wi_1465 : mm_in (.instanceMethod ⟨"ScreenTalkModel", "readsAll", "()V"⟩) := ⟨List.mem_of_getElem? (i := 1465) (by decide +kernel), by decide +kernel⟩
theorem wi_1467 : mm_in (.methodLink "ScreenTalkModel" 167 ⟨"ScreenTalkModel", "isDetailed", "(I)Z"⟩) := ⟨List.mem_of_getElem? (i := 1467) (by decide +kernel), by decide +kernel⟩
theorem wi_1469 : mm_in (.instanceMethod ⟨"ScreenTalkModel", "isDetailed", "(I)Z"⟩) := ⟨List.mem_of_getElem? (i := 1469) (by decide +kernel), by decide +kernel⟩
theorem wi_1471 : mm_in (.methodLink "ScreenTalkModel" 140 ⟨"ScreenTalkModel", "at", "(I)I"⟩) := ⟨List.mem_of_getElem? (i := 1471) (by decide +kernel), by decide +kernel⟩
theorem wi_1473 : mm_in (.instanceMethod ⟨"ScreenTalkModel", "at", "(I)I"⟩) := ⟨List.mem_of_getElem? (i := 1473) (by decide +kernel), by decide +kernel⟩
theorem wi_1475 : mm_in (.methodLink "ScreenTalkModel" 170 ⟨"ScreenTalkModel", "readsDetailed", "(I)V"⟩) := ⟨List.mem_of_getElem? (i := 1475) (by decide +kernel), by decide +kernel⟩
theorem wi_1477 : mm_in (.instanceMethod ⟨"ScreenTalkModel", "readsDetailed", "(I)V"⟩) := ⟨List.mem_of_getElem? (i := 1477) (by decide +kernel), by decide +kernel⟩
theorem wi_1479 : mm_in (.methodLink "ScreenTalkModel" 143 ⟨"ScreenTalkModel", "isBroken", "(I)Z"⟩) := ⟨List.mem_of_getElem? (i := 1479) (by decide +kernel), by decide +kernel⟩
theorem wi_1481 : mm_in (.instanceMethod ⟨"ScreenTalkModel", "isBroken", "(I)Z"⟩) := ⟨List.mem_of_getElem? (i := 1481) (by decide +kernel), by decide +kernel⟩
theorem wi_1483 : mm_in (.methodLink "ScreenTalkModel" 173 ⟨"ScreenTalkModel", "readsOther", "(I)V"⟩) := ⟨List.mem_of_getElem? (i := 1483) (by decide +kernel), by decide +kernel⟩
theorem wi_1485 : mm_in (.instanceMethod ⟨"ScreenTalkModel", "readsOther", "(I)V"⟩) := ⟨List.mem_of_getElem? (i := 1485) (by decide +kernel), by decide +kernel⟩
theorem wi_1487 : mm_in (.constantLong "ScreenTalkModel" 150 (Int64.ofInt (32))) := ⟨List.mem_of_getElem? (i := 1487) (by decide +kernel), by decide +kernel⟩
theorem wi_1488 : mm_in (.constantLong "ScreenTalkModel" 152 (Int64.ofInt (126))) := ⟨List.mem_of_getElem? (i := 1488) (by decide +kernel), by decide +kernel⟩
theorem wi_1489 : mm_in (.methodLink "ScreenTalkModel" 179 ⟨"ScreenTalkModel", "readsData", "(II)V"⟩) := ⟨List.mem_of_getElem? (i := 1489) (by decide +kernel), by decide +kernel⟩
theorem wi_1491 : mm_in (.instanceMethod ⟨"ScreenTalkModel", "readsData", "(II)V"⟩) := ⟨List.mem_of_getElem? (i := 1491) (by decide +kernel), by decide +kernel⟩
theorem wi_1493 : mm_in (.methodLink "ScreenTalkModel" 211 ⟨"ScreenTalkModel", "offersDetailed", "(I)V"⟩) := ⟨List.mem_of_getElem? (i := 1493) (by decide +kernel), by decide +kernel⟩
theorem wi_1495 : mm_in (.instanceMethod ⟨"ScreenTalkModel", "offersDetailed", "(I)V"⟩) := ⟨List.mem_of_getElem? (i := 1495) (by decide +kernel), by decide +kernel⟩
theorem wi_1497 : mm_in (.methodLink "ScreenTalkModel" 197 ⟨"ScreenTalkModel", "offers", "(IIIIII)Z"⟩) := ⟨List.mem_of_getElem? (i := 1497) (by decide +kernel), by decide +kernel⟩
theorem wi_1499 : mm_in (.instanceMethod ⟨"ScreenTalkModel", "offers", "(IIIIII)Z"⟩) := ⟨List.mem_of_getElem? (i := 1499) (by decide +kernel), by decide +kernel⟩
theorem wi_1501 : mm_in (.methodLink "ScreenTalkModel" 186 ⟨"ScreenTalkModel", "hertzOf", "(II)I"⟩) := ⟨List.mem_of_getElem? (i := 1501) (by decide +kernel), by decide +kernel⟩
theorem wi_1502 : mm_in (.static ⟨"ScreenTalkModel", "hertzOf", "(II)I"⟩) := ⟨List.mem_of_getElem? (i := 1502) (by decide +kernel), by decide +kernel⟩
theorem wi_1504 : mm_in (.constantLong "ScreenTalkModel" 182 (Int64.ofInt (2000))) := ⟨List.mem_of_getElem? (i := 1504) (by decide +kernel), by decide +kernel⟩
theorem wi_1505 : mm_in (.constantLong "ScreenTalkModel" 184 (Int64.ofInt (2))) := ⟨List.mem_of_getElem? (i := 1505) (by decide +kernel), by decide +kernel⟩
theorem wi_1506 : mm_in (.methodLink "ScreenTalkModel" 190 ⟨"ScreenTalkModel", "isOut", "(III)Z"⟩) := ⟨List.mem_of_getElem? (i := 1506) (by decide +kernel), by decide +kernel⟩
theorem wi_1508 : mm_in (.instanceMethod ⟨"ScreenTalkModel", "isOut", "(III)Z"⟩) := ⟨List.mem_of_getElem? (i := 1508) (by decide +kernel), by decide +kernel⟩
theorem wi_1510 : mm_in (.methodLink "ScreenTalkModel" 194 ⟨"ScreenTalkModel", "isFound", "(III)Z"⟩) := ⟨List.mem_of_getElem? (i := 1510) (by decide +kernel), by decide +kernel⟩
theorem wi_1512 : mm_in (.instanceMethod ⟨"ScreenTalkModel", "isFound", "(III)Z"⟩) := ⟨List.mem_of_getElem? (i := 1512) (by decide +kernel), by decide +kernel⟩
theorem wi_1514 : mm_in (.methodLink "ScreenTalkModel" 201 ⟨"ScreenTalkModel", "laysFronts", "(IIII)V"⟩) := ⟨List.mem_of_getElem? (i := 1514) (by decide +kernel), by decide +kernel⟩
theorem wi_1516 : mm_in (.instanceMethod ⟨"ScreenTalkModel", "laysFronts", "(IIII)V"⟩) := ⟨List.mem_of_getElem? (i := 1516) (by decide +kernel), by decide +kernel⟩
theorem wi_1518 : mm_in (.methodLink "ScreenTalkModel" 214 ⟨"ScreenTalkModel", "offersCode", "(I)V"⟩) := ⟨List.mem_of_getElem? (i := 1518) (by decide +kernel), by decide +kernel⟩
theorem wi_1520 : mm_in (.instanceMethod ⟨"ScreenTalkModel", "offersCode", "(I)V"⟩) := ⟨List.mem_of_getElem? (i := 1520) (by decide +kernel), by decide +kernel⟩
theorem wi_1522 : mm_in (.methodLink "ScreenTalkModel" 217 ⟨"ScreenTalkModel", "offersPlain", "(IIII)V"⟩) := ⟨List.mem_of_getElem? (i := 1522) (by decide +kernel), by decide +kernel⟩
theorem wi_1524 : mm_in (.instanceMethod ⟨"ScreenTalkModel", "offersPlain", "(IIII)V"⟩) := ⟨List.mem_of_getElem? (i := 1524) (by decide +kernel), by decide +kernel⟩
theorem wi_1526 : mm_in (.methodLink "ScreenTalkModel" 205 ⟨"ScreenTalkModel", "works", "(IIII)V"⟩) := ⟨List.mem_of_getElem? (i := 1526) (by decide +kernel), by decide +kernel⟩
theorem wi_1528 : mm_in (.instanceMethod ⟨"ScreenTalkModel", "works", "(IIII)V"⟩) := ⟨List.mem_of_getElem? (i := 1528) (by decide +kernel), by decide +kernel⟩
theorem wi_1530 : mm_in (.constant "ScreenTalkModel" 285 (Int32.ofInt (1000000))) := ⟨List.mem_of_getElem? (i := 1530) (by decide +kernel), by decide +kernel⟩
theorem wi_1531 : mm_in (.methodLink "ScreenTalkModel" 286 ⟨"ScreenTalkModel", "syncOf", "(II)I"⟩) := ⟨List.mem_of_getElem? (i := 1531) (by decide +kernel), by decide +kernel⟩
theorem wi_1532 : mm_in (.static ⟨"ScreenTalkModel", "syncOf", "(II)I"⟩) := ⟨List.mem_of_getElem? (i := 1532) (by decide +kernel), by decide +kernel⟩
theorem wi_1534 : mm_in (.methodLink "ScreenTalkModel" 289 ⟨"ScreenTalkModel", "greater", "(II)I"⟩) := ⟨List.mem_of_getElem? (i := 1534) (by decide +kernel), by decide +kernel⟩
theorem wi_1535 : mm_in (.static ⟨"ScreenTalkModel", "greater", "(II)I"⟩) := ⟨List.mem_of_getElem? (i := 1535) (by decide +kernel), by decide +kernel⟩
theorem wi_1537 : mm_in (.constantLong "ScreenTalkModel" 292 (Int64.ofInt (250000))) := ⟨List.mem_of_getElem? (i := 1537) (by decide +kernel), by decide +kernel⟩
theorem wi_1538 : mm_in (.constantLong "ScreenTalkModel" 294 (Int64.ofInt (1000))) := ⟨List.mem_of_getElem? (i := 1538) (by decide +kernel), by decide +kernel⟩
theorem wi_1539 : mm_in (.methodLink "ScreenTalkModel" 220 ⟨"ScreenTalkModel", "has", "(II)Z"⟩) := ⟨List.mem_of_getElem? (i := 1539) (by decide +kernel), by decide +kernel⟩
theorem wi_1540 : mm_in (.static ⟨"ScreenTalkModel", "has", "(II)Z"⟩) := ⟨List.mem_of_getElem? (i := 1540) (by decide +kernel), by decide +kernel⟩
theorem wi_1542 : mm_in (.methodLink "ScreenTalkModel" 224 ⟨"ScreenTalkModel", "isAhead", "(II)Z"⟩) := ⟨List.mem_of_getElem? (i := 1542) (by decide +kernel), by decide +kernel⟩
theorem wi_1544 : mm_in (.instanceMethod ⟨"ScreenTalkModel", "isAhead", "(II)Z"⟩) := ⟨List.mem_of_getElem? (i := 1544) (by decide +kernel), by decide +kernel⟩
theorem wi_1546 : mm_in (.methodLink "ScreenTalkLaw" 26 ⟨"ScreenTalkModel", "fault", "(I)I"⟩) := ⟨List.mem_of_getElem? (i := 1546) (by decide +kernel), by decide +kernel⟩
theorem wi_1547 : mm_in (.instanceMethod ⟨"ScreenTalkModel", "fault", "(I)I"⟩) := ⟨List.mem_of_getElem? (i := 1547) (by decide +kernel), by decide +kernel⟩
theorem wi_1548 : mm_in (.selects "ScreenTalkModel" ⟨"ScreenTalkModel", "fault", "(I)I"⟩ ⟨"ScreenTalkModel", "fault", "(I)I"⟩) := ⟨List.mem_of_getElem? (i := 1548) (by decide +kernel), by decide +kernel⟩
theorem wi_1550 : mm_in (.methodLink "ScreenTalkLaw" 30 ⟨"ScreenTalkModel", "mend", "(I)I"⟩) := ⟨List.mem_of_getElem? (i := 1550) (by decide +kernel), by decide +kernel⟩
theorem wi_1551 : mm_in (.instanceMethod ⟨"ScreenTalkModel", "mend", "(I)I"⟩) := ⟨List.mem_of_getElem? (i := 1551) (by decide +kernel), by decide +kernel⟩
theorem wi_1552 : mm_in (.selects "ScreenTalkModel" ⟨"ScreenTalkModel", "mend", "(I)I"⟩ ⟨"ScreenTalkModel", "mend", "(I)I"⟩) := ⟨List.mem_of_getElem? (i := 1552) (by decide +kernel), by decide +kernel⟩
theorem wi_1554 : mm_in (.methodLink "ScreenTalkLaw" 34 ⟨"ScreenTalkModel", "told", "(I)I"⟩) := ⟨List.mem_of_getElem? (i := 1554) (by decide +kernel), by decide +kernel⟩
theorem wi_1555 : mm_in (.instanceMethod ⟨"ScreenTalkModel", "told", "(I)I"⟩) := ⟨List.mem_of_getElem? (i := 1555) (by decide +kernel), by decide +kernel⟩
theorem wi_1556 : mm_in (.selects "ScreenTalkModel" ⟨"ScreenTalkModel", "told", "(I)I"⟩ ⟨"ScreenTalkModel", "told", "(I)I"⟩) := ⟨List.mem_of_getElem? (i := 1556) (by decide +kernel), by decide +kernel⟩
theorem wi_1558 : mm_in (.constantLong "ScreenTalkModel" 227 (Int64.ofInt (16))) := ⟨List.mem_of_getElem? (i := 1558) (by decide +kernel), by decide +kernel⟩
theorem wi_1559 : mm_in (.constantLong "ScreenTalkModel" 229 (Int64.ofInt (20))) := ⟨List.mem_of_getElem? (i := 1559) (by decide +kernel), by decide +kernel⟩
theorem wi_1560 : mm_in (.constantLong "ScreenTalkModel" 231 (Int64.ofInt (26))) := ⟨List.mem_of_getElem? (i := 1560) (by decide +kernel), by decide +kernel⟩
theorem wi_1561 : mm_in (.constantLong "ScreenTalkModel" 233 (Int64.ofInt (9))) := ⟨List.mem_of_getElem? (i := 1561) (by decide +kernel), by decide +kernel⟩
theorem wi_1562 : mm_in (.constantLong "ScreenTalkModel" 235 (Int64.ofInt (13))) := ⟨List.mem_of_getElem? (i := 1562) (by decide +kernel), by decide +kernel⟩
theorem wi_1563 : mm_in (.methodLink "ScreenTalkLaw" 38 ⟨"ScreenTalkModel", "name", "(I)I"⟩) := ⟨List.mem_of_getElem? (i := 1563) (by decide +kernel), by decide +kernel⟩
theorem wi_1564 : mm_in (.instanceMethod ⟨"ScreenTalkModel", "name", "(I)I"⟩) := ⟨List.mem_of_getElem? (i := 1564) (by decide +kernel), by decide +kernel⟩
theorem wi_1565 : mm_in (.selects "ScreenTalkModel" ⟨"ScreenTalkModel", "name", "(I)I"⟩ ⟨"ScreenTalkModel", "name", "(I)I"⟩) := ⟨List.mem_of_getElem? (i := 1565) (by decide +kernel), by decide +kernel⟩
theorem wi_1567 : mm_in (.methodLink "ScreenTalkLaw" 43 ⟨"ScreenTalkModel", "detailed", "(II)I"⟩) := ⟨List.mem_of_getElem? (i := 1567) (by decide +kernel), by decide +kernel⟩
theorem wi_1568 : mm_in (.instanceMethod ⟨"ScreenTalkModel", "detailed", "(II)I"⟩) := ⟨List.mem_of_getElem? (i := 1568) (by decide +kernel), by decide +kernel⟩
theorem wi_1569 : mm_in (.selects "ScreenTalkModel" ⟨"ScreenTalkModel", "detailed", "(II)I"⟩ ⟨"ScreenTalkModel", "detailed", "(II)I"⟩) := ⟨List.mem_of_getElem? (i := 1569) (by decide +kernel), by decide +kernel⟩
theorem wi_1571 : mm_in (.constantLong "ScreenTalkModel" 237 (Int64.ofInt (10))) := ⟨List.mem_of_getElem? (i := 1571) (by decide +kernel), by decide +kernel⟩
theorem wi_1572 : mm_in (.methodLink "ScreenTalkLaw" 51 ⟨"ScreenTalkModel", "mode", "(II)I"⟩) := ⟨List.mem_of_getElem? (i := 1572) (by decide +kernel), by decide +kernel⟩
theorem wi_1573 : mm_in (.instanceMethod ⟨"ScreenTalkModel", "mode", "(II)I"⟩) := ⟨List.mem_of_getElem? (i := 1573) (by decide +kernel), by decide +kernel⟩
theorem wi_1574 : mm_in (.selects "ScreenTalkModel" ⟨"ScreenTalkModel", "mode", "(II)I"⟩ ⟨"ScreenTalkModel", "mode", "(II)I"⟩) := ⟨List.mem_of_getElem? (i := 1574) (by decide +kernel), by decide +kernel⟩
theorem wi_1576 : mm_in (.methodLink "ScreenTalkModel" 239 ⟨"ScreenTalkModel", "isMode", "(I)Z"⟩) := ⟨List.mem_of_getElem? (i := 1576) (by decide +kernel), by decide +kernel⟩
theorem wi_1578 : mm_in (.instanceMethod ⟨"ScreenTalkModel", "isMode", "(I)Z"⟩) := ⟨List.mem_of_getElem? (i := 1578) (by decide +kernel), by decide +kernel⟩
theorem wi_1580 : mm_in (.constantLong "ScreenTalkModel" 242 (Int64.ofInt (8))) := ⟨List.mem_of_getElem? (i := 1580) (by decide +kernel), by decide +kernel⟩
theorem wi_1581 : mm_in (.methodLink "ScreenTalkModel" 244 ⟨"ScreenTalkModel", "ofMode", "(II)I"⟩) := ⟨List.mem_of_getElem? (i := 1581) (by decide +kernel), by decide +kernel⟩
theorem wi_1583 : mm_in (.instanceMethod ⟨"ScreenTalkModel", "ofMode", "(II)I"⟩) := ⟨List.mem_of_getElem? (i := 1583) (by decide +kernel), by decide +kernel⟩
theorem wi_1585 : mm_in (.methodLink "ScreenTalkModel" 247 ⟨"ScreenTalkModel", "thousandths", "(II)I"⟩) := ⟨List.mem_of_getElem? (i := 1585) (by decide +kernel), by decide +kernel⟩
theorem wi_1586 : mm_in (.static ⟨"ScreenTalkModel", "thousandths", "(II)I"⟩) := ⟨List.mem_of_getElem? (i := 1586) (by decide +kernel), by decide +kernel⟩
theorem wi_1588 : mm_in (.constantLong "ScreenTalkModel" 250 (Int64.ofInt (1000000))) := ⟨List.mem_of_getElem? (i := 1588) (by decide +kernel), by decide +kernel⟩
theorem wi_1589 : mm_in (.constantLong "ScreenTalkModel" 254 (Int64.ofInt (2147483647))) := ⟨List.mem_of_getElem? (i := 1589) (by decide +kernel), by decide +kernel⟩
theorem wi_1590 : mm_in (.constant "ScreenTalkModel" 256 (Int32.ofInt (2147483647))) := ⟨List.mem_of_getElem? (i := 1590) (by decide +kernel), by decide +kernel⟩
theorem wi_1591 : mm_in (.methodLink "ScreenTalkLaw" 47 ⟨"ScreenTalkModel", "forged", "(I)I"⟩) := ⟨List.mem_of_getElem? (i := 1591) (by decide +kernel), by decide +kernel⟩
theorem wi_1592 : mm_in (.instanceMethod ⟨"ScreenTalkModel", "forged", "(I)I"⟩) := ⟨List.mem_of_getElem? (i := 1592) (by decide +kernel), by decide +kernel⟩
theorem wi_1593 : mm_in (.selects "ScreenTalkModel" ⟨"ScreenTalkModel", "forged", "(I)I"⟩ ⟨"ScreenTalkModel", "forged", "(I)I"⟩) := ⟨List.mem_of_getElem? (i := 1593) (by decide +kernel), by decide +kernel⟩
theorem wi_1595 : mm_in (.methodLink "ScreenTalkModel" 273 ⟨"ScreenTalkModel", "forges", "()Z"⟩) := ⟨List.mem_of_getElem? (i := 1595) (by decide +kernel), by decide +kernel⟩
theorem wi_1597 : mm_in (.instanceMethod ⟨"ScreenTalkModel", "forges", "()Z"⟩) := ⟨List.mem_of_getElem? (i := 1597) (by decide +kernel), by decide +kernel⟩
theorem wi_1599 : mm_in (.methodLink "ScreenTalkModel" 257 ⟨"ScreenTalkModel", "laysMode", "(I)V"⟩) := ⟨List.mem_of_getElem? (i := 1599) (by decide +kernel), by decide +kernel⟩
theorem wi_1601 : mm_in (.instanceMethod ⟨"ScreenTalkModel", "laysMode", "(I)V"⟩) := ⟨List.mem_of_getElem? (i := 1601) (by decide +kernel), by decide +kernel⟩
theorem wi_1603 : mm_in (.methodLink "ScreenTalkModel" 260 ⟨"ScreenTalkModel", "hasRoom", "()Z"⟩) := ⟨List.mem_of_getElem? (i := 1603) (by decide +kernel), by decide +kernel⟩
theorem wi_1605 : mm_in (.instanceMethod ⟨"ScreenTalkModel", "hasRoom", "()Z"⟩) := ⟨List.mem_of_getElem? (i := 1605) (by decide +kernel), by decide +kernel⟩
theorem wi_1607 : mm_in (.constant "ScreenTalkModel" 308 (Int32.ofInt (655359))) := ⟨List.mem_of_getElem? (i := 1607) (by decide +kernel), by decide +kernel⟩
theorem wi_1608 : mm_in (.methodLink "ScreenTalkModel" 264 ⟨"ScreenTalkModel", "descriptorByte", "(I)I"⟩) := ⟨List.mem_of_getElem? (i := 1608) (by decide +kernel), by decide +kernel⟩
theorem wi_1610 : mm_in (.instanceMethod ⟨"ScreenTalkModel", "descriptorByte", "(I)I"⟩) := ⟨List.mem_of_getElem? (i := 1610) (by decide +kernel), by decide +kernel⟩
theorem wi_1612 : mm_in (.methodLink "ScreenTalkModel" 267 ⟨"ScreenTalkModel", "forgesName", "(I)V"⟩) := ⟨List.mem_of_getElem? (i := 1612) (by decide +kernel), by decide +kernel⟩
theorem wi_1614 : mm_in (.instanceMethod ⟨"ScreenTalkModel", "forgesName", "(I)V"⟩) := ⟨List.mem_of_getElem? (i := 1614) (by decide +kernel), by decide +kernel⟩
theorem wi_1616 : mm_in (.methodLink "ScreenTalkModel" 270 ⟨"ScreenTalkModel", "forgesRange", "(I)V"⟩) := ⟨List.mem_of_getElem? (i := 1616) (by decide +kernel), by decide +kernel⟩
theorem wi_1618 : mm_in (.instanceMethod ⟨"ScreenTalkModel", "forgesRange", "(I)V"⟩) := ⟨List.mem_of_getElem? (i := 1618) (by decide +kernel), by decide +kernel⟩
theorem wi_1620 : mm_in (.methodLink "ScreenTalkLaw" 55 ⟨"ScreenTalkModel", "called", "(II)I"⟩) := ⟨List.mem_of_getElem? (i := 1620) (by decide +kernel), by decide +kernel⟩
theorem wi_1621 : mm_in (.instanceMethod ⟨"ScreenTalkModel", "called", "(II)I"⟩) := ⟨List.mem_of_getElem? (i := 1621) (by decide +kernel), by decide +kernel⟩
theorem wi_1622 : mm_in (.selects "ScreenTalkModel" ⟨"ScreenTalkModel", "called", "(II)I"⟩ ⟨"ScreenTalkModel", "called", "(II)I"⟩) := ⟨List.mem_of_getElem? (i := 1622) (by decide +kernel), by decide +kernel⟩
theorem wi_1624 : mm_in (.methodLink "ScreenTalkModel" 282 ⟨"ScreenTalkModel", "callsNumber", "(I)V"⟩) := ⟨List.mem_of_getElem? (i := 1624) (by decide +kernel), by decide +kernel⟩
theorem wi_1626 : mm_in (.instanceMethod ⟨"ScreenTalkModel", "callsNumber", "(I)V"⟩) := ⟨List.mem_of_getElem? (i := 1626) (by decide +kernel), by decide +kernel⟩
theorem wi_1628 : mm_in (.methodLink "ScreenTalkModel" 279 ⟨"ScreenTalkModel", "calls", "(I)V"⟩) := ⟨List.mem_of_getElem? (i := 1628) (by decide +kernel), by decide +kernel⟩
theorem wi_1630 : mm_in (.instanceMethod ⟨"ScreenTalkModel", "calls", "(I)V"⟩) := ⟨List.mem_of_getElem? (i := 1630) (by decide +kernel), by decide +kernel⟩
theorem wi_1632 : mm_in (.methodLink "ScreenTalkLaw" 60 ⟨"ScreenTalkModel", "find", "(III)I"⟩) := ⟨List.mem_of_getElem? (i := 1632) (by decide +kernel), by decide +kernel⟩
theorem wi_1633 : mm_in (.instanceMethod ⟨"ScreenTalkModel", "find", "(III)I"⟩) := ⟨List.mem_of_getElem? (i := 1633) (by decide +kernel), by decide +kernel⟩
theorem wi_1634 : mm_in (.selects "ScreenTalkModel" ⟨"ScreenTalkModel", "find", "(III)I"⟩ ⟨"ScreenTalkModel", "find", "(III)I"⟩) := ⟨List.mem_of_getElem? (i := 1634) (by decide +kernel), by decide +kernel⟩
theorem wi_1636 : mm_in (.methodLink "ScreenTalkLaw" 64 ⟨"ScreenTalkModel", "formula", "(IIIII)I"⟩) := ⟨List.mem_of_getElem? (i := 1636) (by decide +kernel), by decide +kernel⟩
theorem wi_1637 : mm_in (.instanceMethod ⟨"ScreenTalkModel", "formula", "(IIIII)I"⟩) := ⟨List.mem_of_getElem? (i := 1637) (by decide +kernel), by decide +kernel⟩
theorem wi_1638 : mm_in (.selects "ScreenTalkModel" ⟨"ScreenTalkModel", "formula", "(IIIII)I"⟩ ⟨"ScreenTalkModel", "formula", "(IIIII)I"⟩) := ⟨List.mem_of_getElem? (i := 1638) (by decide +kernel), by decide +kernel⟩
theorem wi_1640 : mm_in (.methodLink "ScreenTalkModel" 304 ⟨"ScreenTalkModel", "refuses", "(III)I"⟩) := ⟨List.mem_of_getElem? (i := 1640) (by decide +kernel), by decide +kernel⟩
theorem wi_1641 : mm_in (.static ⟨"ScreenTalkModel", "refuses", "(III)I"⟩) := ⟨List.mem_of_getElem? (i := 1641) (by decide +kernel), by decide +kernel⟩
theorem wi_1643 : mm_in (.constantLong "ScreenTalkModel" 296 (Int64.ofInt (64))) := ⟨List.mem_of_getElem? (i := 1643) (by decide +kernel), by decide +kernel⟩
theorem wi_1644 : mm_in (.constantLong "ScreenTalkModel" 298 (Int64.ofInt (4095))) := ⟨List.mem_of_getElem? (i := 1644) (by decide +kernel), by decide +kernel⟩
theorem wi_1645 : mm_in (.constantLong "ScreenTalkModel" 300 (Int64.ofInt (48))) := ⟨List.mem_of_getElem? (i := 1645) (by decide +kernel), by decide +kernel⟩
theorem wi_1646 : mm_in (.constantLong "ScreenTalkModel" 302 (Int64.ofInt (240))) := ⟨List.mem_of_getElem? (i := 1646) (by decide +kernel), by decide +kernel⟩
theorem wi_1647 : mm_in (.methodLink "ScreenTalkLaw" 68 ⟨"ScreenTalkModel", "descriptor", "(IIIII)I"⟩) := ⟨List.mem_of_getElem? (i := 1647) (by decide +kernel), by decide +kernel⟩
theorem wi_1648 : mm_in (.instanceMethod ⟨"ScreenTalkModel", "descriptor", "(IIIII)I"⟩) := ⟨List.mem_of_getElem? (i := 1648) (by decide +kernel), by decide +kernel⟩
theorem wi_1649 : mm_in (.selects "ScreenTalkModel" ⟨"ScreenTalkModel", "descriptor", "(IIIII)I"⟩ ⟨"ScreenTalkModel", "descriptor", "(IIIII)I"⟩) := ⟨List.mem_of_getElem? (i := 1649) (by decide +kernel), by decide +kernel⟩
theorem wi_1651 : mm_in (.constantLong "ScreenTalkModel" 309 (Int64.ofInt (17))) := ⟨List.mem_of_getElem? (i := 1651) (by decide +kernel), by decide +kernel⟩
theorem wi_1652 : mm_in (.methodLink "ScreenTalkLaw" 77 ⟨"ScreenTalkModel", "wish", "(I)I"⟩) := ⟨List.mem_of_getElem? (i := 1652) (by decide +kernel), by decide +kernel⟩
theorem wi_1653 : mm_in (.instanceMethod ⟨"ScreenTalkModel", "wish", "(I)I"⟩) := ⟨List.mem_of_getElem? (i := 1653) (by decide +kernel), by decide +kernel⟩
theorem wi_1654 : mm_in (.selects "ScreenTalkModel" ⟨"ScreenTalkModel", "wish", "(I)I"⟩ ⟨"ScreenTalkModel", "wish", "(I)I"⟩) := ⟨List.mem_of_getElem? (i := 1654) (by decide +kernel), by decide +kernel⟩
theorem wi_1656 : mm_in (.methodLink "ScreenTalkModel" 321 ⟨"ScreenTalkModel", "isDepth", "(I)Z"⟩) := ⟨List.mem_of_getElem? (i := 1656) (by decide +kernel), by decide +kernel⟩
theorem wi_1657 : mm_in (.static ⟨"ScreenTalkModel", "isDepth", "(I)Z"⟩) := ⟨List.mem_of_getElem? (i := 1657) (by decide +kernel), by decide +kernel⟩
theorem wi_1659 : mm_in (.constantLong "ScreenTalkModel" 311 (Int64.ofInt (6))) := ⟨List.mem_of_getElem? (i := 1659) (by decide +kernel), by decide +kernel⟩
theorem wi_1660 : mm_in (.constantLong "ScreenTalkModel" 313 (Int64.ofInt (12))) := ⟨List.mem_of_getElem? (i := 1660) (by decide +kernel), by decide +kernel⟩
theorem wi_1661 : mm_in (.methodLink "ScreenTalkLaw" 81 ⟨"ScreenTalkModel", "room", "(II)I"⟩) := ⟨List.mem_of_getElem? (i := 1661) (by decide +kernel), by decide +kernel⟩
theorem wi_1662 : mm_in (.instanceMethod ⟨"ScreenTalkModel", "room", "(II)I"⟩) := ⟨List.mem_of_getElem? (i := 1662) (by decide +kernel), by decide +kernel⟩
theorem wi_1663 : mm_in (.selects "ScreenTalkModel" ⟨"ScreenTalkModel", "room", "(II)I"⟩ ⟨"ScreenTalkModel", "room", "(II)I"⟩) := ⟨List.mem_of_getElem? (i := 1663) (by decide +kernel), by decide +kernel⟩
theorem wi_1665 : mm_in (.methodLink "ScreenTalkModel" 324 ⟨"ScreenTalkModel", "isLink", "(II)Z"⟩) := ⟨List.mem_of_getElem? (i := 1665) (by decide +kernel), by decide +kernel⟩
theorem wi_1666 : mm_in (.static ⟨"ScreenTalkModel", "isLink", "(II)Z"⟩) := ⟨List.mem_of_getElem? (i := 1666) (by decide +kernel), by decide +kernel⟩
theorem wi_1668 : mm_in (.constantLong "ScreenTalkModel" 315 (Int64.ofInt (3))) := ⟨List.mem_of_getElem? (i := 1668) (by decide +kernel), by decide +kernel⟩
theorem wi_1669 : mm_in (.methodLink "ScreenTalkModel" 327 ⟨"ScreenTalkModel", "roomOf", "(II)I"⟩) := ⟨List.mem_of_getElem? (i := 1669) (by decide +kernel), by decide +kernel⟩
theorem wi_1670 : mm_in (.static ⟨"ScreenTalkModel", "roomOf", "(II)I"⟩) := ⟨List.mem_of_getElem? (i := 1670) (by decide +kernel), by decide +kernel⟩
theorem wi_1672 : mm_in (.constant "ScreenTalkModel" 317 (Int32.ofInt (162000))) := ⟨List.mem_of_getElem? (i := 1672) (by decide +kernel), by decide +kernel⟩
theorem wi_1673 : mm_in (.constant "ScreenTalkModel" 318 (Int32.ofInt (270000))) := ⟨List.mem_of_getElem? (i := 1673) (by decide +kernel), by decide +kernel⟩
theorem wi_1674 : mm_in (.constant "ScreenTalkModel" 319 (Int32.ofInt (540000))) := ⟨List.mem_of_getElem? (i := 1674) (by decide +kernel), by decide +kernel⟩
theorem wi_1675 : mm_in (.constant "ScreenTalkModel" 320 (Int32.ofInt (810000))) := ⟨List.mem_of_getElem? (i := 1675) (by decide +kernel), by decide +kernel⟩
theorem wi_1676 : mm_in (.methodLink "ScreenTalkLaw" 85 ⟨"ScreenTalkModel", "need", "(II)I"⟩) := ⟨List.mem_of_getElem? (i := 1676) (by decide +kernel), by decide +kernel⟩
theorem wi_1677 : mm_in (.instanceMethod ⟨"ScreenTalkModel", "need", "(II)I"⟩) := ⟨List.mem_of_getElem? (i := 1677) (by decide +kernel), by decide +kernel⟩
theorem wi_1678 : mm_in (.selects "ScreenTalkModel" ⟨"ScreenTalkModel", "need", "(II)I"⟩ ⟨"ScreenTalkModel", "need", "(II)I"⟩) := ⟨List.mem_of_getElem? (i := 1678) (by decide +kernel), by decide +kernel⟩
theorem wi_1680 : mm_in (.methodLink "ScreenTalkModel" 330 ⟨"ScreenTalkModel", "needOf", "(II)I"⟩) := ⟨List.mem_of_getElem? (i := 1680) (by decide +kernel), by decide +kernel⟩
theorem wi_1682 : mm_in (.instanceMethod ⟨"ScreenTalkModel", "needOf", "(II)I"⟩) := ⟨List.mem_of_getElem? (i := 1682) (by decide +kernel), by decide +kernel⟩
theorem wi_1684 : mm_in (.methodLink "ScreenTalkLaw" 89 ⟨"ScreenTalkModel", "best", "(III)I"⟩) := ⟨List.mem_of_getElem? (i := 1684) (by decide +kernel), by decide +kernel⟩
theorem wi_1685 : mm_in (.instanceMethod ⟨"ScreenTalkModel", "best", "(III)I"⟩) := ⟨List.mem_of_getElem? (i := 1685) (by decide +kernel), by decide +kernel⟩
theorem wi_1686 : mm_in (.selects "ScreenTalkModel" ⟨"ScreenTalkModel", "best", "(III)I"⟩ ⟨"ScreenTalkModel", "best", "(III)I"⟩) := ⟨List.mem_of_getElem? (i := 1686) (by decide +kernel), by decide +kernel⟩
theorem wi_1688 : mm_in (.methodLink "ScreenTalkModel" 339 ⟨"ScreenTalkModel", "laysBest", "(I)V"⟩) := ⟨List.mem_of_getElem? (i := 1688) (by decide +kernel), by decide +kernel⟩
theorem wi_1690 : mm_in (.instanceMethod ⟨"ScreenTalkModel", "laysBest", "(I)V"⟩) := ⟨List.mem_of_getElem? (i := 1690) (by decide +kernel), by decide +kernel⟩
theorem wi_1692 : mm_in (.methodLink "ScreenTalkLaw" 93 ⟨"ScreenTalkModel", "cheapest", "(II)I"⟩) := ⟨List.mem_of_getElem? (i := 1692) (by decide +kernel), by decide +kernel⟩
theorem wi_1693 : mm_in (.instanceMethod ⟨"ScreenTalkModel", "cheapest", "(II)I"⟩) := ⟨List.mem_of_getElem? (i := 1693) (by decide +kernel), by decide +kernel⟩
theorem wi_1694 : mm_in (.selects "ScreenTalkModel" ⟨"ScreenTalkModel", "cheapest", "(II)I"⟩ ⟨"ScreenTalkModel", "cheapest", "(II)I"⟩) := ⟨List.mem_of_getElem? (i := 1694) (by decide +kernel), by decide +kernel⟩
theorem wi_1696 : mm_in (.methodLink "ScreenTalkLaw" 73 ⟨"ScreenTalkModel", "fastest", "(IIIIII)I"⟩) := ⟨List.mem_of_getElem? (i := 1696) (by decide +kernel), by decide +kernel⟩
theorem wi_1697 : mm_in (.instanceMethod ⟨"ScreenTalkModel", "fastest", "(IIIIII)I"⟩) := ⟨List.mem_of_getElem? (i := 1697) (by decide +kernel), by decide +kernel⟩
theorem wi_1698 : mm_in (.selects "ScreenTalkModel" ⟨"ScreenTalkModel", "fastest", "(IIIIII)I"⟩ ⟨"ScreenTalkModel", "fastest", "(IIIIII)I"⟩) := ⟨List.mem_of_getElem? (i := 1698) (by decide +kernel), by decide +kernel⟩
theorem wi_1700 : mm_in (.methodLink "ScreenTalkLaw" 97 ⟨"ScreenTalkModel", "lane", "(III)I"⟩) := ⟨List.mem_of_getElem? (i := 1700) (by decide +kernel), by decide +kernel⟩
theorem wi_1701 : mm_in (.instanceMethod ⟨"ScreenTalkModel", "lane", "(III)I"⟩) := ⟨List.mem_of_getElem? (i := 1701) (by decide +kernel), by decide +kernel⟩
theorem wi_1702 : mm_in (.selects "ScreenTalkModel" ⟨"ScreenTalkModel", "lane", "(III)I"⟩ ⟨"ScreenTalkModel", "lane", "(III)I"⟩) := ⟨List.mem_of_getElem? (i := 1702) (by decide +kernel), by decide +kernel⟩
theorem wi_1704 : mm_in (.methodLink "ScreenTalkModel" 342 ⟨"ScreenTalkModel", "isLane", "(I)Z"⟩) := ⟨List.mem_of_getElem? (i := 1704) (by decide +kernel), by decide +kernel⟩
theorem wi_1705 : mm_in (.static ⟨"ScreenTalkModel", "isLane", "(I)Z"⟩) := ⟨List.mem_of_getElem? (i := 1705) (by decide +kernel), by decide +kernel⟩
theorem wi_1707 : mm_in (.constantLong "ScreenTalkModel" 345 (Int64.ofInt (30))) := ⟨List.mem_of_getElem? (i := 1707) (by decide +kernel), by decide +kernel⟩
theorem wi_1708 : mm_in (.methodLink "ScreenTalkModel" 347 ⟨"ScreenTalkModel", "ends", "()V"⟩) := ⟨List.mem_of_getElem? (i := 1708) (by decide +kernel), by decide +kernel⟩
theorem wi_1710 : mm_in (.instanceMethod ⟨"ScreenTalkModel", "ends", "()V"⟩) := ⟨List.mem_of_getElem? (i := 1710) (by decide +kernel), by decide +kernel⟩
theorem wi_1712 : mm_in (.methodLink "ScreenTalkLaw" 101 ⟨"ScreenTalkModel", "wire", "(II)I"⟩) := ⟨List.mem_of_getElem? (i := 1712) (by decide +kernel), by decide +kernel⟩
theorem wi_1713 : mm_in (.instanceMethod ⟨"ScreenTalkModel", "wire", "(II)I"⟩) := ⟨List.mem_of_getElem? (i := 1713) (by decide +kernel), by decide +kernel⟩
theorem wi_1714 : mm_in (.selects "ScreenTalkModel" ⟨"ScreenTalkModel", "wire", "(II)I"⟩ ⟨"ScreenTalkModel", "wire", "(II)I"⟩) := ⟨List.mem_of_getElem? (i := 1714) (by decide +kernel), by decide +kernel⟩
theorem wi_1716 : mm_in (.methodLink "ScreenTalkLaw" 106 ⟨"ScreenTalkModel", "begin", "()I"⟩) := ⟨List.mem_of_getElem? (i := 1716) (by decide +kernel), by decide +kernel⟩
theorem wi_1717 : mm_in (.instanceMethod ⟨"ScreenTalkModel", "begin", "()I"⟩) := ⟨List.mem_of_getElem? (i := 1717) (by decide +kernel), by decide +kernel⟩
theorem wi_1718 : mm_in (.selects "ScreenTalkModel" ⟨"ScreenTalkModel", "begin", "()I"⟩ ⟨"ScreenTalkModel", "begin", "()I"⟩) := ⟨List.mem_of_getElem? (i := 1718) (by decide +kernel), by decide +kernel⟩
theorem wi_1720 : mm_in (.methodLink "ScreenTalkModel" 353 ⟨"ScreenTalkModel", "begins", "()V"⟩) := ⟨List.mem_of_getElem? (i := 1720) (by decide +kernel), by decide +kernel⟩
theorem wi_1722 : mm_in (.instanceMethod ⟨"ScreenTalkModel", "begins", "()V"⟩) := ⟨List.mem_of_getElem? (i := 1722) (by decide +kernel), by decide +kernel⟩
theorem wi_1724 : mm_in (.methodLink "ScreenTalkModel" 350 ⟨"ScreenTalkModel", "foots", "()V"⟩) := ⟨List.mem_of_getElem? (i := 1724) (by decide +kernel), by decide +kernel⟩
theorem wi_1726 : mm_in (.instanceMethod ⟨"ScreenTalkModel", "foots", "()V"⟩) := ⟨List.mem_of_getElem? (i := 1726) (by decide +kernel), by decide +kernel⟩
theorem wi_1728 : mm_in (.methodLink "ScreenTalkLaw" 126 ⟨"ScreenTalkModel", "step", "(II)I"⟩) := ⟨List.mem_of_getElem? (i := 1728) (by decide +kernel), by decide +kernel⟩
theorem wi_1729 : mm_in (.instanceMethod ⟨"ScreenTalkModel", "step", "(II)I"⟩) := ⟨List.mem_of_getElem? (i := 1729) (by decide +kernel), by decide +kernel⟩
theorem wi_1730 : mm_in (.selects "ScreenTalkModel" ⟨"ScreenTalkModel", "step", "(II)I"⟩ ⟨"ScreenTalkModel", "step", "(II)I"⟩) := ⟨List.mem_of_getElem? (i := 1730) (by decide +kernel), by decide +kernel⟩
theorem wi_1732 : mm_in (.methodLink "ScreenTalkLaw" 110 ⟨"ScreenTalkModel", "tries", "(I)I"⟩) := ⟨List.mem_of_getElem? (i := 1732) (by decide +kernel), by decide +kernel⟩
theorem wi_1733 : mm_in (.instanceMethod ⟨"ScreenTalkModel", "tries", "(I)I"⟩) := ⟨List.mem_of_getElem? (i := 1733) (by decide +kernel), by decide +kernel⟩
theorem wi_1734 : mm_in (.selects "ScreenTalkModel" ⟨"ScreenTalkModel", "tries", "(I)I"⟩ ⟨"ScreenTalkModel", "tries", "(I)I"⟩) := ⟨List.mem_of_getElem? (i := 1734) (by decide +kernel), by decide +kernel⟩
theorem wi_1736 : mm_in (.constantLong "ScreenTalkModel" 383 (Int64.ofInt (100))) := ⟨List.mem_of_getElem? (i := 1736) (by decide +kernel), by decide +kernel⟩
theorem wi_1737 : mm_in (.methodLink "ScreenTalkModel" 385 ⟨"ScreenTalkModel", "isTraining", "()Z"⟩) := ⟨List.mem_of_getElem? (i := 1737) (by decide +kernel), by decide +kernel⟩
theorem wi_1739 : mm_in (.instanceMethod ⟨"ScreenTalkModel", "isTraining", "()Z"⟩) := ⟨List.mem_of_getElem? (i := 1739) (by decide +kernel), by decide +kernel⟩
theorem wi_1741 : mm_in (.methodLink "ScreenTalkModel" 388 ⟨"ScreenTalkModel", "triesOnce", "()V"⟩) := ⟨List.mem_of_getElem? (i := 1741) (by decide +kernel), by decide +kernel⟩
theorem wi_1743 : mm_in (.instanceMethod ⟨"ScreenTalkModel", "triesOnce", "()V"⟩) := ⟨List.mem_of_getElem? (i := 1743) (by decide +kernel), by decide +kernel⟩
theorem wi_1745 : mm_in (.methodLink "ScreenTalkModel" 374 ⟨"ScreenTalkModel", "digits", "(I)I"⟩) := ⟨List.mem_of_getElem? (i := 1745) (by decide +kernel), by decide +kernel⟩
theorem wi_1747 : mm_in (.instanceMethod ⟨"ScreenTalkModel", "digits", "(I)I"⟩) := ⟨List.mem_of_getElem? (i := 1747) (by decide +kernel), by decide +kernel⟩
theorem wi_1749 : mm_in (.methodLink "ScreenTalkModel" 377 ⟨"ScreenTalkModel", "triesClock", "()V"⟩) := ⟨List.mem_of_getElem? (i := 1749) (by decide +kernel), by decide +kernel⟩
theorem wi_1751 : mm_in (.instanceMethod ⟨"ScreenTalkModel", "triesClock", "()V"⟩) := ⟨List.mem_of_getElem? (i := 1751) (by decide +kernel), by decide +kernel⟩
theorem wi_1753 : mm_in (.methodLink "ScreenTalkModel" 359 ⟨"ScreenTalkModel", "wantsSwing", "(I)Z"⟩) := ⟨List.mem_of_getElem? (i := 1753) (by decide +kernel), by decide +kernel⟩
theorem wi_1755 : mm_in (.instanceMethod ⟨"ScreenTalkModel", "wantsSwing", "(I)Z"⟩) := ⟨List.mem_of_getElem? (i := 1755) (by decide +kernel), by decide +kernel⟩
theorem wi_1757 : mm_in (.methodLink "ScreenTalkModel" 365 ⟨"ScreenTalkModel", "falls", "(I)V"⟩) := ⟨List.mem_of_getElem? (i := 1757) (by decide +kernel), by decide +kernel⟩
theorem wi_1759 : mm_in (.instanceMethod ⟨"ScreenTalkModel", "falls", "(I)V"⟩) := ⟨List.mem_of_getElem? (i := 1759) (by decide +kernel), by decide +kernel⟩
theorem wi_1761 : mm_in (.methodLink "ScreenTalkModel" 380 ⟨"ScreenTalkModel", "triesEven", "()V"⟩) := ⟨List.mem_of_getElem? (i := 1761) (by decide +kernel), by decide +kernel⟩
theorem wi_1763 : mm_in (.instanceMethod ⟨"ScreenTalkModel", "triesEven", "()V"⟩) := ⟨List.mem_of_getElem? (i := 1763) (by decide +kernel), by decide +kernel⟩
theorem wi_1765 : mm_in (.methodLink "ScreenTalkModel" 368 ⟨"ScreenTalkModel", "wantsEmphasis", "(I)Z"⟩) := ⟨List.mem_of_getElem? (i := 1765) (by decide +kernel), by decide +kernel⟩
theorem wi_1767 : mm_in (.instanceMethod ⟨"ScreenTalkModel", "wantsEmphasis", "(I)Z"⟩) := ⟨List.mem_of_getElem? (i := 1767) (by decide +kernel), by decide +kernel⟩
theorem wi_1769 : mm_in (.methodLink "ScreenTalkLaw" 114 ⟨"ScreenTalkModel", "state", "(I)I"⟩) := ⟨List.mem_of_getElem? (i := 1769) (by decide +kernel), by decide +kernel⟩
theorem wi_1770 : mm_in (.instanceMethod ⟨"ScreenTalkModel", "state", "(I)I"⟩) := ⟨List.mem_of_getElem? (i := 1770) (by decide +kernel), by decide +kernel⟩
theorem wi_1771 : mm_in (.selects "ScreenTalkModel" ⟨"ScreenTalkModel", "state", "(I)I"⟩ ⟨"ScreenTalkModel", "state", "(I)I"⟩) := ⟨List.mem_of_getElem? (i := 1771) (by decide +kernel), by decide +kernel⟩
theorem wi_1773 : mm_in (.methodLink "ScreenTalkModel" 391 ⟨"ScreenTalkModel", "mostOf", "(I)I"⟩) := ⟨List.mem_of_getElem? (i := 1773) (by decide +kernel), by decide +kernel⟩
theorem wi_1775 : mm_in (.instanceMethod ⟨"ScreenTalkModel", "mostOf", "(I)I"⟩) := ⟨List.mem_of_getElem? (i := 1775) (by decide +kernel), by decide +kernel⟩
theorem wi_1777 : mm_in (.methodLink "ScreenTalkLaw" 118 ⟨"ScreenTalkModel", "level", "(II)I"⟩) := ⟨List.mem_of_getElem? (i := 1777) (by decide +kernel), by decide +kernel⟩
theorem wi_1778 : mm_in (.instanceMethod ⟨"ScreenTalkModel", "level", "(II)I"⟩) := ⟨List.mem_of_getElem? (i := 1778) (by decide +kernel), by decide +kernel⟩
theorem wi_1779 : mm_in (.selects "ScreenTalkModel" ⟨"ScreenTalkModel", "level", "(II)I"⟩ ⟨"ScreenTalkModel", "level", "(II)I"⟩) := ⟨List.mem_of_getElem? (i := 1779) (by decide +kernel), by decide +kernel⟩
theorem wi_1781 : mm_in (.methodLink "ScreenTalkLaw" 122 ⟨"ScreenTalkModel", "fall", "(II)I"⟩) := ⟨List.mem_of_getElem? (i := 1781) (by decide +kernel), by decide +kernel⟩
theorem wi_1782 : mm_in (.instanceMethod ⟨"ScreenTalkModel", "fall", "(II)I"⟩) := ⟨List.mem_of_getElem? (i := 1782) (by decide +kernel), by decide +kernel⟩
theorem wi_1783 : mm_in (.selects "ScreenTalkModel" ⟨"ScreenTalkModel", "fall", "(II)I"⟩ ⟨"ScreenTalkModel", "fall", "(II)I"⟩) := ⟨List.mem_of_getElem? (i := 1783) (by decide +kernel), by decide +kernel⟩
theorem wi_1785 : mm_in (.methodLink "ScreenTalkLaw" 130 ⟨"ScreenTalkModel", "shown", "(I)I"⟩) := ⟨List.mem_of_getElem? (i := 1785) (by decide +kernel), by decide +kernel⟩
theorem wi_1786 : mm_in (.instanceMethod ⟨"ScreenTalkModel", "shown", "(I)I"⟩) := ⟨List.mem_of_getElem? (i := 1786) (by decide +kernel), by decide +kernel⟩
theorem wi_1787 : mm_in (.selects "ScreenTalkModel" ⟨"ScreenTalkModel", "shown", "(I)I"⟩ ⟨"ScreenTalkModel", "shown", "(I)I"⟩) := ⟨List.mem_of_getElem? (i := 1787) (by decide +kernel), by decide +kernel⟩
theorem wi_1789 : mm_in (.methodLink "ScreenTalkLaw" 134 ⟨"ScreenTalkModel", "trained", "(I)I"⟩) := ⟨List.mem_of_getElem? (i := 1789) (by decide +kernel), by decide +kernel⟩
theorem wi_1790 : mm_in (.instanceMethod ⟨"ScreenTalkModel", "trained", "(I)I"⟩) := ⟨List.mem_of_getElem? (i := 1790) (by decide +kernel), by decide +kernel⟩
theorem wi_1791 : mm_in (.selects "ScreenTalkModel" ⟨"ScreenTalkModel", "trained", "(I)I"⟩ ⟨"ScreenTalkModel", "trained", "(I)I"⟩) := ⟨List.mem_of_getElem? (i := 1791) (by decide +kernel), by decide +kernel⟩
theorem wi_1793 : mm_in (.constantLong "ScreenTalkModel" 394 (Int64.ofInt (5))) := ⟨List.mem_of_getElem? (i := 1793) (by decide +kernel), by decide +kernel⟩
theorem wi_1794 : mm_in (.methodLink "ScreenTalkModel" 396 ⟨"ScreenTalkModel", "opens", "()V"⟩) := ⟨List.mem_of_getElem? (i := 1794) (by decide +kernel), by decide +kernel⟩
theorem wi_1796 : mm_in (.instanceMethod ⟨"ScreenTalkModel", "opens", "()V"⟩) := ⟨List.mem_of_getElem? (i := 1796) (by decide +kernel), by decide +kernel⟩
theorem wi_1798 : mm_in (.methodLink "ScreenTalkModel" 399 ⟨"ScreenTalkModel", "trains", "()I"⟩) := ⟨List.mem_of_getElem? (i := 1798) (by decide +kernel), by decide +kernel⟩
theorem wi_1800 : mm_in (.instanceMethod ⟨"ScreenTalkModel", "trains", "()I"⟩) := ⟨List.mem_of_getElem? (i := 1800) (by decide +kernel), by decide +kernel⟩
theorem wi_1802 : mm_in (.methodLink "ScreenTalkModel" 403 ⟨"ScreenTalkModel", "toldOf", "(II)I"⟩) := ⟨List.mem_of_getElem? (i := 1802) (by decide +kernel), by decide +kernel⟩
theorem wi_1804 : mm_in (.instanceMethod ⟨"ScreenTalkModel", "toldOf", "(II)I"⟩) := ⟨List.mem_of_getElem? (i := 1804) (by decide +kernel), by decide +kernel⟩
theorem wi_1806 : mm_in (.methodLink "ScreenTalkModel" 406 ⟨"ScreenTalkModel", "closes", "()V"⟩) := ⟨List.mem_of_getElem? (i := 1806) (by decide +kernel), by decide +kernel⟩
theorem wi_1808 : mm_in (.instanceMethod ⟨"ScreenTalkModel", "closes", "()V"⟩) := ⟨List.mem_of_getElem? (i := 1808) (by decide +kernel), by decide +kernel⟩
theorem wi_1810 : mm_in (.methodLink "ScreenTalkLaw" 138 ⟨"ScreenTalkModel", "margin", "(I)I"⟩) := ⟨List.mem_of_getElem? (i := 1810) (by decide +kernel), by decide +kernel⟩
theorem wi_1811 : mm_in (.instanceMethod ⟨"ScreenTalkModel", "margin", "(I)I"⟩) := ⟨List.mem_of_getElem? (i := 1811) (by decide +kernel), by decide +kernel⟩
theorem wi_1812 : mm_in (.selects "ScreenTalkModel" ⟨"ScreenTalkModel", "margin", "(I)I"⟩ ⟨"ScreenTalkModel", "margin", "(I)I"⟩) := ⟨List.mem_of_getElem? (i := 1812) (by decide +kernel), by decide +kernel⟩
theorem wi_1814 : mm_in (.methodLink "ScreenTalkLaw" 142 ⟨"ScreenTalkModel", "laid", "(I)I"⟩) := ⟨List.mem_of_getElem? (i := 1814) (by decide +kernel), by decide +kernel⟩
theorem wi_1815 : mm_in (.instanceMethod ⟨"ScreenTalkModel", "laid", "(I)I"⟩) := ⟨List.mem_of_getElem? (i := 1815) (by decide +kernel), by decide +kernel⟩
theorem wi_1816 : mm_in (.selects "ScreenTalkModel" ⟨"ScreenTalkModel", "laid", "(I)I"⟩ ⟨"ScreenTalkModel", "laid", "(I)I"⟩) := ⟨List.mem_of_getElem? (i := 1816) (by decide +kernel), by decide +kernel⟩
theorem wi_1818 : mm_in (.methodLink "ScreenTalkModel" 415 ⟨"ScreenTalkModel", "isOrder", "(I)Z"⟩) := ⟨List.mem_of_getElem? (i := 1818) (by decide +kernel), by decide +kernel⟩
theorem wi_1819 : mm_in (.static ⟨"ScreenTalkModel", "isOrder", "(I)Z"⟩) := ⟨List.mem_of_getElem? (i := 1819) (by decide +kernel), by decide +kernel⟩
theorem wi_1821 : mm_in (.methodLink "ScreenTalkModel" 418 ⟨"ScreenTalkModel", "triesOrder", "(I)V"⟩) := ⟨List.mem_of_getElem? (i := 1821) (by decide +kernel), by decide +kernel⟩
theorem wi_1823 : mm_in (.instanceMethod ⟨"ScreenTalkModel", "triesOrder", "(I)V"⟩) := ⟨List.mem_of_getElem? (i := 1823) (by decide +kernel), by decide +kernel⟩
theorem wi_1825 : mm_in (.methodLink "ScreenTalkLaw" 146 ⟨"ScreenTalkModel", "enough", "()I"⟩) := ⟨List.mem_of_getElem? (i := 1825) (by decide +kernel), by decide +kernel⟩
theorem wi_1826 : mm_in (.instanceMethod ⟨"ScreenTalkModel", "enough", "()I"⟩) := ⟨List.mem_of_getElem? (i := 1826) (by decide +kernel), by decide +kernel⟩
theorem wi_1827 : mm_in (.selects "ScreenTalkModel" ⟨"ScreenTalkModel", "enough", "()I"⟩ ⟨"ScreenTalkModel", "enough", "()I"⟩) := ⟨List.mem_of_getElem? (i := 1827) (by decide +kernel), by decide +kernel⟩
theorem wi_1829 : mm_in (.methodLink "ScreenTalkLaw" 150 ⟨"ScreenTalkModel", "would", "(I)I"⟩) := ⟨List.mem_of_getElem? (i := 1829) (by decide +kernel), by decide +kernel⟩
theorem wi_1830 : mm_in (.instanceMethod ⟨"ScreenTalkModel", "would", "(I)I"⟩) := ⟨List.mem_of_getElem? (i := 1830) (by decide +kernel), by decide +kernel⟩
theorem wi_1831 : mm_in (.selects "ScreenTalkModel" ⟨"ScreenTalkModel", "would", "(I)I"⟩ ⟨"ScreenTalkModel", "would", "(I)I"⟩) := ⟨List.mem_of_getElem? (i := 1831) (by decide +kernel), by decide +kernel⟩
theorem wi_1833 : mm_in (.methodLink "ScreenTalkLaw" 154 ⟨"ScreenTalkModel", "count", "(I)I"⟩) := ⟨List.mem_of_getElem? (i := 1833) (by decide +kernel), by decide +kernel⟩
theorem wi_1834 : mm_in (.instanceMethod ⟨"ScreenTalkModel", "count", "(I)I"⟩) := ⟨List.mem_of_getElem? (i := 1834) (by decide +kernel), by decide +kernel⟩
theorem wi_1835 : mm_in (.selects "ScreenTalkModel" ⟨"ScreenTalkModel", "count", "(I)I"⟩ ⟨"ScreenTalkModel", "count", "(I)I"⟩) := ⟨List.mem_of_getElem? (i := 1835) (by decide +kernel), by decide +kernel⟩
theorem wi_1837 : mm_in (.sameMethod "java/lang/AbstractStringBuilder" "java/lang/AbstractStringBuilder" "setLength" "(I)V") := ⟨List.mem_of_getElem? (i := 1837) (by decide +kernel), by decide +kernel⟩
theorem wi_1840 : mm_in (.sameMethod "java/lang/AbstractStringBuilder" "java/lang/AbstractStringBuilder" "append" "(I)Ljava/lang/AbstractStringBuilder;") := ⟨List.mem_of_getElem? (i := 1840) (by decide +kernel), by decide +kernel⟩
theorem wi_1841 : mm_in (.sameMethod "java/lang/AbstractStringBuilder" "java/lang/AbstractStringBuilder" "append" "(C)Ljava/lang/AbstractStringBuilder;") := ⟨List.mem_of_getElem? (i := 1841) (by decide +kernel), by decide +kernel⟩
theorem wi_1843 : mm_in (.sameMethod "java/lang/AbstractStringBuilder" "java/lang/AbstractStringBuilder" "length" "()I") := ⟨List.mem_of_getElem? (i := 1843) (by decide +kernel), by decide +kernel⟩
theorem wi_1844 : mm_in (.sameMethod "java/lang/AbstractStringBuilder" "java/lang/AbstractStringBuilder" "charAt" "(I)C") := ⟨List.mem_of_getElem? (i := 1844) (by decide +kernel), by decide +kernel⟩
theorem wobj : mm_in (.code Lib.objectInit ⟨#[0xb1]⟩ 1 none) := ⟨List.mem_of_getElem? (i := 121) (by decide +kernel), by decide +kernel⟩
theorem wmath_0 : mm_in (.code Lib.Math.max.name Lib.Math.max.code 2 (some .int)) := ⟨List.mem_of_getElem? (i := 541) (by decide +kernel), by decide +kernel⟩
theorem wmath_1 : mm_in (.code Lib.Math.min.name Lib.Math.min.code 2 (some .int)) := ⟨List.mem_of_getElem? (i := 538) (by decide +kernel), by decide +kernel⟩
theorem wmath_2 : mm_in (.code Lib.MathLoose.min_long.x Lib.MathLoose.min_long.code 4 (some .long)) := ⟨List.mem_of_getElem? (i := 849) (by decide +kernel), by decide +kernel⟩

/-! Methods, fields, constants. -/
abbrev td_init : xw_M := (⟨"RingMachine$Descriptor", "<init>", "()V"⟩, prog_2_method_1_code, 1, none, [], 1, 12)
abbrev td_clear : xw_M := (⟨"RingMachine$Descriptor", "clear", "()V"⟩, prog_2_method_5_code, 1, none, [], 1, 15)
abbrev td_copy : xw_M := (⟨"RingMachine$Descriptor", "copy", "(LRingMachine$Descriptor;)V"⟩, prog_2_method_3_code, 2, none, [], 0, 0)
abbrev td_decode : xw_M := (⟨"RingMachine$Descriptor", "decode", "(IJ)V"⟩, prog_2_method_2_code, 4, none, [], 0, 0)
abbrev td_flat : xw_M := (⟨"RingMachine$Descriptor", "flat", "(II)V"⟩, prog_2_method_4_code, 3, none, [], 0, 0)
abbrev td_isCode : xw_M := (⟨"RingMachine$Descriptor", "isCode", "()Z"⟩, prog_2_method_6_code, 1, some .boolean, [], 0, 0)
abbrev td_isReadable : xw_M := (⟨"RingMachine$Descriptor", "isReadable", "()Z"⟩, prog_2_method_7_code, 1, some .boolean, [], 1, 12)
abbrev tx_init : xw_M := (⟨"RingMachine$Fault", "<init>", "()V"⟩, prog_3_method_1_code, 1, none, [], 1, 12)
abbrev tx_refuse : xw_M := (⟨"RingMachine$Fault", "refuse", "(ZII)V"⟩, prog_3_method_2_code, 4, none, [], 6, 81)
abbrev tm_init : xw_M := (⟨"RingMachine$Memory", "<init>", "(LRingMachine$Fault;LRingMachine$Registers;)V"⟩, prog_4_method_1_code, 3, none, [], 1, 12)
abbrev tm_at : xw_M := (⟨"RingMachine$Memory", "at", "(I)I"⟩, prog_4_method_2_code, 2, some .int, [], 0, 0)
abbrev tm_byteAt : xw_M := (⟨"RingMachine$Memory", "byteAt", "(II)I"⟩, prog_4_method_6_code, 3, some .int, [], 8, 121)
abbrev tm_eightAt : xw_M := (⟨"RingMachine$Memory", "eightAt", "(I)J"⟩, prog_4_method_10_code, 5, some .long, [], 8, 123)
abbrev tm_frameAt : xw_M := (⟨"RingMachine$Memory", "frameAt", "(I)I"⟩, prog_4_method_5_code, 2, some .int, [], 0, 0)
abbrev tm_locate : xw_M := (⟨"RingMachine$Memory", "locate", "(IIZ)I"⟩, prog_4_method_4_code, 13, some .int, [], 7, 96)
abbrev tm_put : xw_M := (⟨"RingMachine$Memory", "put", "(II)V"⟩, prog_4_method_3_code, 3, none, [], 0, 0)
abbrev tm_setByte : xw_M := (⟨"RingMachine$Memory", "setByte", "(III)V"⟩, prog_4_method_7_code, 4, none, [], 8, 121)
abbrev tm_setWord : xw_M := (⟨"RingMachine$Memory", "setWord", "(III)V"⟩, prog_4_method_9_code, 4, none, [], 8, 121)
abbrev tm_wordAt : xw_M := (⟨"RingMachine$Memory", "wordAt", "(II)I"⟩, prog_4_method_8_code, 5, some .int, [], 8, 121)
abbrev tg_init : xw_M := (⟨"RingMachine$Registers", "<init>", "()V"⟩, prog_5_method_1_code, 1, none, [], 2, 26)
abbrev tg_copy : xw_M := (⟨"RingMachine$Registers", "copy", "(LRingMachine$Registers;)V"⟩, prog_5_method_3_code, 2, none, [], 1, 13)
abbrev tg_held : xw_M := (⟨"RingMachine$Registers", "held", "(I)LRingMachine$Descriptor;"⟩, prog_5_method_2_code, 2, some (.object "RingMachine$Descriptor"), [], 0, 0)
abbrev tr_init : xw_M := (⟨"RingMachine", "<init>", "()V"⟩, prog_1_method_1_code, 1, none, [], 3, 40)
abbrev tr_advance : xw_M := (⟨"RingMachine", "advance", "()I"⟩, prog_1_method_18_code, 1, some .int, [], 1, 13)
abbrev tr_back : xw_M := (⟨"RingMachine", "back", "()I"⟩, prog_1_method_13_code, 2, some .int, [(20, 25, 28, 95)], 13, 208)
abbrev tr_changeStack : xw_M := (⟨"RingMachine", "changeStack", "(II)V"⟩, prog_1_method_39_code, 6, none, [], 10, 153)
abbrev tr_checkAccess : xw_M := (⟨"RingMachine", "checkAccess", "(II)V"⟩, prog_1_method_26_code, 5, none, [], 7, 96)
abbrev tr_codeOf : xw_M := (⟨"RingMachine", "codeOf", "(I)I"⟩, prog_1_method_53_code, 1, some .int, [], 0, 0)
abbrev tr_deliver : xw_M := (⟨"RingMachine", "deliver", "(IZI)V"⟩, prog_1_method_21_code, 4, none, [], 11, 175)
abbrev tr_end : xw_M := (⟨"RingMachine", "end", "()I"⟩, prog_1_method_15_code, 2, some .int, [(20, 44, 47, 95)], 13, 208)
abbrev tr_endTask : xw_M := (⟨"RingMachine", "endTask", "()V"⟩, prog_1_method_44_code, 2, none, [], 12, 185)
abbrev tr_enter : xw_M := (⟨"RingMachine", "enter", "(LRingMachine$Descriptor;I)V"⟩, prog_1_method_32_code, 3, none, [], 7, 96)
abbrev tr_far : xw_M := (⟨"RingMachine", "far", "(IIZ)I"⟩, prog_1_method_12_code, 5, some .int, [(20, 33, 36, 95)], 13, 208)
abbrev tr_fill : xw_M := (⟨"RingMachine", "fill", "(IJ)Z"⟩, prog_1_method_4_code, 5, some .boolean, [], 1, 14)
abbrev tr_findInnerStack : xw_M := (⟨"RingMachine", "findInnerStack", "()I"⟩, prog_1_method_38_code, 7, some .int, [], 10, 156)
abbrev tr_findOuterStack : xw_M := (⟨"RingMachine", "findOuterStack", "(II)V"⟩, prog_1_method_42_code, 5, none, [], 10, 156)
abbrev tr_findReturn : xw_M := (⟨"RingMachine", "findReturn", "(I)V"⟩, prog_1_method_41_code, 5, none, [], 10, 156)
abbrev tr_findTarget : xw_M := (⟨"RingMachine", "findTarget", "(Z)V"⟩, prog_1_method_36_code, 4, none, [], 10, 156)
abbrev tr_fitsTask : xw_M := (⟨"RingMachine", "fitsTask", "(I)Z"⟩, prog_1_method_50_code, 2, some .boolean, [], 2, 24)
abbrev tr_goBack : xw_M := (⟨"RingMachine", "goBack", "(Z)V"⟩, prog_1_method_40_code, 7, none, [], 11, 172)
abbrev tr_hideData : xw_M := (⟨"RingMachine", "hideData", "()V"⟩, prog_1_method_43_code, 2, none, [], 2, 27)
abbrev tr_isNull : xw_M := (⟨"RingMachine", "isNull", "(I)Z"⟩, prog_1_method_51_code, 1, some .boolean, [], 0, 0)
abbrev tr_leadsInwards : xw_M := (⟨"RingMachine", "leadsInwards", "()Z"⟩, prog_1_method_37_code, 1, some .boolean, [], 0, 0)
abbrev tr_load : xw_M := (⟨"RingMachine", "load", "(II)I"⟩, prog_1_method_7_code, 4, some .int, [(33, 57, 60, 95)], 13, 208)
abbrev tr_loadData : xw_M := (⟨"RingMachine", "loadData", "(I)V"⟩, prog_1_method_25_code, 4, none, [], 10, 156)
abbrev tr_loadStack : xw_M := (⟨"RingMachine", "loadStack", "(I)V"⟩, prog_1_method_24_code, 4, none, [], 10, 156)
abbrev tr_lookUp : xw_M := (⟨"RingMachine", "lookUp", "(ILRingMachine$Descriptor;)V"⟩, prog_1_method_23_code, 4, none, [], 9, 141)
abbrev tr_markTasks : xw_M := (⟨"RingMachine", "markTasks", "(I)V"⟩, prog_1_method_47_code, 2, none, [], 10, 152)
abbrev tr_mayBeEntered : xw_M := (⟨"RingMachine", "mayBeEntered", "(LRingMachine$Descriptor;)Z"⟩, prog_1_method_34_code, 2, some .boolean, [], 0, 0)
abbrev tr_next : xw_M := (⟨"RingMachine", "next", "()I"⟩, prog_1_method_19_code, 1, some .int, [], 0, 0)
abbrev tr_pages : xw_M := (⟨"RingMachine", "pages", "(IZ)Z"⟩, prog_1_method_6_code, 3, some .boolean, [], 0, 0)
abbrev tr_passGate : xw_M := (⟨"RingMachine", "passGate", "(Z)V"⟩, prog_1_method_35_code, 2, none, [], 11, 175)
abbrev tr_peek : xw_M := (⟨"RingMachine", "peek", "(I)I"⟩, prog_1_method_3_code, 2, some .int, [], 1, 13)
abbrev tr_poke : xw_M := (⟨"RingMachine", "poke", "(II)Z"⟩, prog_1_method_2_code, 3, some .boolean, [], 1, 14)
abbrev tr_pop : xw_M := (⟨"RingMachine", "pop", "()I"⟩, prog_1_method_11_code, 2, some .int, [(20, 31, 34, 95)], 13, 208)
abbrev tr_popWord : xw_M := (⟨"RingMachine", "popWord", "()I"⟩, prog_1_method_30_code, 2, some .int, [], 10, 151)
abbrev tr_push : xw_M := (⟨"RingMachine", "push", "(I)I"⟩, prog_1_method_10_code, 3, some .int, [(20, 28, 31, 95)], 13, 208)
abbrev tr_pushReturn : xw_M := (⟨"RingMachine", "pushReturn", "(I)V"⟩, prog_1_method_31_code, 2, none, [], 10, 149)
abbrev tr_pushWord : xw_M := (⟨"RingMachine", "pushWord", "(I)V"⟩, prog_1_method_29_code, 2, none, [], 9, 136)
abbrev tr_read : xw_M := (⟨"RingMachine", "read", "(II)I"⟩, prog_1_method_8_code, 4, some .int, [(32, 48, 51, 95)], 13, 208)
abbrev tr_readVectorGate : xw_M := (⟨"RingMachine", "readVectorGate", "(IZ)V"⟩, prog_1_method_22_code, 5, none, [], 9, 141)
abbrev tr_register : xw_M := (⟨"RingMachine", "register", "(I)I"⟩, prog_1_method_16_code, 2, some .int, [], 0, 0)
abbrev tr_rplOf : xw_M := (⟨"RingMachine", "rplOf", "(I)I"⟩, prog_1_method_52_code, 1, some .int, [], 0, 0)
abbrev tr_saveState : xw_M := (⟨"RingMachine", "saveState", "(I)V"⟩, prog_1_method_46_code, 3, none, [], 9, 136)
abbrev tr_segment : xw_M := (⟨"RingMachine", "segment", "(II)I"⟩, prog_1_method_17_code, 4, some .int, [], 1, 13)
abbrev tr_setKind : xw_M := (⟨"RingMachine", "setKind", "(II)V"⟩, prog_1_method_48_code, 5, none, [], 9, 136)
abbrev tr_setWordIn : xw_M := (⟨"RingMachine", "setWordIn", "(III)V"⟩, prog_1_method_28_code, 4, none, [], 9, 136)
abbrev tr_settle : xw_M := (⟨"RingMachine", "settle", "()I"⟩, prog_1_method_20_code, 7, some .int, [(51, 61, 64, 95)], 12, 190)
abbrev tr_switchTask : xw_M := (⟨"RingMachine", "switchTask", "(I)V"⟩, prog_1_method_45_code, 4, none, [], 11, 170)
abbrev tr_tables : xw_M := (⟨"RingMachine", "tables", "(III)Z"⟩, prog_1_method_5_code, 4, some .boolean, [], 0, 0)
abbrev tr_takeSegment : xw_M := (⟨"RingMachine", "takeSegment", "(II)V"⟩, prog_1_method_49_code, 3, none, [], 10, 156)
abbrev tr_transfer : xw_M := (⟨"RingMachine", "transfer", "(IIZ)V"⟩, prog_1_method_33_code, 7, none, [], 12, 188)
abbrev tr_trap : xw_M := (⟨"RingMachine", "trap", "(I)I"⟩, prog_1_method_14_code, 3, some .int, [(20, 31, 34, 95)], 13, 208)
abbrev tr_wordIn : xw_M := (⟨"RingMachine", "wordIn", "(II)I"⟩, prog_1_method_27_code, 3, some .int, [], 9, 137)
abbrev tr_write : xw_M := (⟨"RingMachine", "write", "(III)I"⟩, prog_1_method_9_code, 5, some .int, [(32, 45, 48, 95)], 13, 208)
abbrev tl_law : xw_M := (⟨"RingMachineLaw", "law", "([I)Z"⟩, code, 4, some .boolean, [], 16, 646)
abbrev ty_init : xw_M := (⟨"RingMachineModel", "<init>", "()V"⟩, prog_7_method_1_code, 2, none, [], 1, 12)
abbrev ty_back : xw_M := (⟨"RingMachineModel", "back", "()I"⟩, prog_7_method_45_code, 1, some .int, [], 10, 168)
abbrev ty_begins : xw_M := (⟨"RingMachineModel", "begins", "()V"⟩, prog_7_method_35_code, 1, none, [], 1, 13)
abbrev ty_codeOf : xw_M := (⟨"RingMachineModel", "codeOf", "(I)I"⟩, prog_7_method_10_code, 1, some .int, [], 0, 0)
abbrev ty_deliver : xw_M := (⟨"RingMachineModel", "deliver", "(IZI)V"⟩, prog_7_method_28_code, 7, none, [], 8, 137)
abbrev ty_end : xw_M := (⟨"RingMachineModel", "end", "()I"⟩, prog_7_method_47_code, 1, some .int, [], 10, 168)
abbrev ty_ends : xw_M := (⟨"RingMachineModel", "ends", "()I"⟩, prog_7_method_36_code, 2, some .int, [], 9, 155)
abbrev ty_enter : xw_M := (⟨"RingMachineModel", "enter", "(II)V"⟩, prog_7_method_21_code, 3, none, [], 1, 15)
abbrev ty_far : xw_M := (⟨"RingMachineModel", "far", "(IIZ)I"⟩, prog_7_method_44_code, 4, some .int, [], 10, 168)
abbrev ty_fill : xw_M := (⟨"RingMachineModel", "fill", "(IJ)Z"⟩, prog_7_method_51_code, 5, some .boolean, [], 0, 0)
abbrev ty_inner : xw_M := (⟨"RingMachineModel", "inner", "(II)V"⟩, prog_7_method_23_code, 8, none, [], 6, 98)
abbrev ty_isDirect : xw_M := (⟨"RingMachineModel", "isDirect", "()Z"⟩, prog_7_method_22_code, 1, some .boolean, [], 0, 0)
abbrev ty_isNull : xw_M := (⟨"RingMachineModel", "isNull", "(I)Z"⟩, prog_7_method_9_code, 1, some .boolean, [], 0, 0)
abbrev ty_isRaised : xw_M := (⟨"RingMachineModel", "isRaised", "()Z"⟩, prog_7_method_2_code, 1, some .boolean, [], 0, 0)
abbrev ty_keep : xw_M := (⟨"RingMachineModel", "keep", "()V"⟩, prog_7_method_33_code, 2, none, [], 0, 0)
abbrev ty_leaveTask : xw_M := (⟨"RingMachineModel", "leaveTask", "()V"⟩, prog_7_method_48_code, 2, none, [], 7, 118)
abbrev ty_load : xw_M := (⟨"RingMachineModel", "load", "(II)I"⟩, prog_7_method_39_code, 3, some .int, [], 10, 168)
abbrev ty_loadData : xw_M := (⟨"RingMachineModel", "loadData", "(I)V"⟩, prog_7_method_37_code, 4, none, [], 5, 84)
abbrev ty_loadStack : xw_M := (⟨"RingMachineModel", "loadStack", "(I)V"⟩, prog_7_method_38_code, 2, none, [], 5, 84)
abbrev ty_located : xw_M := (⟨"RingMachineModel", "located", "(IZZ)I"⟩, prog_7_method_4_code, 13, some .int, [], 1, 14)
abbrev ty_lookUp : xw_M := (⟨"RingMachineModel", "lookUp", "(II)V"⟩, prog_7_method_12_code, 3, none, [], 4, 70)
abbrev ty_nextIp : xw_M := (⟨"RingMachineModel", "nextIp", "()I"⟩, prog_7_method_20_code, 1, some .int, [], 0, 0)
abbrev ty_outerStack : xw_M := (⟨"RingMachineModel", "outerStack", "(II)V"⟩, prog_7_method_27_code, 3, none, [], 5, 84)
abbrev ty_pages : xw_M := (⟨"RingMachineModel", "pages", "(IZ)Z"⟩, prog_7_method_53_code, 3, some .boolean, [], 0, 0)
abbrev ty_peek : xw_M := (⟨"RingMachineModel", "peek", "(I)I"⟩, prog_7_method_50_code, 2, some .int, [], 0, 0)
abbrev ty_poke : xw_M := (⟨"RingMachineModel", "poke", "(II)Z"⟩, prog_7_method_49_code, 3, some .boolean, [], 0, 0)
abbrev ty_pop : xw_M := (⟨"RingMachineModel", "pop", "()I"⟩, prog_7_method_43_code, 2, some .int, [], 10, 168)
abbrev ty_popWord : xw_M := (⟨"RingMachineModel", "popWord", "()I"⟩, prog_7_method_19_code, 2, some .int, [], 5, 85)
abbrev ty_push : xw_M := (⟨"RingMachineModel", "push", "(I)I"⟩, prog_7_method_42_code, 2, some .int, [], 10, 168)
abbrev ty_pushWord : xw_M := (⟨"RingMachineModel", "pushWord", "(I)V"⟩, prog_7_method_18_code, 2, none, [], 5, 85)
abbrev ty_raise : xw_M := (⟨"RingMachineModel", "raise", "(II)V"⟩, prog_7_method_3_code, 3, none, [], 0, 0)
abbrev ty_read : xw_M := (⟨"RingMachineModel", "read", "(II)I"⟩, prog_7_method_40_code, 4, some .int, [], 10, 168)
abbrev ty_readByte : xw_M := (⟨"RingMachineModel", "readByte", "(IZ)I"⟩, prog_7_method_5_code, 4, some .int, [], 2, 38)
abbrev ty_readDescriptor : xw_M := (⟨"RingMachineModel", "readDescriptor", "(II)V"⟩, prog_7_method_11_code, 4, none, [], 3, 55)
abbrev ty_readWord : xw_M := (⟨"RingMachineModel", "readWord", "(IZ)I"⟩, prog_7_method_7_code, 4, some .int, [], 3, 55)
abbrev ty_register : xw_M := (⟨"RingMachineModel", "register", "(I)I"⟩, prog_7_method_54_code, 2, some .int, [], 0, 0)
abbrev ty_restore : xw_M := (⟨"RingMachineModel", "restore", "()V"⟩, prog_7_method_34_code, 2, none, [], 0, 0)
abbrev ty_returns : xw_M := (⟨"RingMachineModel", "returns", "(Z)V"⟩, prog_7_method_26_code, 10, none, [], 6, 98)
abbrev ty_saveWord : xw_M := (⟨"RingMachineModel", "saveWord", "(II)V"⟩, prog_7_method_31_code, 3, none, [], 4, 69)
abbrev ty_segment : xw_M := (⟨"RingMachineModel", "segment", "(II)I"⟩, prog_7_method_55_code, 3, some .int, [], 0, 0)
abbrev ty_segmentWord : xw_M := (⟨"RingMachineModel", "segmentWord", "(II)I"⟩, prog_7_method_16_code, 4, some .int, [], 4, 70)
abbrev ty_setKind : xw_M := (⟨"RingMachineModel", "setKind", "(II)V"⟩, prog_7_method_29_code, 5, none, [], 3, 54)
abbrev ty_setNull : xw_M := (⟨"RingMachineModel", "setNull", "(II)V"⟩, prog_7_method_14_code, 3, none, [], 0, 0)
abbrev ty_setSegment : xw_M := (⟨"RingMachineModel", "setSegment", "(III)V"⟩, prog_7_method_13_code, 4, none, [], 0, 0)
abbrev ty_setSegmentWord : xw_M := (⟨"RingMachineModel", "setSegmentWord", "(III)V"⟩, prog_7_method_17_code, 5, none, [], 4, 69)
abbrev ty_switchTo : xw_M := (⟨"RingMachineModel", "switchTo", "(II)V"⟩, prog_7_method_30_code, 7, none, [], 6, 100)
abbrev ty_tables : xw_M := (⟨"RingMachineModel", "tables", "(III)Z"⟩, prog_7_method_52_code, 4, some .boolean, [], 0, 0)
abbrev ty_take : xw_M := (⟨"RingMachineModel", "take", "(II)V"⟩, prog_7_method_32_code, 5, none, [], 5, 84)
abbrev ty_through : xw_M := (⟨"RingMachineModel", "through", "(IIIZZI)V"⟩, prog_7_method_24_code, 9, none, [], 7, 117)
abbrev ty_transfer : xw_M := (⟨"RingMachineModel", "transfer", "(IIZ)V"⟩, prog_7_method_25_code, 7, none, [], 8, 137)
abbrev ty_trap : xw_M := (⟨"RingMachineModel", "trap", "(I)I"⟩, prog_7_method_46_code, 2, some .int, [], 10, 168)
abbrev ty_within : xw_M := (⟨"RingMachineModel", "within", "(IIZ)I"⟩, prog_7_method_15_code, 5, some .int, [], 1, 14)
abbrev ty_write : xw_M := (⟨"RingMachineModel", "write", "(III)I"⟩, prog_7_method_41_code, 4, some .int, [], 10, 168)
abbrev ty_writeByte : xw_M := (⟨"RingMachineModel", "writeByte", "(IIZ)V"⟩, prog_7_method_6_code, 5, none, [], 2, 38)
abbrev ty_writeWord : xw_M := (⟨"RingMachineModel", "writeWord", "(IIZ)V"⟩, prog_7_method_8_code, 4, none, [], 3, 54)
theorem ok_d_init : xw_ok td_init := ⟨w_94, w_95, by decide, by decide, by decide⟩
theorem ok_d_clear : xw_ok td_clear := ⟨w_96, w_95, by decide, by decide, by decide⟩
theorem ok_d_copy : xw_ok td_copy := ⟨w_97, w_95, by decide, by decide, by decide⟩
theorem ok_d_decode : xw_ok td_decode := ⟨w_98, w_95, by decide, by decide, by decide⟩
theorem ok_d_flat : xw_ok td_flat := ⟨w_99, w_95, by decide, by decide, by decide⟩
theorem ok_d_isCode : xw_ok td_isCode := ⟨w_100, w_95, by decide, by decide, by decide⟩
theorem ok_d_isReadable : xw_ok td_isReadable := ⟨w_101, w_95, by decide, by decide, by decide⟩
theorem ok_x_init : xw_ok tx_init := ⟨w_102, w_103, by decide, by decide, by decide⟩
theorem ok_x_refuse : xw_ok tx_refuse := ⟨w_104, w_103, by decide, by decide, by decide⟩
theorem ok_m_init : xw_ok tm_init := ⟨w_105, w_106, by decide, by decide, by decide⟩
theorem ok_m_at : xw_ok tm_at := ⟨w_107, w_106, by decide, by decide, by decide⟩
theorem ok_m_byteAt : xw_ok tm_byteAt := ⟨w_108, w_106, by decide, by decide, by decide⟩
theorem ok_m_eightAt : xw_ok tm_eightAt := ⟨w_109, w_106, by decide, by decide, by decide⟩
theorem ok_m_frameAt : xw_ok tm_frameAt := ⟨w_110, w_106, by decide, by decide, by decide⟩
theorem ok_m_locate : xw_ok tm_locate := ⟨w_111, w_106, by decide, by decide, by decide⟩
theorem ok_m_put : xw_ok tm_put := ⟨w_112, w_106, by decide, by decide, by decide⟩
theorem ok_m_setByte : xw_ok tm_setByte := ⟨w_113, w_106, by decide, by decide, by decide⟩
theorem ok_m_setWord : xw_ok tm_setWord := ⟨w_114, w_106, by decide, by decide, by decide⟩
theorem ok_m_wordAt : xw_ok tm_wordAt := ⟨w_115, w_106, by decide, by decide, by decide⟩
theorem ok_g_init : xw_ok tg_init := ⟨w_116, w_117, by decide, by decide, by decide⟩
theorem ok_g_copy : xw_ok tg_copy := ⟨w_118, w_117, by decide, by decide, by decide⟩
theorem ok_g_held : xw_ok tg_held := ⟨w_119, w_117, by decide, by decide, by decide⟩
theorem ok_r_init : xw_ok tr_init := ⟨w_120, w_121, by decide, by decide, by decide⟩
theorem ok_r_advance : xw_ok tr_advance := ⟨w_122, w_121, by decide, by decide, by decide⟩
theorem ok_r_back : xw_ok tr_back := ⟨w_123, w_121, by decide, by decide, by decide⟩
theorem ok_r_changeStack : xw_ok tr_changeStack := ⟨w_124, w_121, by decide, by decide, by decide⟩
theorem ok_r_checkAccess : xw_ok tr_checkAccess := ⟨w_125, w_121, by decide, by decide, by decide⟩
theorem ok_r_codeOf : xw_ok tr_codeOf := ⟨w_126, w_121, by decide, by decide, by decide⟩
theorem ok_r_deliver : xw_ok tr_deliver := ⟨w_127, w_121, by decide, by decide, by decide⟩
theorem ok_r_end : xw_ok tr_end := ⟨w_128, w_121, by decide, by decide, by decide⟩
theorem ok_r_endTask : xw_ok tr_endTask := ⟨w_129, w_121, by decide, by decide, by decide⟩
theorem ok_r_enter : xw_ok tr_enter := ⟨w_130, w_121, by decide, by decide, by decide⟩
theorem ok_r_far : xw_ok tr_far := ⟨w_131, w_121, by decide, by decide, by decide⟩
theorem ok_r_fill : xw_ok tr_fill := ⟨w_132, w_121, by decide, by decide, by decide⟩
theorem ok_r_findInnerStack : xw_ok tr_findInnerStack := ⟨w_133, w_121, by decide, by decide, by decide⟩
theorem ok_r_findOuterStack : xw_ok tr_findOuterStack := ⟨w_134, w_121, by decide, by decide, by decide⟩
theorem ok_r_findReturn : xw_ok tr_findReturn := ⟨w_135, w_121, by decide, by decide, by decide⟩
theorem ok_r_findTarget : xw_ok tr_findTarget := ⟨w_136, w_121, by decide, by decide, by decide⟩
theorem ok_r_fitsTask : xw_ok tr_fitsTask := ⟨w_137, w_121, by decide, by decide, by decide⟩
theorem ok_r_goBack : xw_ok tr_goBack := ⟨w_138, w_121, by decide, by decide, by decide⟩
theorem ok_r_hideData : xw_ok tr_hideData := ⟨w_139, w_121, by decide, by decide, by decide⟩
theorem ok_r_isNull : xw_ok tr_isNull := ⟨w_140, w_121, by decide, by decide, by decide⟩
theorem ok_r_leadsInwards : xw_ok tr_leadsInwards := ⟨w_141, w_121, by decide, by decide, by decide⟩
theorem ok_r_load : xw_ok tr_load := ⟨w_142, w_121, by decide, by decide, by decide⟩
theorem ok_r_loadData : xw_ok tr_loadData := ⟨w_143, w_121, by decide, by decide, by decide⟩
theorem ok_r_loadStack : xw_ok tr_loadStack := ⟨w_144, w_121, by decide, by decide, by decide⟩
theorem ok_r_lookUp : xw_ok tr_lookUp := ⟨w_145, w_121, by decide, by decide, by decide⟩
theorem ok_r_markTasks : xw_ok tr_markTasks := ⟨w_146, w_121, by decide, by decide, by decide⟩
theorem ok_r_mayBeEntered : xw_ok tr_mayBeEntered := ⟨w_147, w_121, by decide, by decide, by decide⟩
theorem ok_r_next : xw_ok tr_next := ⟨w_148, w_121, by decide, by decide, by decide⟩
theorem ok_r_pages : xw_ok tr_pages := ⟨w_149, w_121, by decide, by decide, by decide⟩
theorem ok_r_passGate : xw_ok tr_passGate := ⟨w_150, w_121, by decide, by decide, by decide⟩
theorem ok_r_peek : xw_ok tr_peek := ⟨w_151, w_121, by decide, by decide, by decide⟩
theorem ok_r_poke : xw_ok tr_poke := ⟨w_152, w_121, by decide, by decide, by decide⟩
theorem ok_r_pop : xw_ok tr_pop := ⟨w_153, w_121, by decide, by decide, by decide⟩
theorem ok_r_popWord : xw_ok tr_popWord := ⟨w_154, w_121, by decide, by decide, by decide⟩
theorem ok_r_push : xw_ok tr_push := ⟨w_155, w_121, by decide, by decide, by decide⟩
theorem ok_r_pushReturn : xw_ok tr_pushReturn := ⟨w_156, w_121, by decide, by decide, by decide⟩
theorem ok_r_pushWord : xw_ok tr_pushWord := ⟨w_157, w_121, by decide, by decide, by decide⟩
theorem ok_r_read : xw_ok tr_read := ⟨w_158, w_121, by decide, by decide, by decide⟩
theorem ok_r_readVectorGate : xw_ok tr_readVectorGate := ⟨w_159, w_121, by decide, by decide, by decide⟩
theorem ok_r_register : xw_ok tr_register := ⟨w_160, w_121, by decide, by decide, by decide⟩
theorem ok_r_rplOf : xw_ok tr_rplOf := ⟨w_161, w_121, by decide, by decide, by decide⟩
theorem ok_r_saveState : xw_ok tr_saveState := ⟨w_162, w_121, by decide, by decide, by decide⟩
theorem ok_r_segment : xw_ok tr_segment := ⟨w_163, w_121, by decide, by decide, by decide⟩
theorem ok_r_setKind : xw_ok tr_setKind := ⟨w_164, w_121, by decide, by decide, by decide⟩
theorem ok_r_setWordIn : xw_ok tr_setWordIn := ⟨w_165, w_121, by decide, by decide, by decide⟩
theorem ok_r_settle : xw_ok tr_settle := ⟨w_166, w_121, by decide, by decide, by decide⟩
theorem ok_r_switchTask : xw_ok tr_switchTask := ⟨w_167, w_121, by decide, by decide, by decide⟩
theorem ok_r_tables : xw_ok tr_tables := ⟨w_168, w_121, by decide, by decide, by decide⟩
theorem ok_r_takeSegment : xw_ok tr_takeSegment := ⟨w_169, w_121, by decide, by decide, by decide⟩
theorem ok_r_transfer : xw_ok tr_transfer := ⟨w_170, w_121, by decide, by decide, by decide⟩
theorem ok_r_trap : xw_ok tr_trap := ⟨w_171, w_121, by decide, by decide, by decide⟩
theorem ok_r_wordIn : xw_ok tr_wordIn := ⟨w_172, w_121, by decide, by decide, by decide⟩
theorem ok_r_write : xw_ok tr_write := ⟨w_173, w_121, by decide, by decide, by decide⟩
theorem ok_y_init : xw_ok ty_init := ⟨w_174, w_175, by decide, by decide, by decide⟩
theorem ok_y_back : xw_ok ty_back := ⟨w_176, w_175, by decide, by decide, by decide⟩
theorem ok_y_begins : xw_ok ty_begins := ⟨w_177, w_175, by decide, by decide, by decide⟩
theorem ok_y_codeOf : xw_ok ty_codeOf := ⟨w_178, w_175, by decide, by decide, by decide⟩
theorem ok_y_deliver : xw_ok ty_deliver := ⟨w_179, w_175, by decide, by decide, by decide⟩
theorem ok_y_end : xw_ok ty_end := ⟨w_180, w_175, by decide, by decide, by decide⟩
theorem ok_y_ends : xw_ok ty_ends := ⟨w_181, w_175, by decide, by decide, by decide⟩
theorem ok_y_enter : xw_ok ty_enter := ⟨w_182, w_175, by decide, by decide, by decide⟩
theorem ok_y_far : xw_ok ty_far := ⟨w_183, w_175, by decide, by decide, by decide⟩
theorem ok_y_fill : xw_ok ty_fill := ⟨w_184, w_175, by decide, by decide, by decide⟩
theorem ok_y_inner : xw_ok ty_inner := ⟨w_185, w_175, by decide, by decide, by decide⟩
theorem ok_y_isDirect : xw_ok ty_isDirect := ⟨w_186, w_175, by decide, by decide, by decide⟩
theorem ok_y_isNull : xw_ok ty_isNull := ⟨w_187, w_175, by decide, by decide, by decide⟩
theorem ok_y_isRaised : xw_ok ty_isRaised := ⟨w_188, w_175, by decide, by decide, by decide⟩
theorem ok_y_keep : xw_ok ty_keep := ⟨w_189, w_175, by decide, by decide, by decide⟩
theorem ok_y_leaveTask : xw_ok ty_leaveTask := ⟨w_190, w_175, by decide, by decide, by decide⟩
theorem ok_y_load : xw_ok ty_load := ⟨w_191, w_175, by decide, by decide, by decide⟩
theorem ok_y_loadData : xw_ok ty_loadData := ⟨w_192, w_175, by decide, by decide, by decide⟩
theorem ok_y_loadStack : xw_ok ty_loadStack := ⟨w_193, w_175, by decide, by decide, by decide⟩
theorem ok_y_located : xw_ok ty_located := ⟨w_194, w_175, by decide, by decide, by decide⟩
theorem ok_y_lookUp : xw_ok ty_lookUp := ⟨w_195, w_175, by decide, by decide, by decide⟩
theorem ok_y_nextIp : xw_ok ty_nextIp := ⟨w_196, w_175, by decide, by decide, by decide⟩
theorem ok_y_outerStack : xw_ok ty_outerStack := ⟨w_197, w_175, by decide, by decide, by decide⟩
theorem ok_y_pages : xw_ok ty_pages := ⟨w_198, w_175, by decide, by decide, by decide⟩
theorem ok_y_peek : xw_ok ty_peek := ⟨w_199, w_175, by decide, by decide, by decide⟩
theorem ok_y_poke : xw_ok ty_poke := ⟨w_200, w_175, by decide, by decide, by decide⟩
theorem ok_y_pop : xw_ok ty_pop := ⟨w_201, w_175, by decide, by decide, by decide⟩
theorem ok_y_popWord : xw_ok ty_popWord := ⟨w_202, w_175, by decide, by decide, by decide⟩
theorem ok_y_push : xw_ok ty_push := ⟨w_203, w_175, by decide, by decide, by decide⟩
theorem ok_y_pushWord : xw_ok ty_pushWord := ⟨w_204, w_175, by decide, by decide, by decide⟩
theorem ok_y_raise : xw_ok ty_raise := ⟨w_205, w_175, by decide, by decide, by decide⟩
theorem ok_y_read : xw_ok ty_read := ⟨w_206, w_175, by decide, by decide, by decide⟩
theorem ok_y_readByte : xw_ok ty_readByte := ⟨w_207, w_175, by decide, by decide, by decide⟩
theorem ok_y_readDescriptor : xw_ok ty_readDescriptor := ⟨w_208, w_175, by decide, by decide, by decide⟩
theorem ok_y_readWord : xw_ok ty_readWord := ⟨w_209, w_175, by decide, by decide, by decide⟩
theorem ok_y_register : xw_ok ty_register := ⟨w_210, w_175, by decide, by decide, by decide⟩
theorem ok_y_restore : xw_ok ty_restore := ⟨w_211, w_175, by decide, by decide, by decide⟩
theorem ok_y_returns : xw_ok ty_returns := ⟨w_212, w_175, by decide, by decide, by decide⟩
theorem ok_y_saveWord : xw_ok ty_saveWord := ⟨w_213, w_175, by decide, by decide, by decide⟩
theorem ok_y_segment : xw_ok ty_segment := ⟨w_214, w_175, by decide, by decide, by decide⟩
theorem ok_y_segmentWord : xw_ok ty_segmentWord := ⟨w_215, w_175, by decide, by decide, by decide⟩
theorem ok_y_setKind : xw_ok ty_setKind := ⟨w_216, w_175, by decide, by decide, by decide⟩
theorem ok_y_setNull : xw_ok ty_setNull := ⟨w_217, w_175, by decide, by decide, by decide⟩
theorem ok_y_setSegment : xw_ok ty_setSegment := ⟨w_218, w_175, by decide, by decide, by decide⟩
theorem ok_y_setSegmentWord : xw_ok ty_setSegmentWord := ⟨w_219, w_175, by decide, by decide, by decide⟩
theorem ok_y_switchTo : xw_ok ty_switchTo := ⟨w_220, w_175, by decide, by decide, by decide⟩
theorem ok_y_tables : xw_ok ty_tables := ⟨w_221, w_175, by decide, by decide, by decide⟩
theorem ok_y_take : xw_ok ty_take := ⟨w_222, w_175, by decide, by decide, by decide⟩
theorem ok_y_through : xw_ok ty_through := ⟨w_223, w_175, by decide, by decide, by decide⟩
theorem ok_y_transfer : xw_ok ty_transfer := ⟨w_224, w_175, by decide, by decide, by decide⟩
theorem ok_y_trap : xw_ok ty_trap := ⟨w_225, w_175, by decide, by decide, by decide⟩
theorem ok_y_within : xw_ok ty_within := ⟨w_226, w_175, by decide, by decide, by decide⟩
theorem ok_y_write : xw_ok ty_write := ⟨w_227, w_175, by decide, by decide, by decide⟩
theorem ok_y_writeByte : xw_ok ty_writeByte := ⟨w_228, w_175, by decide, by decide, by decide⟩
theorem ok_y_writeWord : xw_ok ty_writeWord := ⟨w_229, w_175, by decide, by decide, by decide⟩
theorem pd_9 : (parseMethodDescriptor "()I").map (fun d => d.parameters.length) = some 0 := by decide +kernel
theorem pd_6 : (parseMethodDescriptor "()V").map (fun d => d.parameters.length) = some 0 := by decide +kernel
theorem pd_1 : (parseMethodDescriptor "()Z").map (fun d => d.parameters.length) = some 0 := by decide +kernel
theorem pd_3 : (parseMethodDescriptor "(I)I").map (fun d => d.parameters.length) = some 1 := by decide +kernel
theorem pd_21 : (parseMethodDescriptor "(I)J").map (fun d => d.parameters.length) = some 1 := by decide +kernel
theorem pd_15 : (parseMethodDescriptor "(I)LRingMachine$Descriptor;").map (fun d => d.parameters.length) = some 1 := by decide +kernel
theorem pd_12 : (parseMethodDescriptor "(I)V").map (fun d => d.parameters.length) = some 1 := by decide +kernel
theorem pd_14 : (parseMethodDescriptor "(I)Z").map (fun d => d.parameters.length) = some 1 := by decide +kernel
theorem pd_13 : (parseMethodDescriptor "(II)I").map (fun d => d.parameters.length) = some 2 := by decide +kernel
theorem pd_5 : (parseMethodDescriptor "(II)V").map (fun d => d.parameters.length) = some 2 := by decide +kernel
theorem pd_24 : (parseMethodDescriptor "(II)Z").map (fun d => d.parameters.length) = some 2 := by decide +kernel
theorem pd_28 : (parseMethodDescriptor "(III)I").map (fun d => d.parameters.length) = some 3 := by decide +kernel
theorem pd_22 : (parseMethodDescriptor "(III)V").map (fun d => d.parameters.length) = some 3 := by decide +kernel
theorem pd_26 : (parseMethodDescriptor "(III)Z").map (fun d => d.parameters.length) = some 3 := by decide +kernel
theorem pd_29 : (parseMethodDescriptor "(IIIZZI)V").map (fun d => d.parameters.length) = some 6 := by decide +kernel
theorem pd_2 : (parseMethodDescriptor "(IIZ)I").map (fun d => d.parameters.length) = some 3 := by decide +kernel
theorem pd_19 : (parseMethodDescriptor "(IIZ)V").map (fun d => d.parameters.length) = some 3 := by decide +kernel
theorem pd_0 : (parseMethodDescriptor "(IJ)V").map (fun d => d.parameters.length) = some 2 := by decide +kernel
theorem pd_25 : (parseMethodDescriptor "(IJ)Z").map (fun d => d.parameters.length) = some 2 := by decide +kernel
theorem pd_18 : (parseMethodDescriptor "(ILRingMachine$Descriptor;)V").map (fun d => d.parameters.length) = some 2 := by decide +kernel
theorem pd_30 : (parseMethodDescriptor "(IZ)I").map (fun d => d.parameters.length) = some 2 := by decide +kernel
theorem pd_16 : (parseMethodDescriptor "(IZ)V").map (fun d => d.parameters.length) = some 2 := by decide +kernel
theorem pd_27 : (parseMethodDescriptor "(IZ)Z").map (fun d => d.parameters.length) = some 2 := by decide +kernel
theorem pd_23 : (parseMethodDescriptor "(IZI)V").map (fun d => d.parameters.length) = some 3 := by decide +kernel
theorem pd_31 : (parseMethodDescriptor "(IZZ)I").map (fun d => d.parameters.length) = some 3 := by decide +kernel
theorem pd_7 : (parseMethodDescriptor "(LRingMachine$Descriptor;)V").map (fun d => d.parameters.length) = some 1 := by decide +kernel
theorem pd_20 : (parseMethodDescriptor "(LRingMachine$Descriptor;)Z").map (fun d => d.parameters.length) = some 1 := by decide +kernel
theorem pd_17 : (parseMethodDescriptor "(LRingMachine$Descriptor;I)V").map (fun d => d.parameters.length) = some 2 := by decide +kernel
theorem pd_8 : (parseMethodDescriptor "(LRingMachine$Fault;LRingMachine$Registers;)V").map (fun d => d.parameters.length) = some 2 := by decide +kernel
theorem pd_10 : (parseMethodDescriptor "(LRingMachine$Registers;)V").map (fun d => d.parameters.length) = some 1 := by decide +kernel
theorem pd_11 : (parseMethodDescriptor "(Z)V").map (fun d => d.parameters.length) = some 1 := by decide +kernel
theorem pd_4 : (parseMethodDescriptor "(ZII)V").map (fun d => d.parameters.length) = some 3 := by decide +kernel
theorem fl_d_16 : xw_fl "RingMachine$Descriptor" 16 0 1 0 := ⟨("RingMachine$Descriptor", xc_F0, 7), rfl, by decide, w_0, rfl, rfl⟩
theorem fl_d_19 : xw_fl "RingMachine$Descriptor" 19 0 2 0 := ⟨("RingMachine$Descriptor", xc_F0, 7), rfl, by decide, w_1, rfl, rfl⟩
theorem fl_d_22 : xw_fl "RingMachine$Descriptor" 22 0 3 0 := ⟨("RingMachine$Descriptor", xc_F0, 7), rfl, by decide, w_2, rfl, rfl⟩
theorem fl_d_25 : xw_fl "RingMachine$Descriptor" 25 0 4 0 := ⟨("RingMachine$Descriptor", xc_F0, 7), rfl, by decide, w_3, rfl, rfl⟩
theorem fl_d_28 : xw_fl "RingMachine$Descriptor" 28 0 6 1 := ⟨("RingMachine$Descriptor", xc_F0, 7), rfl, by decide, w_4, rfl, rfl⟩
theorem fl_d_32 : xw_fl "RingMachine$Descriptor" 32 0 5 0 := ⟨("RingMachine$Descriptor", xc_F0, 7), rfl, by decide, w_5, rfl, rfl⟩
theorem fl_d_9 : xw_fl "RingMachine$Descriptor" 9 0 0 0 := ⟨("RingMachine$Descriptor", xc_F0, 7), rfl, by decide, w_6, rfl, rfl⟩
theorem fl_x_13 : xw_fl "RingMachine$Fault" 13 1 1 0 := ⟨("RingMachine$Fault", xc_F1, 3), rfl, by decide, w_7, rfl, rfl⟩
theorem fl_x_7 : xw_fl "RingMachine$Fault" 7 1 0 0 := ⟨("RingMachine$Fault", xc_F1, 3), rfl, by decide, w_8, rfl, rfl⟩
theorem fl_m_15 : xw_fl "RingMachine$Memory" 15 2 1 2 := ⟨("RingMachine$Memory", xc_F2, 4), rfl, by decide, w_9, rfl, rfl⟩
theorem fl_m_19 : xw_fl "RingMachine$Memory" 19 2 2 2 := ⟨("RingMachine$Memory", xc_F2, 4), rfl, by decide, w_10, rfl, rfl⟩
theorem fl_m_23 : xw_fl "RingMachine$Memory" 23 2 3 1 := ⟨("RingMachine$Memory", xc_F2, 4), rfl, by decide, w_11, rfl, rfl⟩
theorem fl_m_27 : xw_fl "RingMachine$Memory" 27 3 9 0 := ⟨("RingMachine$Registers", xc_F3, 11), rfl, by decide, w_12, rfl, rfl⟩
theorem fl_m_37 : xw_fl "RingMachine$Memory" 37 1 2 0 := ⟨("RingMachine$Fault", xc_F1, 3), rfl, by decide, w_13, rfl, rfl⟩
theorem fl_m_9 : xw_fl "RingMachine$Memory" 9 2 0 2 := ⟨("RingMachine$Memory", xc_F2, 4), rfl, by decide, w_14, rfl, rfl⟩
theorem fl_g_12 : xw_fl "RingMachine$Registers" 12 3 0 2 := ⟨("RingMachine$Registers", xc_F3, 11), rfl, by decide, w_15, rfl, rfl⟩
theorem fl_g_18 : xw_fl "RingMachine$Registers" 18 3 1 2 := ⟨("RingMachine$Registers", xc_F3, 11), rfl, by decide, w_16, rfl, rfl⟩
theorem fl_g_21 : xw_fl "RingMachine$Registers" 21 3 2 2 := ⟨("RingMachine$Registers", xc_F3, 11), rfl, by decide, w_17, rfl, rfl⟩
theorem fl_g_28 : xw_fl "RingMachine$Registers" 28 3 3 0 := ⟨("RingMachine$Registers", xc_F3, 11), rfl, by decide, w_18, rfl, rfl⟩
theorem fl_g_32 : xw_fl "RingMachine$Registers" 32 3 8 0 := ⟨("RingMachine$Registers", xc_F3, 11), rfl, by decide, w_19, rfl, rfl⟩
theorem fl_g_39 : xw_fl "RingMachine$Registers" 39 3 4 0 := ⟨("RingMachine$Registers", xc_F3, 11), rfl, by decide, w_20, rfl, rfl⟩
theorem fl_g_42 : xw_fl "RingMachine$Registers" 42 3 5 0 := ⟨("RingMachine$Registers", xc_F3, 11), rfl, by decide, w_21, rfl, rfl⟩
theorem fl_g_45 : xw_fl "RingMachine$Registers" 45 3 6 0 := ⟨("RingMachine$Registers", xc_F3, 11), rfl, by decide, w_22, rfl, rfl⟩
theorem fl_g_48 : xw_fl "RingMachine$Registers" 48 3 7 0 := ⟨("RingMachine$Registers", xc_F3, 11), rfl, by decide, w_23, rfl, rfl⟩
theorem fl_g_51 : xw_fl "RingMachine$Registers" 51 3 9 0 := ⟨("RingMachine$Registers", xc_F3, 11), rfl, by decide, w_24, rfl, rfl⟩
theorem fl_g_54 : xw_fl "RingMachine$Registers" 54 3 10 0 := ⟨("RingMachine$Registers", xc_F3, 11), rfl, by decide, w_25, rfl, rfl⟩
theorem fl_r_10 : xw_fl "RingMachine" 10 4 0 2 := ⟨("RingMachine", xc_F4, 13), rfl, by decide, w_26, rfl, rfl⟩
theorem fl_r_108 : xw_fl "RingMachine" 108 3 10 0 := ⟨("RingMachine$Registers", xc_F3, 11), rfl, by decide, w_27, rfl, rfl⟩
theorem fl_r_133 : xw_fl "RingMachine" 133 3 5 0 := ⟨("RingMachine$Registers", xc_F3, 11), rfl, by decide, w_28, rfl, rfl⟩
theorem fl_r_139 : xw_fl "RingMachine" 139 3 0 2 := ⟨("RingMachine$Registers", xc_F3, 11), rfl, by decide, w_29, rfl, rfl⟩
theorem fl_r_142 : xw_fl "RingMachine" 142 0 0 0 := ⟨("RingMachine$Descriptor", xc_F0, 7), rfl, by decide, w_30, rfl, rfl⟩
theorem fl_r_145 : xw_fl "RingMachine" 145 3 1 2 := ⟨("RingMachine$Registers", xc_F3, 11), rfl, by decide, w_31, rfl, rfl⟩
theorem fl_r_148 : xw_fl "RingMachine" 148 3 2 2 := ⟨("RingMachine$Registers", xc_F3, 11), rfl, by decide, w_32, rfl, rfl⟩
theorem fl_r_151 : xw_fl "RingMachine" 151 3 3 0 := ⟨("RingMachine$Registers", xc_F3, 11), rfl, by decide, w_33, rfl, rfl⟩
theorem fl_r_154 : xw_fl "RingMachine" 154 3 4 0 := ⟨("RingMachine$Registers", xc_F3, 11), rfl, by decide, w_34, rfl, rfl⟩
theorem fl_r_157 : xw_fl "RingMachine" 157 3 6 0 := ⟨("RingMachine$Registers", xc_F3, 11), rfl, by decide, w_35, rfl, rfl⟩
theorem fl_r_160 : xw_fl "RingMachine" 160 3 7 0 := ⟨("RingMachine$Registers", xc_F3, 11), rfl, by decide, w_36, rfl, rfl⟩
theorem fl_r_163 : xw_fl "RingMachine" 163 3 8 0 := ⟨("RingMachine$Registers", xc_F3, 11), rfl, by decide, w_37, rfl, rfl⟩
theorem fl_r_166 : xw_fl "RingMachine" 166 1 2 0 := ⟨("RingMachine$Fault", xc_F1, 3), rfl, by decide, w_38, rfl, rfl⟩
theorem fl_r_173 : xw_fl "RingMachine" 173 0 1 0 := ⟨("RingMachine$Descriptor", xc_F0, 7), rfl, by decide, w_39, rfl, rfl⟩
theorem fl_r_176 : xw_fl "RingMachine" 176 0 2 0 := ⟨("RingMachine$Descriptor", xc_F0, 7), rfl, by decide, w_40, rfl, rfl⟩
theorem fl_r_179 : xw_fl "RingMachine" 179 0 3 0 := ⟨("RingMachine$Descriptor", xc_F0, 7), rfl, by decide, w_41, rfl, rfl⟩
theorem fl_r_182 : xw_fl "RingMachine" 182 0 4 0 := ⟨("RingMachine$Descriptor", xc_F0, 7), rfl, by decide, w_42, rfl, rfl⟩
theorem fl_r_188 : xw_fl "RingMachine" 188 1 0 0 := ⟨("RingMachine$Fault", xc_F1, 3), rfl, by decide, w_43, rfl, rfl⟩
theorem fl_r_19 : xw_fl "RingMachine" 19 4 1 2 := ⟨("RingMachine", xc_F4, 13), rfl, by decide, w_44, rfl, rfl⟩
theorem fl_r_191 : xw_fl "RingMachine" 191 1 1 0 := ⟨("RingMachine$Fault", xc_F1, 3), rfl, by decide, w_45, rfl, rfl⟩
theorem fl_r_23 : xw_fl "RingMachine" 23 4 2 2 := ⟨("RingMachine", xc_F4, 13), rfl, by decide, w_46, rfl, rfl⟩
theorem fl_r_231 : xw_fl "RingMachine" 231 0 6 1 := ⟨("RingMachine$Descriptor", xc_F0, 7), rfl, by decide, w_47, rfl, rfl⟩
theorem fl_r_276 : xw_fl "RingMachine" 276 0 5 0 := ⟨("RingMachine$Descriptor", xc_F0, 7), rfl, by decide, w_48, rfl, rfl⟩
theorem fl_r_31 : xw_fl "RingMachine" 31 4 3 2 := ⟨("RingMachine", xc_F4, 13), rfl, by decide, w_49, rfl, rfl⟩
theorem fl_r_38 : xw_fl "RingMachine" 38 4 4 2 := ⟨("RingMachine", xc_F4, 13), rfl, by decide, w_50, rfl, rfl⟩
theorem fl_r_42 : xw_fl "RingMachine" 42 4 5 2 := ⟨("RingMachine", xc_F4, 13), rfl, by decide, w_51, rfl, rfl⟩
theorem fl_r_45 : xw_fl "RingMachine" 45 4 6 2 := ⟨("RingMachine", xc_F4, 13), rfl, by decide, w_52, rfl, rfl⟩
theorem fl_r_48 : xw_fl "RingMachine" 48 4 7 2 := ⟨("RingMachine", xc_F4, 13), rfl, by decide, w_53, rfl, rfl⟩
theorem fl_r_52 : xw_fl "RingMachine" 52 4 8 2 := ⟨("RingMachine", xc_F4, 13), rfl, by decide, w_54, rfl, rfl⟩
theorem fl_r_63 : xw_fl "RingMachine" 63 4 12 1 := ⟨("RingMachine", xc_F4, 13), rfl, by decide, w_55, rfl, rfl⟩
theorem fl_r_67 : xw_fl "RingMachine" 67 4 9 0 := ⟨("RingMachine", xc_F4, 13), rfl, by decide, w_56, rfl, rfl⟩
theorem fl_r_71 : xw_fl "RingMachine" 71 4 10 0 := ⟨("RingMachine", xc_F4, 13), rfl, by decide, w_57, rfl, rfl⟩
theorem fl_r_74 : xw_fl "RingMachine" 74 4 11 0 := ⟨("RingMachine", xc_F4, 13), rfl, by decide, w_58, rfl, rfl⟩
theorem fl_r_77 : xw_fl "RingMachine" 77 3 9 0 := ⟨("RingMachine$Registers", xc_F3, 11), rfl, by decide, w_59, rfl, rfl⟩
theorem fl_r_80 : xw_fl "RingMachine" 80 2 3 1 := ⟨("RingMachine$Memory", xc_F2, 4), rfl, by decide, w_60, rfl, rfl⟩
theorem fl_y_109 : xw_fl "RingMachineModel" 109 5 11 1 := ⟨("RingMachineModel", xc_F5, 19), rfl, by decide, w_61, rfl, rfl⟩
theorem fl_y_13 : xw_fl "RingMachineModel" 13 5 5 2 := ⟨("RingMachineModel", xc_F5, 19), rfl, by decide, w_62, rfl, rfl⟩
theorem fl_y_152 : xw_fl "RingMachineModel" 152 5 4 0 := ⟨("RingMachineModel", xc_F5, 19), rfl, by decide, w_63, rfl, rfl⟩
theorem fl_y_16 : xw_fl "RingMachineModel" 16 5 6 2 := ⟨("RingMachineModel", xc_F5, 19), rfl, by decide, w_64, rfl, rfl⟩
theorem fl_y_161 : xw_fl "RingMachineModel" 161 5 10 1 := ⟨("RingMachineModel", xc_F5, 19), rfl, by decide, w_65, rfl, rfl⟩
theorem fl_y_177 : xw_fl "RingMachineModel" 177 5 8 1 := ⟨("RingMachineModel", xc_F5, 19), rfl, by decide, w_66, rfl, rfl⟩
theorem fl_y_19 : xw_fl "RingMachineModel" 19 5 9 0 := ⟨("RingMachineModel", xc_F5, 19), rfl, by decide, w_67, rfl, rfl⟩
theorem fl_y_23 : xw_fl "RingMachineModel" 23 5 12 2 := ⟨("RingMachineModel", xc_F5, 19), rfl, by decide, w_68, rfl, rfl⟩
theorem fl_y_26 : xw_fl "RingMachineModel" 26 5 13 2 := ⟨("RingMachineModel", xc_F5, 19), rfl, by decide, w_69, rfl, rfl⟩
theorem fl_y_29 : xw_fl "RingMachineModel" 29 5 14 2 := ⟨("RingMachineModel", xc_F5, 19), rfl, by decide, w_70, rfl, rfl⟩
theorem fl_y_32 : xw_fl "RingMachineModel" 32 5 15 2 := ⟨("RingMachineModel", xc_F5, 19), rfl, by decide, w_71, rfl, rfl⟩
theorem fl_y_35 : xw_fl "RingMachineModel" 35 5 16 2 := ⟨("RingMachineModel", xc_F5, 19), rfl, by decide, w_72, rfl, rfl⟩
theorem fl_y_39 : xw_fl "RingMachineModel" 39 5 17 2 := ⟨("RingMachineModel", xc_F5, 19), rfl, by decide, w_73, rfl, rfl⟩
theorem fl_y_42 : xw_fl "RingMachineModel" 42 5 18 2 := ⟨("RingMachineModel", xc_F5, 19), rfl, by decide, w_74, rfl, rfl⟩
theorem fl_y_46 : xw_fl "RingMachineModel" 46 5 1 1 := ⟨("RingMachineModel", xc_F5, 19), rfl, by decide, w_75, rfl, rfl⟩
theorem fl_y_50 : xw_fl "RingMachineModel" 50 5 7 0 := ⟨("RingMachineModel", xc_F5, 19), rfl, by decide, w_76, rfl, rfl⟩
theorem fl_y_7 : xw_fl "RingMachineModel" 7 5 0 2 := ⟨("RingMachineModel", xc_F5, 19), rfl, by decide, w_77, rfl, rfl⟩
theorem fl_y_74 : xw_fl "RingMachineModel" 74 5 3 0 := ⟨("RingMachineModel", xc_F5, 19), rfl, by decide, w_78, rfl, rfl⟩
theorem fl_y_81 : xw_fl "RingMachineModel" 81 5 2 0 := ⟨("RingMachineModel", xc_F5, 19), rfl, by decide, w_79, rfl, rfl⟩
theorem kb_m2 : (Int8.ofInt (-2)).toInt32 = (-2 : Int32) := by decide +kernel
theorem kb_m3 : (Int8.ofInt (-3)).toInt32 = (-3 : Int32) := by decide +kernel
theorem kb_m4 : (Int8.ofInt (-4)).toInt32 = (-4 : Int32) := by decide +kernel
theorem kb_10 : (Int8.ofInt (10)).toInt32 = (10 : Int32) := by decide +kernel
theorem kb_11 : (Int8.ofInt (11)).toInt32 = (11 : Int32) := by decide +kernel
theorem kb_12 : (Int8.ofInt (12)).toInt32 = (12 : Int32) := by decide +kernel
theorem kb_13 : (Int8.ofInt (13)).toInt32 = (13 : Int32) := by decide +kernel
theorem kb_14 : (Int8.ofInt (14)).toInt32 = (14 : Int32) := by decide +kernel
theorem kb_15 : (Int8.ofInt (15)).toInt32 = (15 : Int32) := by decide +kernel
theorem kb_16 : (Int8.ofInt (16)).toInt32 = (16 : Int32) := by decide +kernel
theorem kb_17 : (Int8.ofInt (17)).toInt32 = (17 : Int32) := by decide +kernel
theorem kb_18 : (Int8.ofInt (18)).toInt32 = (18 : Int32) := by decide +kernel
theorem kb_19 : (Int8.ofInt (19)).toInt32 = (19 : Int32) := by decide +kernel
theorem kb_20 : (Int8.ofInt (20)).toInt32 = (20 : Int32) := by decide +kernel
theorem kb_21 : (Int8.ofInt (21)).toInt32 = (21 : Int32) := by decide +kernel
theorem kb_22 : (Int8.ofInt (22)).toInt32 = (22 : Int32) := by decide +kernel
theorem kb_23 : (Int8.ofInt (23)).toInt32 = (23 : Int32) := by decide +kernel
theorem kb_24 : (Int8.ofInt (24)).toInt32 = (24 : Int32) := by decide +kernel
theorem kb_25 : (Int8.ofInt (25)).toInt32 = (25 : Int32) := by decide +kernel
theorem kb_26 : (Int8.ofInt (26)).toInt32 = (26 : Int32) := by decide +kernel
theorem kb_31 : (Int8.ofInt (31)).toInt32 = (31 : Int32) := by decide +kernel
theorem kb_32 : (Int8.ofInt (32)).toInt32 = (32 : Int32) := by decide +kernel
theorem kb_40 : (Int8.ofInt (40)).toInt32 = (40 : Int32) := by decide +kernel
theorem kb_47 : (Int8.ofInt (47)).toInt32 = (47 : Int32) := by decide +kernel
theorem kb_48 : (Int8.ofInt (48)).toInt32 = (48 : Int32) := by decide +kernel
theorem kb_6 : (Int8.ofInt (6)).toInt32 = (6 : Int32) := by decide +kernel
theorem kb_64 : (Int8.ofInt (64)).toInt32 = (64 : Int32) := by decide +kernel
theorem kb_7 : (Int8.ofInt (7)).toInt32 = (7 : Int32) := by decide +kernel
theorem kb_8 : (Int8.ofInt (8)).toInt32 = (8 : Int32) := by decide +kernel
theorem kb_9 : (Int8.ofInt (9)).toInt32 = (9 : Int32) := by decide +kernel
theorem kb_96 : (Int8.ofInt (96)).toInt32 = (96 : Int32) := by decide +kernel
theorem ki_m1 : Int32.ofInt (-1) = (-1 : Int32) := by decide +kernel
theorem ki_0 : Int32.ofInt (0) = (0 : Int32) := by decide +kernel
theorem ki_1 : Int32.ofInt (1) = (1 : Int32) := by decide +kernel
theorem ki_2 : Int32.ofInt (2) = (2 : Int32) := by decide +kernel
theorem ki_3 : Int32.ofInt (3) = (3 : Int32) := by decide +kernel
theorem ki_4 : Int32.ofInt (4) = (4 : Int32) := by decide +kernel
theorem ki_5 : Int32.ofInt (5) = (5 : Int32) := by decide +kernel
theorem kl_0 : Int64.ofNat ((0 : Fin 2) : Nat) = (0 : Int64) := by decide +kernel
theorem kl_1 : Int64.ofNat ((1 : Fin 2) : Nat) = (1 : Int64) := by decide +kernel
theorem ks_1024 : (Int16.ofInt (1024)).toInt32 = (1024 : Int32) := by decide +kernel
theorem ks_128 : (Int16.ofInt (128)).toInt32 = (128 : Int32) := by decide +kernel
theorem ks_2040 : (Int16.ofInt (2040)).toInt32 = (2040 : Int32) := by decide +kernel
theorem ks_2047 : (Int16.ofInt (2047)).toInt32 = (2047 : Int32) := by decide +kernel
theorem ks_2048 : (Int16.ofInt (2048)).toInt32 = (2048 : Int32) := by decide +kernel
theorem ks_240 : (Int16.ofInt (240)).toInt32 = (240 : Int32) := by decide +kernel
theorem ks_255 : (Int16.ofInt (255)).toInt32 = (255 : Int32) := by decide +kernel
theorem ks_256 : (Int16.ofInt (256)).toInt32 = (256 : Int32) := by decide +kernel
theorem ks_4095 : (Int16.ofInt (4095)).toInt32 = (4095 : Int32) := by decide +kernel
theorem ks_512 : (Int16.ofInt (512)).toInt32 = (512 : Int32) := by decide +kernel
theorem kc_d_15 : Cond.constant "RingMachine$Descriptor" 15 (65535 : Int32) ∈ xw_T := w_80
theorem kc_r_194 : Cond.constant "RingMachine" 194 (65536 : Int32) ∈ xw_T := w_81
theorem kc_r_87 : Cond.constant "RingMachine" 87 (65535 : Int32) ∈ xw_T := w_82
theorem kc_y_45 : Cond.constant "RingMachineModel" 45 (65536 : Int32) ∈ xw_T := w_83
theorem kc_y_73 : Cond.constant "RingMachineModel" 73 (65532 : Int32) ∈ xw_T := w_84
theorem kc_y_97 : Cond.constant "RingMachineModel" 97 (65535 : Int32) ∈ xw_T := w_85
theorem kj_l_23 : Cond.constantLong "RingMachineLaw" 23 (4294967295 : Int64) ∈ xw_T := w_86
theorem kj_y_202 : Cond.constantLong "RingMachineModel" 202 (255 : Int64) ∈ xw_T := w_87
theorem nf_0_0 : ∀ q : vw_C, vwCl[0]? = some q → (q.2.1 0).2.2.2 = false := fun q h => by cases h; rfl
theorem nf_0_1 : ∀ q : vw_C, vwCl[0]? = some q → (q.2.1 1).2.2.2 = false := fun q h => by cases h; rfl
theorem nf_0_2 : ∀ q : vw_C, vwCl[0]? = some q → (q.2.1 2).2.2.2 = false := fun q h => by cases h; rfl
theorem nf_0_3 : ∀ q : vw_C, vwCl[0]? = some q → (q.2.1 3).2.2.2 = false := fun q h => by cases h; rfl
theorem nf_0_4 : ∀ q : vw_C, vwCl[0]? = some q → (q.2.1 4).2.2.2 = false := fun q h => by cases h; rfl
theorem nf_0_5 : ∀ q : vw_C, vwCl[0]? = some q → (q.2.1 5).2.2.2 = false := fun q h => by cases h; rfl
theorem nf_0_6 : ∀ q : vw_C, vwCl[0]? = some q → (q.2.1 6).2.2.2 = false := fun q h => by cases h; rfl
theorem nf_1_0 : ∀ q : vw_C, vwCl[1]? = some q → (q.2.1 0).2.2.2 = false := fun q h => by cases h; rfl
theorem nf_1_1 : ∀ q : vw_C, vwCl[1]? = some q → (q.2.1 1).2.2.2 = false := fun q h => by cases h; rfl
theorem nf_1_2 : ∀ q : vw_C, vwCl[1]? = some q → (q.2.1 2).2.2.2 = false := fun q h => by cases h; rfl
theorem nf_2_3 : ∀ q : vw_C, vwCl[2]? = some q → (q.2.1 3).2.2.2 = false := fun q h => by cases h; rfl
theorem nf_3_10 : ∀ q : vw_C, vwCl[3]? = some q → (q.2.1 10).2.2.2 = false := fun q h => by cases h; rfl
theorem nf_3_3 : ∀ q : vw_C, vwCl[3]? = some q → (q.2.1 3).2.2.2 = false := fun q h => by cases h; rfl
theorem nf_3_4 : ∀ q : vw_C, vwCl[3]? = some q → (q.2.1 4).2.2.2 = false := fun q h => by cases h; rfl
theorem nf_3_5 : ∀ q : vw_C, vwCl[3]? = some q → (q.2.1 5).2.2.2 = false := fun q h => by cases h; rfl
theorem nf_3_6 : ∀ q : vw_C, vwCl[3]? = some q → (q.2.1 6).2.2.2 = false := fun q h => by cases h; rfl
theorem nf_3_7 : ∀ q : vw_C, vwCl[3]? = some q → (q.2.1 7).2.2.2 = false := fun q h => by cases h; rfl
theorem nf_3_8 : ∀ q : vw_C, vwCl[3]? = some q → (q.2.1 8).2.2.2 = false := fun q h => by cases h; rfl
theorem nf_3_9 : ∀ q : vw_C, vwCl[3]? = some q → (q.2.1 9).2.2.2 = false := fun q h => by cases h; rfl
theorem nf_4_10 : ∀ q : vw_C, vwCl[4]? = some q → (q.2.1 10).2.2.2 = false := fun q h => by cases h; rfl
theorem nf_4_11 : ∀ q : vw_C, vwCl[4]? = some q → (q.2.1 11).2.2.2 = false := fun q h => by cases h; rfl
theorem nf_4_12 : ∀ q : vw_C, vwCl[4]? = some q → (q.2.1 12).2.2.2 = false := fun q h => by cases h; rfl
theorem nf_4_9 : ∀ q : vw_C, vwCl[4]? = some q → (q.2.1 9).2.2.2 = false := fun q h => by cases h; rfl
theorem nf_5_0 : ∀ q : vw_C, vwCl[5]? = some q → (q.2.1 0).2.2.2 = false := fun q h => by cases h; rfl
theorem nf_5_1 : ∀ q : vw_C, vwCl[5]? = some q → (q.2.1 1).2.2.2 = false := fun q h => by cases h; rfl
theorem nf_5_10 : ∀ q : vw_C, vwCl[5]? = some q → (q.2.1 10).2.2.2 = false := fun q h => by cases h; rfl
theorem nf_5_11 : ∀ q : vw_C, vwCl[5]? = some q → (q.2.1 11).2.2.2 = false := fun q h => by cases h; rfl
theorem nf_5_12 : ∀ q : vw_C, vwCl[5]? = some q → (q.2.1 12).2.2.2 = false := fun q h => by cases h; rfl
theorem nf_5_13 : ∀ q : vw_C, vwCl[5]? = some q → (q.2.1 13).2.2.2 = false := fun q h => by cases h; rfl
theorem nf_5_14 : ∀ q : vw_C, vwCl[5]? = some q → (q.2.1 14).2.2.2 = false := fun q h => by cases h; rfl
theorem nf_5_15 : ∀ q : vw_C, vwCl[5]? = some q → (q.2.1 15).2.2.2 = false := fun q h => by cases h; rfl
theorem nf_5_16 : ∀ q : vw_C, vwCl[5]? = some q → (q.2.1 16).2.2.2 = false := fun q h => by cases h; rfl
theorem nf_5_17 : ∀ q : vw_C, vwCl[5]? = some q → (q.2.1 17).2.2.2 = false := fun q h => by cases h; rfl
theorem nf_5_18 : ∀ q : vw_C, vwCl[5]? = some q → (q.2.1 18).2.2.2 = false := fun q h => by cases h; rfl
theorem nf_5_2 : ∀ q : vw_C, vwCl[5]? = some q → (q.2.1 2).2.2.2 = false := fun q h => by cases h; rfl
theorem nf_5_3 : ∀ q : vw_C, vwCl[5]? = some q → (q.2.1 3).2.2.2 = false := fun q h => by cases h; rfl
theorem nf_5_4 : ∀ q : vw_C, vwCl[5]? = some q → (q.2.1 4).2.2.2 = false := fun q h => by cases h; rfl
theorem nf_5_5 : ∀ q : vw_C, vwCl[5]? = some q → (q.2.1 5).2.2.2 = false := fun q h => by cases h; rfl
theorem nf_5_6 : ∀ q : vw_C, vwCl[5]? = some q → (q.2.1 6).2.2.2 = false := fun q h => by cases h; rfl
theorem nf_5_7 : ∀ q : vw_C, vwCl[5]? = some q → (q.2.1 7).2.2.2 = false := fun q h => by cases h; rfl
theorem nf_5_8 : ∀ q : vw_C, vwCl[5]? = some q → (q.2.1 8).2.2.2 = false := fun q h => by cases h; rfl
theorem nf_5_9 : ∀ q : vw_C, vwCl[5]? = some q → (q.2.1 9).2.2.2 = false := fun q h => by cases h; rfl
theorem ol_d_3 : Cond.methodLink "RingMachine$Descriptor" 3 Lib.objectInit ∈ xw_T := w_88
theorem ol_x_1 : Cond.methodLink "RingMachine$Fault" 1 Lib.objectInit ∈ xw_T := w_89
theorem ol_m_3 : Cond.methodLink "RingMachine$Memory" 3 Lib.objectInit ∈ xw_T := w_90
theorem ol_g_3 : Cond.methodLink "RingMachine$Registers" 3 Lib.objectInit ∈ xw_T := w_91
theorem ol_r_1 : Cond.methodLink "RingMachine" 1 Lib.objectInit ∈ xw_T := w_92
theorem ol_y_1 : Cond.methodLink "RingMachineModel" 1 Lib.objectInit ∈ xw_T := w_93
theorem r_1_0 : xr_0 1 0 = some 2 := rfl
theorem r_1_1 : xr_0 1 1 = some 3 := rfl
theorem r_1_2 : xr_0 1 2 = some 7 := rfl
theorem r_1_3 : xr_0 1 3 = some 11 := rfl
theorem r_1_4 : xr_0 1 4 = some 13 := rfl
theorem r_1_5 : xr_0 1 5 = some 14 := rfl
theorem r_1_6 : xr_0 1 6 = some 15 := rfl
theorem r_1_7 : xr_0 1 7 = some 16 := rfl
theorem r_1_8 : xr_0 1 8 = some 17 := rfl
theorem r_11_0 : xr_0 11 0 = some 2 := rfl
theorem r_11_1 : xr_0 11 1 = some 3 := rfl
theorem r_11_2 : xr_0 11 2 = some 12 := rfl
theorem r_18_0 : xr_0 18 0 = some 19 := rfl
theorem r_18_12 : xr_0 18 12 = some 22 := rfl
theorem r_18_13 : xr_0 18 13 = some 23 := rfl
theorem r_18_14 : xr_0 18 14 = some 24 := rfl
theorem r_18_15 : xr_0 18 15 = some 25 := rfl
theorem r_18_16 : xr_0 18 16 = some 26 := rfl
theorem r_18_17 : xr_0 18 17 = some 27 := rfl
theorem r_18_18 : xr_0 18 18 = some 28 := rfl
theorem r_18_5 : xr_0 18 5 = some 20 := rfl
theorem r_18_6 : xr_0 18 6 = some 21 := rfl
theorem r_3_0 : xr_0 3 0 = some 4 := rfl
theorem r_3_1 : xr_0 3 1 = some 5 := rfl
theorem r_3_2 : xr_0 3 2 = some 6 := rfl
theorem r_7_0 : xr_0 7 0 = some 8 := rfl
theorem r_7_1 : xr_0 7 1 = some 9 := rfl
theorem r_7_2 : xr_0 7 2 = some 10 := rfl
theorem ow_i : Cond.instanceMethod Lib.objectInit ∈ xw_T := w_603
theorem ow_c : Cond.code Lib.objectInit ⟨#[0xb1]⟩ 1 none ∈ xw_T := w_604
theorem xt_a : Cond.classLink "RingMachine$Fault" 16 xt_X ∈ xw_T := w_605
theorem xt_b : Cond.initialized xt_X ∈ xw_T := w_606
theorem xt_c : Cond.instantiable xt_X 6 ∈ xw_T := w_607
theorem xt_d : ∀ a ∈ Jvm.Bundle.ownAtoms0 "RingMachine$Fault" 18 xt_X xt_up, a ∈ xw_T ∨ a ∈ xt_z := by decide +kernel
theorem xt_l : Cond.classLink "RingMachine" 95 "java/lang/IllegalStateException" ∈ xw_T := w_608
theorem xt_k : Cond.castable "java/lang/IllegalStateException" "java/lang/IllegalStateException" ∈ xw_T := w_609

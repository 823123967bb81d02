/-! methods, and what a call of each wants of the tables -/
abbrev mm_Ma_init : xM := (⟨"SequentMachine", "<init>", "()V"⟩, prog_1_method_1_code, 1, none, 3, 60)
abbrev mm_Ma_type : xM := (⟨"SequentMachine", "type", "(I)I"⟩, prog_1_method_2_code, 4, some .int, 5, 185)
abbrev mm_Ma_var : xM := (⟨"SequentMachine", "var", "(I)I"⟩, prog_1_method_3_code, 3, some .int, 5, 186)
abbrev mm_Ma_constant : xM := (⟨"SequentMachine", "constant", "(I)I"⟩, prog_1_method_4_code, 3, some .int, 5, 186)
abbrev mm_Ma_app : xM := (⟨"SequentMachine", "app", "()I"⟩, prog_1_method_5_code, 3, some .int, 5, 188)
abbrev mm_Ma_abs : xM := (⟨"SequentMachine", "abs", "()I"⟩, prog_1_method_6_code, 3, some .int, 5, 187)
abbrev mm_Ma_theorem : xM := (⟨"SequentMachine", "theorem", "(I)I"⟩, prog_1_method_7_code, 3, some .int, 6, 214)
abbrev mm_Ma_join : xM := (⟨"SequentMachine", "join", "(I)I"⟩, prog_1_method_8_code, 4, some .int, 7, 213)
abbrev mm_Ma_absThm : xM := (⟨"SequentMachine", "absThm", "()I"⟩, prog_1_method_9_code, 7, some .int, 5, 188)
abbrev mm_Ma_inst : xM := (⟨"SequentMachine", "inst", "()I"⟩, prog_1_method_10_code, 6, some .int, 5, 188)
abbrev mm_Ma_instType : xM := (⟨"SequentMachine", "instType", "(I)I"⟩, prog_1_method_11_code, 6, some .int, 5, 187)
abbrev mm_Ma_keep : xM := (⟨"SequentMachine", "keep", "(I)I"⟩, prog_1_method_12_code, 4, some .int, 4, 86)
abbrev mm_Ma_fetch : xM := (⟨"SequentMachine", "fetch", "(I)I"⟩, prog_1_method_13_code, 3, some .int, 4, 86)
abbrev mm_Ma_pop : xM := (⟨"SequentMachine", "pop", "()I"⟩, prog_1_method_14_code, 1, some .int, 3, 63)
abbrev mm_Ma_export : xM := (⟨"SequentMachine", "export", "()I"⟩, prog_1_method_15_code, 3, some .int, 3, 63)
abbrev mm_Ma_count : xM := (⟨"SequentMachine", "count", "(I)I"⟩, prog_1_method_16_code, 2, some .int, 0, 0)
abbrev mm_Ma_kind : xM := (⟨"SequentMachine", "kind", "(I)I"⟩, prog_1_method_17_code, 3, some .int, 2, 42)
abbrev mm_Ma_hypotheses : xM := (⟨"SequentMachine", "hypotheses", "(I)I"⟩, prog_1_method_18_code, 3, some .int, 2, 42)
abbrev mm_Ma_length : xM := (⟨"SequentMachine", "length", "(II)I"⟩, prog_1_method_19_code, 4, some .int, 3, 65)
abbrev mm_Ma_symbol : xM := (⟨"SequentMachine", "symbol", "(III)I"⟩, prog_1_method_20_code, 5, some .int, 3, 65)
abbrev mm_Ma_assume : xM := (⟨"SequentMachine", "assume", "(LSequentMachine$Row;)I"⟩, prog_1_method_21_code, 3, some .int, 5, 188)
abbrev mm_Ma_reduce : xM := (⟨"SequentMachine", "reduce", "(LSequentMachine$Row;)I"⟩, prog_1_method_22_code, 7, some .int, 5, 188)
abbrev mm_Ma_addAxiom : xM := (⟨"SequentMachine", "addAxiom", "(LSequentMachine$Row;)I"⟩, prog_1_method_23_code, 4, some .int, 5, 188)
abbrev mm_Ma_define : xM := (⟨"SequentMachine", "define", "(LSequentMachine$Row;)I"⟩, prog_1_method_24_code, 5, some .int, 5, 188)
abbrev mm_Ma_followEquation : xM := (⟨"SequentMachine", "followEquation", "(LSequentMachine$Item;LSequentMachine$Item;)I"⟩, prog_1_method_25_code, 4, some .int, 6, 133)
abbrev mm_Ma_applyEquations : xM := (⟨"SequentMachine", "applyEquations", "(LSequentMachine$Item;LSequentMachine$Item;)I"⟩, prog_1_method_26_code, 8, some .int, 6, 186)
abbrev mm_Ma_deduct : xM := (⟨"SequentMachine", "deduct", "(LSequentMachine$Item;LSequentMachine$Item;)I"⟩, prog_1_method_27_code, 5, some .int, 5, 186)
abbrev mm_Ma_hypothesesOfBoth : xM := (⟨"SequentMachine", "hypothesesOfBoth", "(LSequentMachine$Item;LSequentMachine$Item;)LSequentMachine$Hypotheses;"⟩, prog_1_method_28_code, 4, some (.object "SequentMachine$Hypotheses"), 5, 110)
abbrev mm_Ma_equationIn : xM := (⟨"SequentMachine", "equationIn", "(LSequentMachine$Row;)LSequentMachine$Equation;"⟩, prog_1_method_29_code, 3, some (.object "SequentMachine$Equation"), 4, 89)
abbrev mm_Ma_takesArgument : xM := (⟨"SequentMachine", "takesArgument", "(LSequentMachine$Row;LSequentMachine$Row;)Z"⟩, prog_1_method_30_code, 3, some .boolean, 4, 85)
abbrev mm_Ma_finishType : xM := (⟨"SequentMachine", "finishType", "(ILSequentMachine$Row;)I"⟩, prog_1_method_31_code, 3, some .int, 4, 86)
abbrev mm_Ma_finishTerm : xM := (⟨"SequentMachine", "finishTerm", "(ILSequentMachine$Row;)I"⟩, prog_1_method_32_code, 3, some .int, 4, 86)
abbrev mm_Ma_finishTheorem : xM := (⟨"SequentMachine", "finishTheorem", "(ILSequentMachine$Hypotheses;LSequentMachine$Row;)I"⟩, prog_1_method_33_code, 4, some .int, 4, 86)
abbrev mm_Ma_finish : xM := (⟨"SequentMachine", "finish", "(ILSequentMachine$Item;)I"⟩, prog_1_method_34_code, 4, some .int, 3, 63)
abbrev mm_Ma_finishEmptyHanded : xM := (⟨"SequentMachine", "finishEmptyHanded", "(I)I"⟩, prog_1_method_35_code, 2, some .int, 2, 42)
abbrev mm_Ma_itemBelow : xM := (⟨"SequentMachine", "itemBelow", "(II)LSequentMachine$Item;"⟩, prog_1_method_36_code, 4, some (.object "SequentMachine$Item"), 1, 21)
abbrev mm_Ma_rowBelow : xM := (⟨"SequentMachine", "rowBelow", "(II)LSequentMachine$Row;"⟩, prog_1_method_37_code, 4, some (.object "SequentMachine$Row"), 2, 44)
abbrev mm_Ma_variableBelow : xM := (⟨"SequentMachine", "variableBelow", "(I)LSequentMachine$Row;"⟩, prog_1_method_38_code, 3, some (.object "SequentMachine$Row"), 3, 67)
abbrev mm_Ma_keptFor : xM := (⟨"SequentMachine", "keptFor", "(I)LSequentMachine$Item;"⟩, prog_1_method_39_code, 2, some (.object "SequentMachine$Item"), 0, 0)
abbrev mm_Ma_itemAt : xM := (⟨"SequentMachine", "itemAt", "(I)LSequentMachine$Item;"⟩, prog_1_method_40_code, 2, some (.object "SequentMachine$Item"), 1, 21)
abbrev mm_Ma_partAt : xM := (⟨"SequentMachine", "partAt", "(II)LSequentMachine$Row;"⟩, prog_1_method_41_code, 4, some (.object "SequentMachine$Row"), 2, 42)
abbrev mm_Re_init : xM := (⟨"SequentMachineModel", "<init>", "()V"⟩, prog_10_method_1_code, 2, none, 1, 20)
abbrev mm_Re_base : xM := (⟨"SequentMachineModel", "base", "(II)I"⟩, prog_10_method_2_code, 2, some .int, 0, 0)
abbrev mm_Re_emit : xM := (⟨"SequentMachineModel", "emit", "(I)V"⟩, prog_10_method_3_code, 2, none, 0, 0)
abbrev mm_Re_emitRow : xM := (⟨"SequentMachineModel", "emitRow", "(II)V"⟩, prog_10_method_4_code, 4, none, 1, 21)
abbrev mm_Re_sameRow : xM := (⟨"SequentMachineModel", "sameRow", "(IIII)Z"⟩, prog_10_method_5_code, 7, some .boolean, 0, 0)
abbrev mm_Re_skipType : xM := (⟨"SequentMachineModel", "skipType", "(I)I"⟩, prog_10_method_6_code, 4, some .int, 0, 0)
abbrev mm_Re_skipTerm : xM := (⟨"SequentMachineModel", "skipTerm", "(I)I"⟩, prog_10_method_7_code, 5, some .int, 1, 23)
abbrev mm_Re_depth : xM := (⟨"SequentMachineModel", "depth", "(II)I"⟩, prog_10_method_8_code, 5, some .int, 2, 47)
abbrev mm_Re_typeOf : xM := (⟨"SequentMachineModel", "typeOf", "(I)I"⟩, prog_10_method_9_code, 8, some .int, 3, 68)
abbrev mm_Re_equalAt : xM := (⟨"SequentMachineModel", "equalAt", "(II)V"⟩, prog_10_method_10_code, 5, none, 2, 44)
abbrev mm_Re_isEquation : xM := (⟨"SequentMachineModel", "isEquation", "(I)Z"⟩, prog_10_method_11_code, 2, some .boolean, 0, 0)
abbrev mm_Re_left : xM := (⟨"SequentMachineModel", "left", "(I)I"⟩, prog_10_method_12_code, 2, some .int, 1, 23)
abbrev mm_Re_begin : xM := (⟨"SequentMachineModel", "begin", "()V"⟩, prog_10_method_13_code, 1, none, 0, 0)
abbrev mm_Re_part : xM := (⟨"SequentMachineModel", "part", "(II)V"⟩, prog_10_method_14_code, 6, none, 1, 21)
abbrev mm_Re_compare : xM := (⟨"SequentMachineModel", "compare", "(IIII)I"⟩, prog_10_method_15_code, 6, some .int, 0, 0)
abbrev mm_Re_hypothesis : xM := (⟨"SequentMachineModel", "hypothesis", "(I)V"⟩, prog_10_method_16_code, 5, none, 2, 49)
abbrev mm_Re_movePart : xM := (⟨"SequentMachineModel", "movePart", "(IIII)V"⟩, prog_10_method_17_code, 9, none, 1, 21)
abbrev mm_Re_copyObject : xM := (⟨"SequentMachineModel", "copyObject", "(II)V"⟩, prog_10_method_18_code, 4, none, 2, 49)
abbrev mm_Re_bring : xM := (⟨"SequentMachineModel", "bring", "(III)V"⟩, prog_10_method_19_code, 8, none, 3, 73)
abbrev mm_Re_beginEquation : xM := (⟨"SequentMachineModel", "beginEquation", "(II)V"⟩, prog_10_method_20_code, 3, none, 2, 44)
abbrev mm_Re_done : xM := (⟨"SequentMachineModel", "done", "(I)I"⟩, prog_10_method_21_code, 2, some .int, 3, 72)
abbrev mm_Re_top : xM := (⟨"SequentMachineModel", "top", "(I)I"⟩, prog_10_method_22_code, 2, some .int, 0, 0)
abbrev mm_Re_variable : xM := (⟨"SequentMachineModel", "variable", "(I)Z"⟩, prog_10_method_23_code, 2, some .boolean, 1, 21)
abbrev mm_Re_rowOf : xM := (⟨"SequentMachineModel", "rowOf", "(I)I"⟩, prog_10_method_24_code, 2, some .int, 1, 21)
abbrev mm_Re_rowEnd : xM := (⟨"SequentMachineModel", "rowEnd", "(I)I"⟩, prog_10_method_25_code, 2, some .int, 1, 21)
abbrev mm_Re_type : xM := (⟨"SequentMachineModel", "type", "(I)I"⟩, prog_10_method_26_code, 2, some .int, 4, 93)
abbrev mm_Re_leaf : xM := (⟨"SequentMachineModel", "leaf", "(II)I"⟩, prog_10_method_27_code, 3, some .int, 4, 93)
abbrev mm_Re_var : xM := (⟨"SequentMachineModel", "var", "(I)I"⟩, prog_10_method_28_code, 2, some .int, 5, 115)
abbrev mm_Re_constant : xM := (⟨"SequentMachineModel", "constant", "(I)I"⟩, prog_10_method_29_code, 2, some .int, 5, 115)
abbrev mm_Re_fits : xM := (⟨"SequentMachineModel", "fits", "(II)Z"⟩, prog_10_method_30_code, 9, some .boolean, 4, 95)
abbrev mm_Re_app : xM := (⟨"SequentMachineModel", "app", "()I"⟩, prog_10_method_31_code, 2, some .int, 5, 123)
abbrev mm_Re_stands : xM := (⟨"SequentMachineModel", "stands", "(III)Z"⟩, prog_10_method_32_code, 4, some .boolean, 1, 26)
abbrev mm_Re_emitAbs : xM := (⟨"SequentMachineModel", "emitAbs", "(IIII)V"⟩, prog_10_method_33_code, 6, none, 3, 71)
abbrev mm_Re_abs : xM := (⟨"SequentMachineModel", "abs", "()I"⟩, prog_10_method_34_code, 1, some .int, 4, 96)
abbrev mm_Re_isBool : xM := (⟨"SequentMachineModel", "isBool", "(II)Z"⟩, prog_10_method_35_code, 3, some .boolean, 0, 0)
abbrev mm_Re_theorem : xM := (⟨"SequentMachineModel", "theorem", "(I)I"⟩, prog_10_method_36_code, 7, some .int, 5, 117)
abbrev mm_Re_claim : xM := (⟨"SequentMachineModel", "claim", "(III)I"⟩, prog_10_method_37_code, 5, some .int, 4, 93)
abbrev mm_Re_define : xM := (⟨"SequentMachineModel", "define", "(II)I"⟩, prog_10_method_38_code, 4, some .int, 4, 93)
abbrev mm_Re_reduce : xM := (⟨"SequentMachineModel", "reduce", "(II)V"⟩, prog_10_method_39_code, 5, none, 3, 71)
abbrev mm_Re_closed : xM := (⟨"SequentMachineModel", "closed", "(IIII)Z"⟩, prog_10_method_40_code, 9, some .boolean, 1, 25)
abbrev mm_Re_occurs : xM := (⟨"SequentMachineModel", "occurs", "(III)Z"⟩, prog_10_method_41_code, 6, some .boolean, 0, 0)
abbrev mm_Re_join : xM := (⟨"SequentMachineModel", "join", "(I)I"⟩, prog_10_method_42_code, 9, some .int, 5, 123)
abbrev mm_Re_applied : xM := (⟨"SequentMachineModel", "applied", "(IIIII)V"⟩, prog_10_method_43_code, 7, none, 3, 66)
abbrev mm_Re_free : xM := (⟨"SequentMachineModel", "free", "(IIII)Z"⟩, prog_10_method_44_code, 6, some .boolean, 2, 49)
abbrev mm_Re_absThm : xM := (⟨"SequentMachineModel", "absThm", "()I"⟩, prog_10_method_45_code, 8, some .int, 4, 100)
abbrev mm_Re_replaced : xM := (⟨"SequentMachineModel", "replaced", "(IIIIII)V"⟩, prog_10_method_46_code, 8, none, 2, 49)
abbrev mm_Re_inst : xM := (⟨"SequentMachineModel", "inst", "()I"⟩, prog_10_method_47_code, 8, some .int, 4, 95)
abbrev mm_Re_retyped : xM := (⟨"SequentMachineModel", "retyped", "(IIIII)V"⟩, prog_10_method_48_code, 11, none, 2, 44)
abbrev mm_Re_instType : xM := (⟨"SequentMachineModel", "instType", "(I)I"⟩, prog_10_method_49_code, 6, some .int, 4, 93)
abbrev mm_Re_keep : xM := (⟨"SequentMachineModel", "keep", "(I)I"⟩, prog_10_method_50_code, 2, some .int, 3, 72)
abbrev mm_Re_fetch : xM := (⟨"SequentMachineModel", "fetch", "(I)I"⟩, prog_10_method_51_code, 2, some .int, 3, 72)
abbrev mm_Re_pop : xM := (⟨"SequentMachineModel", "pop", "()I"⟩, prog_10_method_52_code, 1, some .int, 0, 0)
abbrev mm_Re_export : xM := (⟨"SequentMachineModel", "export", "()I"⟩, prog_10_method_53_code, 1, some .int, 3, 72)
abbrev mm_Re_count : xM := (⟨"SequentMachineModel", "count", "(I)I"⟩, prog_10_method_54_code, 2, some .int, 0, 0)
abbrev mm_Re_at : xM := (⟨"SequentMachineModel", "at", "(I)I"⟩, prog_10_method_55_code, 2, some .int, 0, 0)
abbrev mm_Re_kind : xM := (⟨"SequentMachineModel", "kind", "(I)I"⟩, prog_10_method_56_code, 3, some .int, 1, 21)
abbrev mm_Re_hypotheses : xM := (⟨"SequentMachineModel", "hypotheses", "(I)I"⟩, prog_10_method_57_code, 3, some .int, 1, 21)
abbrev mm_Re_length : xM := (⟨"SequentMachineModel", "length", "(II)I"⟩, prog_10_method_58_code, 4, some .int, 1, 21)
abbrev mm_Re_symbol : xM := (⟨"SequentMachineModel", "symbol", "(III)I"⟩, prog_10_method_59_code, 6, some .int, 2, 44)
abbrev mm_De_init : xM := (⟨"SequentMachine$Depth", "<init>", "()V"⟩, prog_2_method_1_code, 1, none, 1, 20)
abbrev mm_De_begin : xM := (⟨"SequentMachine$Depth", "begin", "()V"⟩, prog_2_method_2_code, 1, none, 0, 0)
abbrev mm_De_pass : xM := (⟨"SequentMachine$Depth", "pass", "(I)V"⟩, prog_2_method_3_code, 2, none, 1, 20)
abbrev mm_Eq_init : xM := (⟨"SequentMachine$Equation", "<init>", "(LSequentMachine$Row;)V"⟩, prog_3_method_1_code, 4, none, 3, 66)
abbrev mm_Hy_init : xM := (⟨"SequentMachine$Hypotheses", "<init>", "()V"⟩, prog_4_method_1_code, 1, none, 1, 20)
abbrev mm_Hy_get : xM := (⟨"SequentMachine$Hypotheses", "get", "(I)LSequentMachine$Row;"⟩, prog_4_method_2_code, 2, some (.object "SequentMachine$Row"), 0, 0)
abbrev mm_Hy_add : xM := (⟨"SequentMachine$Hypotheses", "add", "(LSequentMachine$Row;)V"⟩, prog_4_method_3_code, 4, none, 3, 65)
abbrev mm_Hy_addAll : xM := (⟨"SequentMachine$Hypotheses", "addAll", "(LSequentMachine$Hypotheses;)V"⟩, prog_4_method_4_code, 3, none, 4, 88)
abbrev mm_Hy_addAllBut : xM := (⟨"SequentMachine$Hypotheses", "addAllBut", "(LSequentMachine$Hypotheses;LSequentMachine$Row;)V"⟩, prog_4_method_5_code, 4, none, 4, 88)
abbrev mm_Hy_haveFree : xM := (⟨"SequentMachine$Hypotheses", "haveFree", "(LSequentMachine$Row;)Z"⟩, prog_4_method_6_code, 3, some .boolean, 3, 66)
abbrev mm_Hy_areSmallEnough : xM := (⟨"SequentMachine$Hypotheses", "areSmallEnough", "()Z"⟩, prog_4_method_7_code, 2, some .boolean, 0, 0)
abbrev mm_It_init : xM := (⟨"SequentMachine$Item", "<init>", "(ILSequentMachine$Row;LSequentMachine$Hypotheses;)V"⟩, prog_5_method_1_code, 4, none, 1, 20)
abbrev mm_It_isSmallEnough : xM := (⟨"SequentMachine$Item", "isSmallEnough", "()Z"⟩, prog_5_method_2_code, 2, some .boolean, 1, 21)
abbrev mm_Ro_init : xM := (⟨"SequentMachine$Row", "<init>", "([III)V"⟩, prog_6_method_1_code, 5, none, 1, 20)
abbrev mm_Ro_at : xM := (⟨"SequentMachine$Row", "at", "(I)I"⟩, prog_6_method_2_code, 2, some .int, 0, 0)
abbrev mm_Ro_part : xM := (⟨"SequentMachine$Row", "part", "(II)LSequentMachine$Row;"⟩, prog_6_method_3_code, 3, some (.object "SequentMachine$Row"), 2, 44)
abbrev mm_Ro_typeEnd : xM := (⟨"SequentMachine$Row", "typeEnd", "(I)I"⟩, prog_6_method_4_code, 4, some .int, 1, 21)
abbrev mm_Ro_termEnd : xM := (⟨"SequentMachine$Row", "termEnd", "(I)I"⟩, prog_6_method_5_code, 5, some .int, 1, 21)
abbrev mm_Ro_typeAt : xM := (⟨"SequentMachine$Row", "typeAt", "(I)LSequentMachine$Row;"⟩, prog_6_method_6_code, 2, some (.object "SequentMachine$Row"), 2, 44)
abbrev mm_Ro_functionArgument : xM := (⟨"SequentMachine$Row", "functionArgument", "()LSequentMachine$Row;"⟩, prog_6_method_7_code, 1, some (.object "SequentMachine$Row"), 3, 65)
abbrev mm_Ro_functionResult : xM := (⟨"SequentMachine$Row", "functionResult", "()LSequentMachine$Row;"⟩, prog_6_method_8_code, 1, some (.object "SequentMachine$Row"), 2, 44)
abbrev mm_Ro_same : xM := (⟨"SequentMachine$Row", "same", "(LSequentMachine$Row;)Z"⟩, prog_6_method_9_code, 2, some .boolean, 2, 44)
abbrev mm_Ro_holdsAt : xM := (⟨"SequentMachine$Row", "holdsAt", "(ILSequentMachine$Row;)Z"⟩, prog_6_method_10_code, 4, some .boolean, 1, 21)
abbrev mm_Ro_comesBefore : xM := (⟨"SequentMachine$Row", "comesBefore", "(LSequentMachine$Row;)Z"⟩, prog_6_method_11_code, 3, some .boolean, 1, 21)
abbrev mm_Ro_hasFree : xM := (⟨"SequentMachine$Row", "hasFree", "(LSequentMachine$Row;)Z"⟩, prog_6_method_12_code, 3, some .boolean, 2, 44)
abbrev mm_Ro_hasFreeVariable : xM := (⟨"SequentMachine$Row", "hasFreeVariable", "()Z"⟩, prog_6_method_13_code, 1, some .boolean, 2, 43)
abbrev mm_Ro_has : xM := (⟨"SequentMachine$Row", "has", "(I)Z"⟩, prog_6_method_14_code, 3, some .boolean, 1, 21)
abbrev mm_Ro_typeVariablesStandIn : xM := (⟨"SequentMachine$Row", "typeVariablesStandIn", "(LSequentMachine$Row;)Z"⟩, prog_6_method_15_code, 3, some .boolean, 2, 43)
abbrev mm_Ro_isOfType : xM := (⟨"SequentMachine$Row", "isOfType", "(I)Z"⟩, prog_6_method_16_code, 3, some .boolean, 1, 21)
abbrev mm_Ro_termsWithin : xM := (⟨"SequentMachine$Row", "termsWithin", "(I)I"⟩, prog_6_method_17_code, 1, some .int, 0, 0)
abbrev mm_Sc_init : xM := (⟨"SequentMachine$Scribe", "<init>", "()V"⟩, prog_7_method_1_code, 1, none, 2, 40)
abbrev mm_Sc_simpleType : xM := (⟨"SequentMachine$Scribe", "simpleType", "(I)LSequentMachine$Row;"⟩, prog_7_method_2_code, 2, some (.object "SequentMachine$Row"), 4, 163)
abbrev mm_Sc_functionType : xM := (⟨"SequentMachine$Scribe", "functionType", "(LSequentMachine$Row;LSequentMachine$Row;)LSequentMachine$Row;"⟩, prog_7_method_3_code, 3, some (.object "SequentMachine$Row"), 4, 163)
abbrev mm_Sc_leaf : xM := (⟨"SequentMachine$Scribe", "leaf", "(IILSequentMachine$Row;)LSequentMachine$Row;"⟩, prog_7_method_4_code, 4, some (.object "SequentMachine$Row"), 4, 163)
abbrev mm_Sc_application : xM := (⟨"SequentMachine$Scribe", "application", "(LSequentMachine$Row;LSequentMachine$Row;)LSequentMachine$Row;"⟩, prog_7_method_5_code, 3, some (.object "SequentMachine$Row"), 4, 163)
abbrev mm_Sc_equation : xM := (⟨"SequentMachine$Scribe", "equation", "(LSequentMachine$Row;LSequentMachine$Row;LSequentMachine$Row;)LSequentMachine$Row;"⟩, prog_7_method_6_code, 4, some (.object "SequentMachine$Row"), 4, 163)
abbrev mm_Sc_abstraction : xM := (⟨"SequentMachine$Scribe", "abstraction", "(LSequentMachine$Row;LSequentMachine$Row;)LSequentMachine$Row;"⟩, prog_7_method_7_code, 5, some (.object "SequentMachine$Row"), 4, 163)
abbrev mm_Sc_replaceVariable : xM := (⟨"SequentMachine$Scribe", "replaceVariable", "(LSequentMachine$Row;LSequentMachine$Row;LSequentMachine$Row;)LSequentMachine$Row;"⟩, prog_7_method_8_code, 6, some (.object "SequentMachine$Row"), 4, 163)
abbrev mm_Sc_replaceOutermost : xM := (⟨"SequentMachine$Scribe", "replaceOutermost", "(LSequentMachine$Row;LSequentMachine$Row;)LSequentMachine$Row;"⟩, prog_7_method_9_code, 4, some (.object "SequentMachine$Row"), 4, 163)
abbrev mm_Sc_replaceTypeVariable : xM := (⟨"SequentMachine$Scribe", "replaceTypeVariable", "(LSequentMachine$Row;ILSequentMachine$Row;)LSequentMachine$Row;"⟩, prog_7_method_10_code, 5, some (.object "SequentMachine$Row"), 4, 163)
abbrev mm_Sc_typeOf : xM := (⟨"SequentMachine$Scribe", "typeOf", "(LSequentMachine$Row;)LSequentMachine$Row;"⟩, prog_7_method_11_code, 6, some (.object "SequentMachine$Row"), 4, 163)
abbrev mm_Sc_putLeafType : xM := (⟨"SequentMachine$Scribe", "putLeafType", "(LSequentMachine$Row;III)V"⟩, prog_7_method_12_code, 10, none, 3, 66)
abbrev mm_Sc_putEqualType : xM := (⟨"SequentMachine$Scribe", "putEqualType", "(LSequentMachine$Row;I)V"⟩, prog_7_method_13_code, 4, none, 2, 43)
abbrev mm_Sc_put : xM := (⟨"SequentMachine$Scribe", "put", "(I)V"⟩, prog_7_method_14_code, 2, none, 0, 0)
abbrev mm_Sc_putRow : xM := (⟨"SequentMachine$Scribe", "putRow", "(LSequentMachine$Row;)V"⟩, prog_7_method_15_code, 3, none, 1, 21)
abbrev mm_Sc_finishedRow : xM := (⟨"SequentMachine$Scribe", "finishedRow", "()LSequentMachine$Row;"⟩, prog_7_method_16_code, 2, some (.object "SequentMachine$Row"), 3, 142)
abbrev mm_Sh_init : xM := (⟨"SequentMachine$Shelf", "<init>", "(I)V"⟩, prog_8_method_1_code, 2, none, 1, 20)
abbrev mm_Sh_isFull : xM := (⟨"SequentMachine$Shelf", "isFull", "()Z"⟩, prog_8_method_2_code, 1, some .boolean, 0, 0)
abbrev mm_Sh_get : xM := (⟨"SequentMachine$Shelf", "get", "(I)LSequentMachine$Item;"⟩, prog_8_method_3_code, 2, some (.object "SequentMachine$Item"), 0, 0)
abbrev mm_Sh_below : xM := (⟨"SequentMachine$Shelf", "below", "(I)LSequentMachine$Item;"⟩, prog_8_method_4_code, 2, some (.object "SequentMachine$Item"), 0, 0)
abbrev mm_Sh_add : xM := (⟨"SequentMachine$Shelf", "add", "(LSequentMachine$Item;)V"⟩, prog_8_method_5_code, 2, none, 0, 0)
abbrev mm_Sh_drop : xM := (⟨"SequentMachine$Shelf", "drop", "(I)V"⟩, prog_8_method_6_code, 2, none, 1, 21)
abbrev mm_Ar_copyOf : xM := (⟨"java/util/Arrays", "copyOf", "([II)[I"⟩, prog_14_method_123_code, 3, some (.array .int), 2, 120)
abbrev mm_Mt_min : xM := (⟨"java/lang/Math", "min", "(II)I"⟩, prog_12_method_69_code, 2, some .int, 0, 0)
abbrev mm_Mt_max : xM := (⟨"java/lang/Math", "max", "(II)I"⟩, prog_12_method_65_code, 2, some .int, 0, 0)
theorem lc_Ma_init : x_cd mm_Ma_init 0 := ⟨x_at 17 (by decide +kernel) rfl, x_at 1 (by decide +kernel) rfl, by decide +kernel, by decide +kernel, by decide +kernel⟩
theorem li_Ma_init : Cond.instanceMethod mm_Ma_init.1 ∈ x_ws ∧ mm_Ma_init.1.name = "<init>" ∧ mm_Ma_init.2.2.2.1 = none := ⟨x_at 16 (by decide +kernel) rfl, rfl, rfl⟩
theorem lc_Ma_type : x_cd mm_Ma_type 1 := ⟨x_at 125 (by decide +kernel) rfl, x_at 1 (by decide +kernel) rfl, by decide +kernel, by decide +kernel, by decide +kernel⟩
theorem li_Ma_type : Cond.instanceMethod mm_Ma_type.1 ∈ x_ws ∧ Cond.selects mm_Ma_type.1.cls mm_Ma_type.1 mm_Ma_type.1 ∈ x_ws := ⟨x_at 123 (by decide +kernel) rfl, x_at 124 (by decide +kernel) rfl⟩
theorem lc_Ma_var : x_cd mm_Ma_var 1 := ⟨x_at 250 (by decide +kernel) rfl, x_at 1 (by decide +kernel) rfl, by decide +kernel, by decide +kernel, by decide +kernel⟩
theorem li_Ma_var : Cond.instanceMethod mm_Ma_var.1 ∈ x_ws ∧ Cond.selects mm_Ma_var.1.cls mm_Ma_var.1 mm_Ma_var.1 ∈ x_ws := ⟨x_at 248 (by decide +kernel) rfl, x_at 249 (by decide +kernel) rfl⟩
theorem lc_Ma_constant : x_cd mm_Ma_constant 1 := ⟨x_at 262 (by decide +kernel) rfl, x_at 1 (by decide +kernel) rfl, by decide +kernel, by decide +kernel, by decide +kernel⟩
theorem li_Ma_constant : Cond.instanceMethod mm_Ma_constant.1 ∈ x_ws ∧ Cond.selects mm_Ma_constant.1.cls mm_Ma_constant.1 mm_Ma_constant.1 ∈ x_ws := ⟨x_at 260 (by decide +kernel) rfl, x_at 261 (by decide +kernel) rfl⟩
theorem lc_Ma_app : x_cd mm_Ma_app 0 := ⟨x_at 266 (by decide +kernel) rfl, x_at 1 (by decide +kernel) rfl, by decide +kernel, by decide +kernel, by decide +kernel⟩
theorem li_Ma_app : Cond.instanceMethod mm_Ma_app.1 ∈ x_ws ∧ Cond.selects mm_Ma_app.1.cls mm_Ma_app.1 mm_Ma_app.1 ∈ x_ws := ⟨x_at 264 (by decide +kernel) rfl, x_at 265 (by decide +kernel) rfl⟩
theorem lc_Ma_abs : x_cd mm_Ma_abs 0 := ⟨x_at 319 (by decide +kernel) rfl, x_at 1 (by decide +kernel) rfl, by decide +kernel, by decide +kernel, by decide +kernel⟩
theorem li_Ma_abs : Cond.instanceMethod mm_Ma_abs.1 ∈ x_ws ∧ Cond.selects mm_Ma_abs.1.cls mm_Ma_abs.1 mm_Ma_abs.1 ∈ x_ws := ⟨x_at 317 (by decide +kernel) rfl, x_at 318 (by decide +kernel) rfl⟩
theorem lc_Ma_theorem : x_cd mm_Ma_theorem 1 := ⟨x_at 343 (by decide +kernel) rfl, x_at 1 (by decide +kernel) rfl, by decide +kernel, by decide +kernel, by decide +kernel⟩
theorem li_Ma_theorem : Cond.instanceMethod mm_Ma_theorem.1 ∈ x_ws ∧ Cond.selects mm_Ma_theorem.1.cls mm_Ma_theorem.1 mm_Ma_theorem.1 ∈ x_ws := ⟨x_at 341 (by decide +kernel) rfl, x_at 342 (by decide +kernel) rfl⟩
theorem lc_Ma_join : x_cd mm_Ma_join 1 := ⟨x_at 414 (by decide +kernel) rfl, x_at 1 (by decide +kernel) rfl, by decide +kernel, by decide +kernel, by decide +kernel⟩
theorem li_Ma_join : Cond.instanceMethod mm_Ma_join.1 ∈ x_ws ∧ Cond.selects mm_Ma_join.1.cls mm_Ma_join.1 mm_Ma_join.1 ∈ x_ws := ⟨x_at 412 (by decide +kernel) rfl, x_at 413 (by decide +kernel) rfl⟩
theorem lc_Ma_absThm : x_cd mm_Ma_absThm 0 := ⟨x_at 470 (by decide +kernel) rfl, x_at 1 (by decide +kernel) rfl, by decide +kernel, by decide +kernel, by decide +kernel⟩
theorem li_Ma_absThm : Cond.instanceMethod mm_Ma_absThm.1 ∈ x_ws ∧ Cond.selects mm_Ma_absThm.1.cls mm_Ma_absThm.1 mm_Ma_absThm.1 ∈ x_ws := ⟨x_at 468 (by decide +kernel) rfl, x_at 469 (by decide +kernel) rfl⟩
theorem lc_Ma_inst : x_cd mm_Ma_inst 0 := ⟨x_at 482 (by decide +kernel) rfl, x_at 1 (by decide +kernel) rfl, by decide +kernel, by decide +kernel, by decide +kernel⟩
theorem li_Ma_inst : Cond.instanceMethod mm_Ma_inst.1 ∈ x_ws ∧ Cond.selects mm_Ma_inst.1.cls mm_Ma_inst.1 mm_Ma_inst.1 ∈ x_ws := ⟨x_at 480 (by decide +kernel) rfl, x_at 481 (by decide +kernel) rfl⟩
theorem lc_Ma_instType : x_cd mm_Ma_instType 1 := ⟨x_at 490 (by decide +kernel) rfl, x_at 1 (by decide +kernel) rfl, by decide +kernel, by decide +kernel, by decide +kernel⟩
theorem li_Ma_instType : Cond.instanceMethod mm_Ma_instType.1 ∈ x_ws ∧ Cond.selects mm_Ma_instType.1.cls mm_Ma_instType.1 mm_Ma_instType.1 ∈ x_ws := ⟨x_at 488 (by decide +kernel) rfl, x_at 489 (by decide +kernel) rfl⟩
theorem lc_Ma_keep : x_cd mm_Ma_keep 1 := ⟨x_at 499 (by decide +kernel) rfl, x_at 1 (by decide +kernel) rfl, by decide +kernel, by decide +kernel, by decide +kernel⟩
theorem li_Ma_keep : Cond.instanceMethod mm_Ma_keep.1 ∈ x_ws ∧ Cond.selects mm_Ma_keep.1.cls mm_Ma_keep.1 mm_Ma_keep.1 ∈ x_ws := ⟨x_at 497 (by decide +kernel) rfl, x_at 498 (by decide +kernel) rfl⟩
theorem lc_Ma_fetch : x_cd mm_Ma_fetch 1 := ⟨x_at 503 (by decide +kernel) rfl, x_at 1 (by decide +kernel) rfl, by decide +kernel, by decide +kernel, by decide +kernel⟩
theorem li_Ma_fetch : Cond.instanceMethod mm_Ma_fetch.1 ∈ x_ws ∧ Cond.selects mm_Ma_fetch.1.cls mm_Ma_fetch.1 mm_Ma_fetch.1 ∈ x_ws := ⟨x_at 501 (by decide +kernel) rfl, x_at 502 (by decide +kernel) rfl⟩
theorem lc_Ma_pop : x_cd mm_Ma_pop 0 := ⟨x_at 511 (by decide +kernel) rfl, x_at 1 (by decide +kernel) rfl, by decide +kernel, by decide +kernel, by decide +kernel⟩
theorem li_Ma_pop : Cond.instanceMethod mm_Ma_pop.1 ∈ x_ws ∧ Cond.selects mm_Ma_pop.1.cls mm_Ma_pop.1 mm_Ma_pop.1 ∈ x_ws := ⟨x_at 509 (by decide +kernel) rfl, x_at 510 (by decide +kernel) rfl⟩
theorem lc_Ma_export : x_cd mm_Ma_export 0 := ⟨x_at 515 (by decide +kernel) rfl, x_at 1 (by decide +kernel) rfl, by decide +kernel, by decide +kernel, by decide +kernel⟩
theorem li_Ma_export : Cond.instanceMethod mm_Ma_export.1 ∈ x_ws ∧ Cond.selects mm_Ma_export.1.cls mm_Ma_export.1 mm_Ma_export.1 ∈ x_ws := ⟨x_at 513 (by decide +kernel) rfl, x_at 514 (by decide +kernel) rfl⟩
theorem lc_Ma_count : x_cd mm_Ma_count 1 := ⟨x_at 519 (by decide +kernel) rfl, x_at 1 (by decide +kernel) rfl, by decide +kernel, by decide +kernel, by decide +kernel⟩
theorem li_Ma_count : Cond.instanceMethod mm_Ma_count.1 ∈ x_ws ∧ Cond.selects mm_Ma_count.1.cls mm_Ma_count.1 mm_Ma_count.1 ∈ x_ws := ⟨x_at 517 (by decide +kernel) rfl, x_at 518 (by decide +kernel) rfl⟩
theorem lc_Ma_kind : x_cd mm_Ma_kind 1 := ⟨x_at 523 (by decide +kernel) rfl, x_at 1 (by decide +kernel) rfl, by decide +kernel, by decide +kernel, by decide +kernel⟩
theorem li_Ma_kind : Cond.instanceMethod mm_Ma_kind.1 ∈ x_ws ∧ Cond.selects mm_Ma_kind.1.cls mm_Ma_kind.1 mm_Ma_kind.1 ∈ x_ws := ⟨x_at 521 (by decide +kernel) rfl, x_at 522 (by decide +kernel) rfl⟩
theorem lc_Ma_hypotheses : x_cd mm_Ma_hypotheses 1 := ⟨x_at 535 (by decide +kernel) rfl, x_at 1 (by decide +kernel) rfl, by decide +kernel, by decide +kernel, by decide +kernel⟩
theorem li_Ma_hypotheses : Cond.instanceMethod mm_Ma_hypotheses.1 ∈ x_ws ∧ Cond.selects mm_Ma_hypotheses.1.cls mm_Ma_hypotheses.1 mm_Ma_hypotheses.1 ∈ x_ws := ⟨x_at 533 (by decide +kernel) rfl, x_at 534 (by decide +kernel) rfl⟩
theorem lc_Ma_length : x_cd mm_Ma_length 2 := ⟨x_at 539 (by decide +kernel) rfl, x_at 1 (by decide +kernel) rfl, by decide +kernel, by decide +kernel, by decide +kernel⟩
theorem li_Ma_length : Cond.instanceMethod mm_Ma_length.1 ∈ x_ws ∧ Cond.selects mm_Ma_length.1.cls mm_Ma_length.1 mm_Ma_length.1 ∈ x_ws := ⟨x_at 537 (by decide +kernel) rfl, x_at 538 (by decide +kernel) rfl⟩
theorem lc_Ma_symbol : x_cd mm_Ma_symbol 3 := ⟨x_at 551 (by decide +kernel) rfl, x_at 1 (by decide +kernel) rfl, by decide +kernel, by decide +kernel, by decide +kernel⟩
theorem li_Ma_symbol : Cond.instanceMethod mm_Ma_symbol.1 ∈ x_ws ∧ Cond.selects mm_Ma_symbol.1.cls mm_Ma_symbol.1 mm_Ma_symbol.1 ∈ x_ws := ⟨x_at 549 (by decide +kernel) rfl, x_at 550 (by decide +kernel) rfl⟩
theorem lc_Ma_assume : x_cd mm_Ma_assume 1 := ⟨x_at 355 (by decide +kernel) rfl, x_at 1 (by decide +kernel) rfl, by decide +kernel, by decide +kernel, by decide +kernel⟩
theorem li_Ma_assume : Cond.instanceMethod mm_Ma_assume.1 ∈ x_ws ∧ Cond.selects mm_Ma_assume.1.cls mm_Ma_assume.1 mm_Ma_assume.1 ∈ x_ws := ⟨x_at 354 (by decide +kernel) rfl, x_sel (q := (mm_Ma_assume.1, 9)) 14 (by decide +kernel)⟩
theorem lc_Ma_reduce : x_cd mm_Ma_reduce 1 := ⟨x_at 368 (by decide +kernel) rfl, x_at 1 (by decide +kernel) rfl, by decide +kernel, by decide +kernel, by decide +kernel⟩
theorem li_Ma_reduce : Cond.instanceMethod mm_Ma_reduce.1 ∈ x_ws ∧ Cond.selects mm_Ma_reduce.1.cls mm_Ma_reduce.1 mm_Ma_reduce.1 ∈ x_ws := ⟨x_at 367 (by decide +kernel) rfl, x_sel (q := (mm_Ma_reduce.1, 9)) 15 (by decide +kernel)⟩
theorem lc_Ma_addAxiom : x_cd mm_Ma_addAxiom 1 := ⟨x_at 386 (by decide +kernel) rfl, x_at 1 (by decide +kernel) rfl, by decide +kernel, by decide +kernel, by decide +kernel⟩
theorem li_Ma_addAxiom : Cond.instanceMethod mm_Ma_addAxiom.1 ∈ x_ws ∧ Cond.selects mm_Ma_addAxiom.1.cls mm_Ma_addAxiom.1 mm_Ma_addAxiom.1 ∈ x_ws := ⟨x_at 385 (by decide +kernel) rfl, x_sel (q := (mm_Ma_addAxiom.1, 9)) 16 (by decide +kernel)⟩
theorem lc_Ma_define : x_cd mm_Ma_define 1 := ⟨x_at 394 (by decide +kernel) rfl, x_at 1 (by decide +kernel) rfl, by decide +kernel, by decide +kernel, by decide +kernel⟩
theorem li_Ma_define : Cond.instanceMethod mm_Ma_define.1 ∈ x_ws ∧ Cond.selects mm_Ma_define.1.cls mm_Ma_define.1 mm_Ma_define.1 ∈ x_ws := ⟨x_at 393 (by decide +kernel) rfl, x_sel (q := (mm_Ma_define.1, 9)) 17 (by decide +kernel)⟩
theorem lc_Ma_followEquation : x_cd mm_Ma_followEquation 2 := ⟨x_at 418 (by decide +kernel) rfl, x_at 1 (by decide +kernel) rfl, by decide +kernel, by decide +kernel, by decide +kernel⟩
theorem li_Ma_followEquation : Cond.instanceMethod mm_Ma_followEquation.1 ∈ x_ws ∧ Cond.selects mm_Ma_followEquation.1.cls mm_Ma_followEquation.1 mm_Ma_followEquation.1 ∈ x_ws := ⟨x_at 417 (by decide +kernel) rfl, x_sel (q := (mm_Ma_followEquation.1, 9)) 18 (by decide +kernel)⟩
theorem lc_Ma_applyEquations : x_cd mm_Ma_applyEquations 2 := ⟨x_at 457 (by decide +kernel) rfl, x_at 1 (by decide +kernel) rfl, by decide +kernel, by decide +kernel, by decide +kernel⟩
theorem li_Ma_applyEquations : Cond.instanceMethod mm_Ma_applyEquations.1 ∈ x_ws ∧ Cond.selects mm_Ma_applyEquations.1.cls mm_Ma_applyEquations.1 mm_Ma_applyEquations.1 ∈ x_ws := ⟨x_at 456 (by decide +kernel) rfl, x_sel (q := (mm_Ma_applyEquations.1, 9)) 21 (by decide +kernel)⟩
theorem lc_Ma_deduct : x_cd mm_Ma_deduct 2 := ⟨x_at 462 (by decide +kernel) rfl, x_at 1 (by decide +kernel) rfl, by decide +kernel, by decide +kernel, by decide +kernel⟩
theorem li_Ma_deduct : Cond.instanceMethod mm_Ma_deduct.1 ∈ x_ws ∧ Cond.selects mm_Ma_deduct.1.cls mm_Ma_deduct.1 mm_Ma_deduct.1 ∈ x_ws := ⟨x_at 461 (by decide +kernel) rfl, x_sel (q := (mm_Ma_deduct.1, 9)) 22 (by decide +kernel)⟩
theorem lc_Ma_hypothesesOfBoth : x_cd mm_Ma_hypothesesOfBoth 2 := ⟨x_at 448 (by decide +kernel) rfl, x_at 1 (by decide +kernel) rfl, by decide +kernel, by decide +kernel, by decide +kernel⟩
theorem li_Ma_hypothesesOfBoth : Cond.instanceMethod mm_Ma_hypothesesOfBoth.1 ∈ x_ws ∧ Cond.selects mm_Ma_hypothesesOfBoth.1.cls mm_Ma_hypothesesOfBoth.1 mm_Ma_hypothesesOfBoth.1 ∈ x_ws := ⟨x_at 447 (by decide +kernel) rfl, x_sel (q := (mm_Ma_hypothesesOfBoth.1, 9)) 20 (by decide +kernel)⟩
theorem lc_Ma_equationIn : x_cd mm_Ma_equationIn 1 := ⟨x_at 422 (by decide +kernel) rfl, x_at 1 (by decide +kernel) rfl, by decide +kernel, by decide +kernel, by decide +kernel⟩
theorem li_Ma_equationIn : Cond.instanceMethod mm_Ma_equationIn.1 ∈ x_ws ∧ Cond.selects mm_Ma_equationIn.1.cls mm_Ma_equationIn.1 mm_Ma_equationIn.1 ∈ x_ws := ⟨x_at 421 (by decide +kernel) rfl, x_sel (q := (mm_Ma_equationIn.1, 9)) 19 (by decide +kernel)⟩
theorem lc_Ma_takesArgument : x_cd mm_Ma_takesArgument 2 := ⟨x_at 297 (by decide +kernel) rfl, x_at 1 (by decide +kernel) rfl, by decide +kernel, by decide +kernel, by decide +kernel⟩
theorem li_Ma_takesArgument : Cond.instanceMethod mm_Ma_takesArgument.1 ∈ x_ws ∧ Cond.selects mm_Ma_takesArgument.1.cls mm_Ma_takesArgument.1 mm_Ma_takesArgument.1 ∈ x_ws := ⟨x_at 296 (by decide +kernel) rfl, x_sel (q := (mm_Ma_takesArgument.1, 9)) 11 (by decide +kernel)⟩
theorem lc_Ma_finishType : x_cd mm_Ma_finishType 2 := ⟨x_at 177 (by decide +kernel) rfl, x_at 1 (by decide +kernel) rfl, by decide +kernel, by decide +kernel, by decide +kernel⟩
theorem li_Ma_finishType : Cond.instanceMethod mm_Ma_finishType.1 ∈ x_ws ∧ Cond.selects mm_Ma_finishType.1.cls mm_Ma_finishType.1 mm_Ma_finishType.1 ∈ x_ws := ⟨x_at 176 (by decide +kernel) rfl, x_sel (q := (mm_Ma_finishType.1, 9)) 2 (by decide +kernel)⟩
theorem lc_Ma_finishTerm : x_cd mm_Ma_finishTerm 2 := ⟨x_at 258 (by decide +kernel) rfl, x_at 1 (by decide +kernel) rfl, by decide +kernel, by decide +kernel, by decide +kernel⟩
theorem li_Ma_finishTerm : Cond.instanceMethod mm_Ma_finishTerm.1 ∈ x_ws ∧ Cond.selects mm_Ma_finishTerm.1.cls mm_Ma_finishTerm.1 mm_Ma_finishTerm.1 ∈ x_ws := ⟨x_at 257 (by decide +kernel) rfl, x_sel (q := (mm_Ma_finishTerm.1, 9)) 8 (by decide +kernel)⟩
theorem lc_Ma_finishTheorem : x_cd mm_Ma_finishTheorem 3 := ⟨x_at 351 (by decide +kernel) rfl, x_at 1 (by decide +kernel) rfl, by decide +kernel, by decide +kernel, by decide +kernel⟩
theorem li_Ma_finishTheorem : Cond.instanceMethod mm_Ma_finishTheorem.1 ∈ x_ws ∧ Cond.selects mm_Ma_finishTheorem.1.cls mm_Ma_finishTheorem.1 mm_Ma_finishTheorem.1 ∈ x_ws := ⟨x_at 350 (by decide +kernel) rfl, x_sel (q := (mm_Ma_finishTheorem.1, 9)) 13 (by decide +kernel)⟩
theorem lc_Ma_finish : x_cd mm_Ma_finish 2 := ⟨x_at 199 (by decide +kernel) rfl, x_at 1 (by decide +kernel) rfl, by decide +kernel, by decide +kernel, by decide +kernel⟩
theorem li_Ma_finish : Cond.instanceMethod mm_Ma_finish.1 ∈ x_ws ∧ Cond.selects mm_Ma_finish.1.cls mm_Ma_finish.1 mm_Ma_finish.1 ∈ x_ws := ⟨x_at 198 (by decide +kernel) rfl, x_sel (q := (mm_Ma_finish.1, 9)) 3 (by decide +kernel)⟩
theorem lc_Ma_finishEmptyHanded : x_cd mm_Ma_finishEmptyHanded 1 := ⟨x_at 211 (by decide +kernel) rfl, x_at 1 (by decide +kernel) rfl, by decide +kernel, by decide +kernel, by decide +kernel⟩
theorem li_Ma_finishEmptyHanded : Cond.instanceMethod mm_Ma_finishEmptyHanded.1 ∈ x_ws ∧ Cond.selects mm_Ma_finishEmptyHanded.1.cls mm_Ma_finishEmptyHanded.1 mm_Ma_finishEmptyHanded.1 ∈ x_ws := ⟨x_at 210 (by decide +kernel) rfl, x_sel (q := (mm_Ma_finishEmptyHanded.1, 9)) 4 (by decide +kernel)⟩
theorem lc_Ma_itemBelow : x_cd mm_Ma_itemBelow 2 := ⟨x_at 230 (by decide +kernel) rfl, x_at 1 (by decide +kernel) rfl, by decide +kernel, by decide +kernel, by decide +kernel⟩
theorem li_Ma_itemBelow : Cond.instanceMethod mm_Ma_itemBelow.1 ∈ x_ws ∧ Cond.selects mm_Ma_itemBelow.1.cls mm_Ma_itemBelow.1 mm_Ma_itemBelow.1 ∈ x_ws := ⟨x_at 229 (by decide +kernel) rfl, x_sel (q := (mm_Ma_itemBelow.1, 9)) 6 (by decide +kernel)⟩
theorem lc_Ma_rowBelow : x_cd mm_Ma_rowBelow 2 := ⟨x_at 226 (by decide +kernel) rfl, x_at 1 (by decide +kernel) rfl, by decide +kernel, by decide +kernel, by decide +kernel⟩
theorem li_Ma_rowBelow : Cond.instanceMethod mm_Ma_rowBelow.1 ∈ x_ws ∧ Cond.selects mm_Ma_rowBelow.1.cls mm_Ma_rowBelow.1 mm_Ma_rowBelow.1 ∈ x_ws := ⟨x_at 225 (by decide +kernel) rfl, x_sel (q := (mm_Ma_rowBelow.1, 9)) 5 (by decide +kernel)⟩
theorem lc_Ma_variableBelow : x_cd mm_Ma_variableBelow 1 := ⟨x_at 323 (by decide +kernel) rfl, x_at 1 (by decide +kernel) rfl, by decide +kernel, by decide +kernel, by decide +kernel⟩
theorem li_Ma_variableBelow : Cond.instanceMethod mm_Ma_variableBelow.1 ∈ x_ws ∧ Cond.selects mm_Ma_variableBelow.1.cls mm_Ma_variableBelow.1 mm_Ma_variableBelow.1 ∈ x_ws := ⟨x_at 322 (by decide +kernel) rfl, x_sel (q := (mm_Ma_variableBelow.1, 9)) 12 (by decide +kernel)⟩
theorem lc_Ma_keptFor : x_cd mm_Ma_keptFor 1 := ⟨x_at 507 (by decide +kernel) rfl, x_at 1 (by decide +kernel) rfl, by decide +kernel, by decide +kernel, by decide +kernel⟩
theorem li_Ma_keptFor : Cond.instanceMethod mm_Ma_keptFor.1 ∈ x_ws ∧ Cond.selects mm_Ma_keptFor.1.cls mm_Ma_keptFor.1 mm_Ma_keptFor.1 ∈ x_ws := ⟨x_at 506 (by decide +kernel) rfl, x_sel (q := (mm_Ma_keptFor.1, 9)) 23 (by decide +kernel)⟩
theorem lc_Ma_itemAt : x_cd mm_Ma_itemAt 1 := ⟨x_at 527 (by decide +kernel) rfl, x_at 1 (by decide +kernel) rfl, by decide +kernel, by decide +kernel, by decide +kernel⟩
theorem li_Ma_itemAt : Cond.instanceMethod mm_Ma_itemAt.1 ∈ x_ws ∧ Cond.selects mm_Ma_itemAt.1.cls mm_Ma_itemAt.1 mm_Ma_itemAt.1 ∈ x_ws := ⟨x_at 526 (by decide +kernel) rfl, x_sel (q := (mm_Ma_itemAt.1, 9)) 24 (by decide +kernel)⟩
theorem lc_Ma_partAt : x_cd mm_Ma_partAt 2 := ⟨x_at 543 (by decide +kernel) rfl, x_at 1 (by decide +kernel) rfl, by decide +kernel, by decide +kernel, by decide +kernel⟩
theorem li_Ma_partAt : Cond.instanceMethod mm_Ma_partAt.1 ∈ x_ws ∧ Cond.selects mm_Ma_partAt.1.cls mm_Ma_partAt.1 mm_Ma_partAt.1 ∈ x_ws := ⟨x_at 542 (by decide +kernel) rfl, x_sel (q := (mm_Ma_partAt.1, 9)) 25 (by decide +kernel)⟩
theorem lc_Re_init : x_cd mm_Re_init 0 := ⟨x_at 556 (by decide +kernel) rfl, x_at 6 (by decide +kernel) rfl, by decide +kernel, by decide +kernel, by decide +kernel⟩
theorem li_Re_init : Cond.instanceMethod mm_Re_init.1 ∈ x_ws ∧ mm_Re_init.1.name = "<init>" ∧ mm_Re_init.2.2.2.1 = none := ⟨x_at 555 (by decide +kernel) rfl, rfl, rfl⟩
theorem lc_Re_base : x_cd mm_Re_base 2 := ⟨x_at 626 (by decide +kernel) rfl, x_at 6 (by decide +kernel) rfl, by decide +kernel, by decide +kernel, by decide +kernel⟩
theorem li_Re_base : Cond.static mm_Re_base.1 ∈ x_ws := x_at 625 (by decide +kernel) rfl
theorem lc_Re_emit : x_cd mm_Re_emit 1 := ⟨x_at 619 (by decide +kernel) rfl, x_at 6 (by decide +kernel) rfl, by decide +kernel, by decide +kernel, by decide +kernel⟩
theorem li_Re_emit : Cond.instanceMethod mm_Re_emit.1 ∈ x_ws ∧ Cond.selects mm_Re_emit.1.cls mm_Re_emit.1 mm_Re_emit.1 ∈ x_ws := ⟨x_at 618 (by decide +kernel) rfl, x_sel (q := (mm_Re_emit.1, 15)) 28 (by decide +kernel)⟩
theorem lc_Re_emitRow : x_cd mm_Re_emitRow 2 := ⟨x_at 650 (by decide +kernel) rfl, x_at 6 (by decide +kernel) rfl, by decide +kernel, by decide +kernel, by decide +kernel⟩
theorem li_Re_emitRow : Cond.instanceMethod mm_Re_emitRow.1 ∈ x_ws ∧ Cond.selects mm_Re_emitRow.1.cls mm_Re_emitRow.1 mm_Re_emitRow.1 ∈ x_ws := ⟨x_at 649 (by decide +kernel) rfl, x_sel (q := (mm_Re_emitRow.1, 15)) 35 (by decide +kernel)⟩
theorem lc_Re_sameRow : x_cd mm_Re_sameRow 4 := ⟨x_at 686 (by decide +kernel) rfl, x_at 6 (by decide +kernel) rfl, by decide +kernel, by decide +kernel, by decide +kernel⟩
theorem li_Re_sameRow : Cond.instanceMethod mm_Re_sameRow.1 ∈ x_ws ∧ Cond.selects mm_Re_sameRow.1.cls mm_Re_sameRow.1 mm_Re_sameRow.1 ∈ x_ws := ⟨x_at 685 (by decide +kernel) rfl, x_sel (q := (mm_Re_sameRow.1, 15)) 41 (by decide +kernel)⟩
theorem lc_Re_skipType : x_cd mm_Re_skipType 1 := ⟨x_at 678 (by decide +kernel) rfl, x_at 6 (by decide +kernel) rfl, by decide +kernel, by decide +kernel, by decide +kernel⟩
theorem li_Re_skipType : Cond.instanceMethod mm_Re_skipType.1 ∈ x_ws ∧ Cond.selects mm_Re_skipType.1.cls mm_Re_skipType.1 mm_Re_skipType.1 ∈ x_ws := ⟨x_at 677 (by decide +kernel) rfl, x_sel (q := (mm_Re_skipType.1, 15)) 39 (by decide +kernel)⟩
theorem lc_Re_skipTerm : x_cd mm_Re_skipTerm 1 := ⟨x_at 710 (by decide +kernel) rfl, x_at 6 (by decide +kernel) rfl, by decide +kernel, by decide +kernel, by decide +kernel⟩
theorem li_Re_skipTerm : Cond.instanceMethod mm_Re_skipTerm.1 ∈ x_ws ∧ Cond.selects mm_Re_skipTerm.1.cls mm_Re_skipTerm.1 mm_Re_skipTerm.1 ∈ x_ws := ⟨x_at 709 (by decide +kernel) rfl, x_sel (q := (mm_Re_skipTerm.1, 15)) 46 (by decide +kernel)⟩
theorem lc_Re_depth : x_cd mm_Re_depth 2 := ⟨x_at 706 (by decide +kernel) rfl, x_at 6 (by decide +kernel) rfl, by decide +kernel, by decide +kernel, by decide +kernel⟩
theorem li_Re_depth : Cond.instanceMethod mm_Re_depth.1 ∈ x_ws ∧ Cond.selects mm_Re_depth.1.cls mm_Re_depth.1 mm_Re_depth.1 ∈ x_ws := ⟨x_at 705 (by decide +kernel) rfl, x_sel (q := (mm_Re_depth.1, 15)) 45 (by decide +kernel)⟩
theorem lc_Re_typeOf : x_cd mm_Re_typeOf 1 := ⟨x_at 674 (by decide +kernel) rfl, x_at 6 (by decide +kernel) rfl, by decide +kernel, by decide +kernel, by decide +kernel⟩
theorem li_Re_typeOf : Cond.instanceMethod mm_Re_typeOf.1 ∈ x_ws ∧ Cond.selects mm_Re_typeOf.1.cls mm_Re_typeOf.1 mm_Re_typeOf.1 ∈ x_ws := ⟨x_at 673 (by decide +kernel) rfl, x_sel (q := (mm_Re_typeOf.1, 15)) 38 (by decide +kernel)⟩
theorem lc_Re_equalAt : x_cd mm_Re_equalAt 2 := ⟨x_at 682 (by decide +kernel) rfl, x_at 6 (by decide +kernel) rfl, by decide +kernel, by decide +kernel, by decide +kernel⟩
theorem li_Re_equalAt : Cond.instanceMethod mm_Re_equalAt.1 ∈ x_ws ∧ Cond.selects mm_Re_equalAt.1.cls mm_Re_equalAt.1 mm_Re_equalAt.1 ∈ x_ws := ⟨x_at 681 (by decide +kernel) rfl, x_sel (q := (mm_Re_equalAt.1, 15)) 40 (by decide +kernel)⟩
theorem lc_Re_isEquation : x_cd mm_Re_isEquation 1 := ⟨x_at 762 (by decide +kernel) rfl, x_at 6 (by decide +kernel) rfl, by decide +kernel, by decide +kernel, by decide +kernel⟩
theorem li_Re_isEquation : Cond.instanceMethod mm_Re_isEquation.1 ∈ x_ws ∧ Cond.selects mm_Re_isEquation.1.cls mm_Re_isEquation.1 mm_Re_isEquation.1 ∈ x_ws := ⟨x_at 761 (by decide +kernel) rfl, x_sel (q := (mm_Re_isEquation.1, 15)) 57 (by decide +kernel)⟩
theorem lc_Re_left : x_cd mm_Re_left 1 := ⟨x_at 766 (by decide +kernel) rfl, x_at 6 (by decide +kernel) rfl, by decide +kernel, by decide +kernel, by decide +kernel⟩
theorem li_Re_left : Cond.instanceMethod mm_Re_left.1 ∈ x_ws ∧ Cond.selects mm_Re_left.1.cls mm_Re_left.1 mm_Re_left.1 ∈ x_ws := ⟨x_at 765 (by decide +kernel) rfl, x_sel (q := (mm_Re_left.1, 15)) 58 (by decide +kernel)⟩
theorem lc_Re_begin : x_cd mm_Re_begin 0 := ⟨x_at 615 (by decide +kernel) rfl, x_at 6 (by decide +kernel) rfl, by decide +kernel, by decide +kernel, by decide +kernel⟩
theorem li_Re_begin : Cond.instanceMethod mm_Re_begin.1 ∈ x_ws ∧ Cond.selects mm_Re_begin.1.cls mm_Re_begin.1 mm_Re_begin.1 ∈ x_ws := ⟨x_at 614 (by decide +kernel) rfl, x_sel (q := (mm_Re_begin.1, 15)) 27 (by decide +kernel)⟩
theorem lc_Re_part : x_cd mm_Re_part 2 := ⟨x_at 623 (by decide +kernel) rfl, x_at 6 (by decide +kernel) rfl, by decide +kernel, by decide +kernel, by decide +kernel⟩
theorem li_Re_part : Cond.instanceMethod mm_Re_part.1 ∈ x_ws ∧ Cond.selects mm_Re_part.1.cls mm_Re_part.1 mm_Re_part.1 ∈ x_ws := ⟨x_at 622 (by decide +kernel) rfl, x_sel (q := (mm_Re_part.1, 15)) 29 (by decide +kernel)⟩
theorem lc_Re_compare : x_cd mm_Re_compare 4 := ⟨x_at 730 (by decide +kernel) rfl, x_at 6 (by decide +kernel) rfl, by decide +kernel, by decide +kernel, by decide +kernel⟩
theorem li_Re_compare : Cond.instanceMethod mm_Re_compare.1 ∈ x_ws ∧ Cond.selects mm_Re_compare.1.cls mm_Re_compare.1 mm_Re_compare.1 ∈ x_ws := ⟨x_at 729 (by decide +kernel) rfl, x_sel (q := (mm_Re_compare.1, 15)) 50 (by decide +kernel)⟩
theorem lc_Re_hypothesis : x_cd mm_Re_hypothesis 1 := ⟨x_at 726 (by decide +kernel) rfl, x_at 6 (by decide +kernel) rfl, by decide +kernel, by decide +kernel, by decide +kernel⟩
theorem li_Re_hypothesis : Cond.instanceMethod mm_Re_hypothesis.1 ∈ x_ws ∧ Cond.selects mm_Re_hypothesis.1.cls mm_Re_hypothesis.1 mm_Re_hypothesis.1 ∈ x_ws := ⟨x_at 725 (by decide +kernel) rfl, x_sel (q := (mm_Re_hypothesis.1, 15)) 49 (by decide +kernel)⟩
theorem lc_Re_movePart : x_cd mm_Re_movePart 4 := ⟨x_at 638 (by decide +kernel) rfl, x_at 6 (by decide +kernel) rfl, by decide +kernel, by decide +kernel, by decide +kernel⟩
theorem li_Re_movePart : Cond.instanceMethod mm_Re_movePart.1 ∈ x_ws ∧ Cond.selects mm_Re_movePart.1.cls mm_Re_movePart.1 mm_Re_movePart.1 ∈ x_ws := ⟨x_at 637 (by decide +kernel) rfl, x_sel (q := (mm_Re_movePart.1, 15)) 32 (by decide +kernel)⟩
theorem lc_Re_copyObject : x_cd mm_Re_copyObject 2 := ⟨x_at 634 (by decide +kernel) rfl, x_at 6 (by decide +kernel) rfl, by decide +kernel, by decide +kernel, by decide +kernel⟩
theorem li_Re_copyObject : Cond.instanceMethod mm_Re_copyObject.1 ∈ x_ws ∧ Cond.selects mm_Re_copyObject.1.cls mm_Re_copyObject.1 mm_Re_copyObject.1 ∈ x_ws := ⟨x_at 633 (by decide +kernel) rfl, x_sel (q := (mm_Re_copyObject.1, 15)) 31 (by decide +kernel)⟩
theorem lc_Re_bring : x_cd mm_Re_bring 3 := ⟨x_at 758 (by decide +kernel) rfl, x_at 6 (by decide +kernel) rfl, by decide +kernel, by decide +kernel, by decide +kernel⟩
theorem li_Re_bring : Cond.instanceMethod mm_Re_bring.1 ∈ x_ws ∧ Cond.selects mm_Re_bring.1.cls mm_Re_bring.1 mm_Re_bring.1 ∈ x_ws := ⟨x_at 757 (by decide +kernel) rfl, x_sel (q := (mm_Re_bring.1, 15)) 56 (by decide +kernel)⟩
theorem lc_Re_beginEquation : x_cd mm_Re_beginEquation 2 := ⟨x_at 742 (by decide +kernel) rfl, x_at 6 (by decide +kernel) rfl, by decide +kernel, by decide +kernel, by decide +kernel⟩
theorem li_Re_beginEquation : Cond.instanceMethod mm_Re_beginEquation.1 ∈ x_ws ∧ Cond.selects mm_Re_beginEquation.1.cls mm_Re_beginEquation.1 mm_Re_beginEquation.1 ∈ x_ws := ⟨x_at 741 (by decide +kernel) rfl, x_sel (q := (mm_Re_beginEquation.1, 15)) 53 (by decide +kernel)⟩
theorem lc_Re_done : x_cd mm_Re_done 1 := ⟨x_at 630 (by decide +kernel) rfl, x_at 6 (by decide +kernel) rfl, by decide +kernel, by decide +kernel, by decide +kernel⟩
theorem li_Re_done : Cond.instanceMethod mm_Re_done.1 ∈ x_ws ∧ Cond.selects mm_Re_done.1.cls mm_Re_done.1 mm_Re_done.1 ∈ x_ws := ⟨x_at 629 (by decide +kernel) rfl, x_sel (q := (mm_Re_done.1, 15)) 30 (by decide +kernel)⟩
theorem lc_Re_top : x_cd mm_Re_top 1 := ⟨x_at 611 (by decide +kernel) rfl, x_at 6 (by decide +kernel) rfl, by decide +kernel, by decide +kernel, by decide +kernel⟩
theorem li_Re_top : Cond.instanceMethod mm_Re_top.1 ∈ x_ws ∧ Cond.selects mm_Re_top.1.cls mm_Re_top.1 mm_Re_top.1 ∈ x_ws := ⟨x_at 610 (by decide +kernel) rfl, x_sel (q := (mm_Re_top.1, 15)) 26 (by decide +kernel)⟩
theorem lc_Re_variable : x_cd mm_Re_variable 1 := ⟨x_at 694 (by decide +kernel) rfl, x_at 6 (by decide +kernel) rfl, by decide +kernel, by decide +kernel, by decide +kernel⟩
theorem li_Re_variable : Cond.instanceMethod mm_Re_variable.1 ∈ x_ws ∧ Cond.selects mm_Re_variable.1.cls mm_Re_variable.1 mm_Re_variable.1 ∈ x_ws := ⟨x_at 693 (by decide +kernel) rfl, x_sel (q := (mm_Re_variable.1, 15)) 42 (by decide +kernel)⟩
theorem lc_Re_rowOf : x_cd mm_Re_rowOf 1 := ⟨x_at 642 (by decide +kernel) rfl, x_at 6 (by decide +kernel) rfl, by decide +kernel, by decide +kernel, by decide +kernel⟩
theorem li_Re_rowOf : Cond.instanceMethod mm_Re_rowOf.1 ∈ x_ws ∧ Cond.selects mm_Re_rowOf.1.cls mm_Re_rowOf.1 mm_Re_rowOf.1 ∈ x_ws := ⟨x_at 641 (by decide +kernel) rfl, x_sel (q := (mm_Re_rowOf.1, 15)) 33 (by decide +kernel)⟩
theorem lc_Re_rowEnd : x_cd mm_Re_rowEnd 1 := ⟨x_at 646 (by decide +kernel) rfl, x_at 6 (by decide +kernel) rfl, by decide +kernel, by decide +kernel, by decide +kernel⟩
theorem li_Re_rowEnd : Cond.instanceMethod mm_Re_rowEnd.1 ∈ x_ws ∧ Cond.selects mm_Re_rowEnd.1.cls mm_Re_rowEnd.1 mm_Re_rowEnd.1 ∈ x_ws := ⟨x_at 645 (by decide +kernel) rfl, x_sel (q := (mm_Re_rowEnd.1, 15)) 34 (by decide +kernel)⟩
theorem lc_Re_type : x_cd mm_Re_type 1 := ⟨x_at 607 (by decide +kernel) rfl, x_at 6 (by decide +kernel) rfl, by decide +kernel, by decide +kernel, by decide +kernel⟩
theorem li_Re_type : Cond.instanceMethod mm_Re_type.1 ∈ x_ws ∧ Cond.selects mm_Re_type.1.cls mm_Re_type.1 mm_Re_type.1 ∈ x_ws := ⟨x_at 605 (by decide +kernel) rfl, x_at 606 (by decide +kernel) rfl⟩
theorem lc_Re_leaf : x_cd mm_Re_leaf 2 := ⟨x_at 658 (by decide +kernel) rfl, x_at 6 (by decide +kernel) rfl, by decide +kernel, by decide +kernel, by decide +kernel⟩
theorem li_Re_leaf : Cond.instanceMethod mm_Re_leaf.1 ∈ x_ws ∧ Cond.selects mm_Re_leaf.1.cls mm_Re_leaf.1 mm_Re_leaf.1 ∈ x_ws := ⟨x_at 657 (by decide +kernel) rfl, x_sel (q := (mm_Re_leaf.1, 15)) 36 (by decide +kernel)⟩
theorem lc_Re_var : x_cd mm_Re_var 1 := ⟨x_at 654 (by decide +kernel) rfl, x_at 6 (by decide +kernel) rfl, by decide +kernel, by decide +kernel, by decide +kernel⟩
theorem li_Re_var : Cond.instanceMethod mm_Re_var.1 ∈ x_ws ∧ Cond.selects mm_Re_var.1.cls mm_Re_var.1 mm_Re_var.1 ∈ x_ws := ⟨x_at 652 (by decide +kernel) rfl, x_at 653 (by decide +kernel) rfl⟩
theorem lc_Re_constant : x_cd mm_Re_constant 1 := ⟨x_at 662 (by decide +kernel) rfl, x_at 6 (by decide +kernel) rfl, by decide +kernel, by decide +kernel, by decide +kernel⟩
theorem li_Re_constant : Cond.instanceMethod mm_Re_constant.1 ∈ x_ws ∧ Cond.selects mm_Re_constant.1.cls mm_Re_constant.1 mm_Re_constant.1 ∈ x_ws := ⟨x_at 660 (by decide +kernel) rfl, x_at 661 (by decide +kernel) rfl⟩
theorem lc_Re_fits : x_cd mm_Re_fits 2 := ⟨x_at 670 (by decide +kernel) rfl, x_at 6 (by decide +kernel) rfl, by decide +kernel, by decide +kernel, by decide +kernel⟩
theorem li_Re_fits : Cond.instanceMethod mm_Re_fits.1 ∈ x_ws ∧ Cond.selects mm_Re_fits.1.cls mm_Re_fits.1 mm_Re_fits.1 ∈ x_ws := ⟨x_at 669 (by decide +kernel) rfl, x_sel (q := (mm_Re_fits.1, 15)) 37 (by decide +kernel)⟩
theorem lc_Re_app : x_cd mm_Re_app 0 := ⟨x_at 666 (by decide +kernel) rfl, x_at 6 (by decide +kernel) rfl, by decide +kernel, by decide +kernel, by decide +kernel⟩
theorem li_Re_app : Cond.instanceMethod mm_Re_app.1 ∈ x_ws ∧ Cond.selects mm_Re_app.1.cls mm_Re_app.1 mm_Re_app.1 ∈ x_ws := ⟨x_at 664 (by decide +kernel) rfl, x_at 665 (by decide +kernel) rfl⟩
theorem lc_Re_stands : x_cd mm_Re_stands 3 := ⟨x_at 702 (by decide +kernel) rfl, x_at 6 (by decide +kernel) rfl, by decide +kernel, by decide +kernel, by decide +kernel⟩
theorem li_Re_stands : Cond.instanceMethod mm_Re_stands.1 ∈ x_ws ∧ Cond.selects mm_Re_stands.1.cls mm_Re_stands.1 mm_Re_stands.1 ∈ x_ws := ⟨x_at 701 (by decide +kernel) rfl, x_sel (q := (mm_Re_stands.1, 15)) 44 (by decide +kernel)⟩
theorem lc_Re_emitAbs : x_cd mm_Re_emitAbs 4 := ⟨x_at 698 (by decide +kernel) rfl, x_at 6 (by decide +kernel) rfl, by decide +kernel, by decide +kernel, by decide +kernel⟩
theorem li_Re_emitAbs : Cond.instanceMethod mm_Re_emitAbs.1 ∈ x_ws ∧ Cond.selects mm_Re_emitAbs.1.cls mm_Re_emitAbs.1 mm_Re_emitAbs.1 ∈ x_ws := ⟨x_at 697 (by decide +kernel) rfl, x_sel (q := (mm_Re_emitAbs.1, 15)) 43 (by decide +kernel)⟩
theorem lc_Re_abs : x_cd mm_Re_abs 0 := ⟨x_at 690 (by decide +kernel) rfl, x_at 6 (by decide +kernel) rfl, by decide +kernel, by decide +kernel, by decide +kernel⟩
theorem li_Re_abs : Cond.instanceMethod mm_Re_abs.1 ∈ x_ws ∧ Cond.selects mm_Re_abs.1.cls mm_Re_abs.1 mm_Re_abs.1 ∈ x_ws := ⟨x_at 688 (by decide +kernel) rfl, x_at 689 (by decide +kernel) rfl⟩
theorem lc_Re_isBool : x_cd mm_Re_isBool 2 := ⟨x_at 718 (by decide +kernel) rfl, x_at 6 (by decide +kernel) rfl, by decide +kernel, by decide +kernel, by decide +kernel⟩
theorem li_Re_isBool : Cond.instanceMethod mm_Re_isBool.1 ∈ x_ws ∧ Cond.selects mm_Re_isBool.1.cls mm_Re_isBool.1 mm_Re_isBool.1 ∈ x_ws := ⟨x_at 717 (by decide +kernel) rfl, x_sel (q := (mm_Re_isBool.1, 15)) 47 (by decide +kernel)⟩
theorem lc_Re_theorem : x_cd mm_Re_theorem 1 := ⟨x_at 714 (by decide +kernel) rfl, x_at 6 (by decide +kernel) rfl, by decide +kernel, by decide +kernel, by decide +kernel⟩
theorem li_Re_theorem : Cond.instanceMethod mm_Re_theorem.1 ∈ x_ws ∧ Cond.selects mm_Re_theorem.1.cls mm_Re_theorem.1 mm_Re_theorem.1 ∈ x_ws := ⟨x_at 712 (by decide +kernel) rfl, x_at 713 (by decide +kernel) rfl⟩
theorem lc_Re_claim : x_cd mm_Re_claim 3 := ⟨x_at 722 (by decide +kernel) rfl, x_at 6 (by decide +kernel) rfl, by decide +kernel, by decide +kernel, by decide +kernel⟩
theorem li_Re_claim : Cond.instanceMethod mm_Re_claim.1 ∈ x_ws ∧ Cond.selects mm_Re_claim.1.cls mm_Re_claim.1 mm_Re_claim.1 ∈ x_ws := ⟨x_at 721 (by decide +kernel) rfl, x_sel (q := (mm_Re_claim.1, 15)) 48 (by decide +kernel)⟩
theorem lc_Re_define : x_cd mm_Re_define 2 := ⟨x_at 750 (by decide +kernel) rfl, x_at 6 (by decide +kernel) rfl, by decide +kernel, by decide +kernel, by decide +kernel⟩
theorem li_Re_define : Cond.instanceMethod mm_Re_define.1 ∈ x_ws ∧ Cond.selects mm_Re_define.1.cls mm_Re_define.1 mm_Re_define.1 ∈ x_ws := ⟨x_at 749 (by decide +kernel) rfl, x_sel (q := (mm_Re_define.1, 15)) 55 (by decide +kernel)⟩
theorem lc_Re_reduce : x_cd mm_Re_reduce 2 := ⟨x_at 746 (by decide +kernel) rfl, x_at 6 (by decide +kernel) rfl, by decide +kernel, by decide +kernel, by decide +kernel⟩
theorem li_Re_reduce : Cond.instanceMethod mm_Re_reduce.1 ∈ x_ws ∧ Cond.selects mm_Re_reduce.1.cls mm_Re_reduce.1 mm_Re_reduce.1 ∈ x_ws := ⟨x_at 745 (by decide +kernel) rfl, x_sel (q := (mm_Re_reduce.1, 15)) 54 (by decide +kernel)⟩
theorem lc_Re_closed : x_cd mm_Re_closed 4 := ⟨x_at 734 (by decide +kernel) rfl, x_at 6 (by decide +kernel) rfl, by decide +kernel, by decide +kernel, by decide +kernel⟩
theorem li_Re_closed : Cond.instanceMethod mm_Re_closed.1 ∈ x_ws ∧ Cond.selects mm_Re_closed.1.cls mm_Re_closed.1 mm_Re_closed.1 ∈ x_ws := ⟨x_at 733 (by decide +kernel) rfl, x_sel (q := (mm_Re_closed.1, 15)) 51 (by decide +kernel)⟩
theorem lc_Re_occurs : x_cd mm_Re_occurs 3 := ⟨x_at 738 (by decide +kernel) rfl, x_at 6 (by decide +kernel) rfl, by decide +kernel, by decide +kernel, by decide +kernel⟩
theorem li_Re_occurs : Cond.instanceMethod mm_Re_occurs.1 ∈ x_ws ∧ Cond.selects mm_Re_occurs.1.cls mm_Re_occurs.1 mm_Re_occurs.1 ∈ x_ws := ⟨x_at 737 (by decide +kernel) rfl, x_sel (q := (mm_Re_occurs.1, 15)) 52 (by decide +kernel)⟩
theorem lc_Re_join : x_cd mm_Re_join 1 := ⟨x_at 754 (by decide +kernel) rfl, x_at 6 (by decide +kernel) rfl, by decide +kernel, by decide +kernel, by decide +kernel⟩
theorem li_Re_join : Cond.instanceMethod mm_Re_join.1 ∈ x_ws ∧ Cond.selects mm_Re_join.1.cls mm_Re_join.1 mm_Re_join.1 ∈ x_ws := ⟨x_at 752 (by decide +kernel) rfl, x_at 753 (by decide +kernel) rfl⟩
theorem lc_Re_applied : x_cd mm_Re_applied 5 := ⟨x_at 770 (by decide +kernel) rfl, x_at 6 (by decide +kernel) rfl, by decide +kernel, by decide +kernel, by decide +kernel⟩
theorem li_Re_applied : Cond.instanceMethod mm_Re_applied.1 ∈ x_ws ∧ Cond.selects mm_Re_applied.1.cls mm_Re_applied.1 mm_Re_applied.1 ∈ x_ws := ⟨x_at 769 (by decide +kernel) rfl, x_sel (q := (mm_Re_applied.1, 15)) 59 (by decide +kernel)⟩
theorem lc_Re_free : x_cd mm_Re_free 4 := ⟨x_at 778 (by decide +kernel) rfl, x_at 6 (by decide +kernel) rfl, by decide +kernel, by decide +kernel, by decide +kernel⟩
theorem li_Re_free : Cond.instanceMethod mm_Re_free.1 ∈ x_ws ∧ Cond.selects mm_Re_free.1.cls mm_Re_free.1 mm_Re_free.1 ∈ x_ws := ⟨x_at 777 (by decide +kernel) rfl, x_sel (q := (mm_Re_free.1, 15)) 60 (by decide +kernel)⟩
theorem lc_Re_absThm : x_cd mm_Re_absThm 0 := ⟨x_at 774 (by decide +kernel) rfl, x_at 6 (by decide +kernel) rfl, by decide +kernel, by decide +kernel, by decide +kernel⟩
theorem li_Re_absThm : Cond.instanceMethod mm_Re_absThm.1 ∈ x_ws ∧ Cond.selects mm_Re_absThm.1.cls mm_Re_absThm.1 mm_Re_absThm.1 ∈ x_ws := ⟨x_at 772 (by decide +kernel) rfl, x_at 773 (by decide +kernel) rfl⟩
theorem lc_Re_replaced : x_cd mm_Re_replaced 6 := ⟨x_at 786 (by decide +kernel) rfl, x_at 6 (by decide +kernel) rfl, by decide +kernel, by decide +kernel, by decide +kernel⟩
theorem li_Re_replaced : Cond.instanceMethod mm_Re_replaced.1 ∈ x_ws ∧ Cond.selects mm_Re_replaced.1.cls mm_Re_replaced.1 mm_Re_replaced.1 ∈ x_ws := ⟨x_at 785 (by decide +kernel) rfl, x_sel (q := (mm_Re_replaced.1, 15)) 61 (by decide +kernel)⟩
theorem lc_Re_inst : x_cd mm_Re_inst 0 := ⟨x_at 782 (by decide +kernel) rfl, x_at 6 (by decide +kernel) rfl, by decide +kernel, by decide +kernel, by decide +kernel⟩
theorem li_Re_inst : Cond.instanceMethod mm_Re_inst.1 ∈ x_ws ∧ Cond.selects mm_Re_inst.1.cls mm_Re_inst.1 mm_Re_inst.1 ∈ x_ws := ⟨x_at 780 (by decide +kernel) rfl, x_at 781 (by decide +kernel) rfl⟩
theorem lc_Re_retyped : x_cd mm_Re_retyped 5 := ⟨x_at 794 (by decide +kernel) rfl, x_at 6 (by decide +kernel) rfl, by decide +kernel, by decide +kernel, by decide +kernel⟩
theorem li_Re_retyped : Cond.instanceMethod mm_Re_retyped.1 ∈ x_ws ∧ Cond.selects mm_Re_retyped.1.cls mm_Re_retyped.1 mm_Re_retyped.1 ∈ x_ws := ⟨x_at 793 (by decide +kernel) rfl, x_sel (q := (mm_Re_retyped.1, 15)) 62 (by decide +kernel)⟩
theorem lc_Re_instType : x_cd mm_Re_instType 1 := ⟨x_at 790 (by decide +kernel) rfl, x_at 6 (by decide +kernel) rfl, by decide +kernel, by decide +kernel, by decide +kernel⟩
theorem li_Re_instType : Cond.instanceMethod mm_Re_instType.1 ∈ x_ws ∧ Cond.selects mm_Re_instType.1.cls mm_Re_instType.1 mm_Re_instType.1 ∈ x_ws := ⟨x_at 788 (by decide +kernel) rfl, x_at 789 (by decide +kernel) rfl⟩
theorem lc_Re_keep : x_cd mm_Re_keep 1 := ⟨x_at 798 (by decide +kernel) rfl, x_at 6 (by decide +kernel) rfl, by decide +kernel, by decide +kernel, by decide +kernel⟩
theorem li_Re_keep : Cond.instanceMethod mm_Re_keep.1 ∈ x_ws ∧ Cond.selects mm_Re_keep.1.cls mm_Re_keep.1 mm_Re_keep.1 ∈ x_ws := ⟨x_at 796 (by decide +kernel) rfl, x_at 797 (by decide +kernel) rfl⟩
theorem lc_Re_fetch : x_cd mm_Re_fetch 1 := ⟨x_at 802 (by decide +kernel) rfl, x_at 6 (by decide +kernel) rfl, by decide +kernel, by decide +kernel, by decide +kernel⟩
theorem li_Re_fetch : Cond.instanceMethod mm_Re_fetch.1 ∈ x_ws ∧ Cond.selects mm_Re_fetch.1.cls mm_Re_fetch.1 mm_Re_fetch.1 ∈ x_ws := ⟨x_at 800 (by decide +kernel) rfl, x_at 801 (by decide +kernel) rfl⟩
theorem lc_Re_pop : x_cd mm_Re_pop 0 := ⟨x_at 806 (by decide +kernel) rfl, x_at 6 (by decide +kernel) rfl, by decide +kernel, by decide +kernel, by decide +kernel⟩
theorem li_Re_pop : Cond.instanceMethod mm_Re_pop.1 ∈ x_ws ∧ Cond.selects mm_Re_pop.1.cls mm_Re_pop.1 mm_Re_pop.1 ∈ x_ws := ⟨x_at 804 (by decide +kernel) rfl, x_at 805 (by decide +kernel) rfl⟩
theorem lc_Re_export : x_cd mm_Re_export 0 := ⟨x_at 810 (by decide +kernel) rfl, x_at 6 (by decide +kernel) rfl, by decide +kernel, by decide +kernel, by decide +kernel⟩
theorem li_Re_export : Cond.instanceMethod mm_Re_export.1 ∈ x_ws ∧ Cond.selects mm_Re_export.1.cls mm_Re_export.1 mm_Re_export.1 ∈ x_ws := ⟨x_at 808 (by decide +kernel) rfl, x_at 809 (by decide +kernel) rfl⟩
theorem lc_Re_count : x_cd mm_Re_count 1 := ⟨x_at 814 (by decide +kernel) rfl, x_at 6 (by decide +kernel) rfl, by decide +kernel, by decide +kernel, by decide +kernel⟩
theorem li_Re_count : Cond.instanceMethod mm_Re_count.1 ∈ x_ws ∧ Cond.selects mm_Re_count.1.cls mm_Re_count.1 mm_Re_count.1 ∈ x_ws := ⟨x_at 812 (by decide +kernel) rfl, x_at 813 (by decide +kernel) rfl⟩
theorem lc_Re_at : x_cd mm_Re_at 1 := ⟨x_at 822 (by decide +kernel) rfl, x_at 6 (by decide +kernel) rfl, by decide +kernel, by decide +kernel, by decide +kernel⟩
theorem li_Re_at : Cond.instanceMethod mm_Re_at.1 ∈ x_ws ∧ Cond.selects mm_Re_at.1.cls mm_Re_at.1 mm_Re_at.1 ∈ x_ws := ⟨x_at 821 (by decide +kernel) rfl, x_sel (q := (mm_Re_at.1, 15)) 63 (by decide +kernel)⟩
theorem lc_Re_kind : x_cd mm_Re_kind 1 := ⟨x_at 818 (by decide +kernel) rfl, x_at 6 (by decide +kernel) rfl, by decide +kernel, by decide +kernel, by decide +kernel⟩
theorem li_Re_kind : Cond.instanceMethod mm_Re_kind.1 ∈ x_ws ∧ Cond.selects mm_Re_kind.1.cls mm_Re_kind.1 mm_Re_kind.1 ∈ x_ws := ⟨x_at 816 (by decide +kernel) rfl, x_at 817 (by decide +kernel) rfl⟩
theorem lc_Re_hypotheses : x_cd mm_Re_hypotheses 1 := ⟨x_at 826 (by decide +kernel) rfl, x_at 6 (by decide +kernel) rfl, by decide +kernel, by decide +kernel, by decide +kernel⟩
theorem li_Re_hypotheses : Cond.instanceMethod mm_Re_hypotheses.1 ∈ x_ws ∧ Cond.selects mm_Re_hypotheses.1.cls mm_Re_hypotheses.1 mm_Re_hypotheses.1 ∈ x_ws := ⟨x_at 824 (by decide +kernel) rfl, x_at 825 (by decide +kernel) rfl⟩
theorem lc_Re_length : x_cd mm_Re_length 2 := ⟨x_at 830 (by decide +kernel) rfl, x_at 6 (by decide +kernel) rfl, by decide +kernel, by decide +kernel, by decide +kernel⟩
theorem li_Re_length : Cond.instanceMethod mm_Re_length.1 ∈ x_ws ∧ Cond.selects mm_Re_length.1.cls mm_Re_length.1 mm_Re_length.1 ∈ x_ws := ⟨x_at 828 (by decide +kernel) rfl, x_at 829 (by decide +kernel) rfl⟩
theorem lc_Re_symbol : x_cd mm_Re_symbol 3 := ⟨x_at 834 (by decide +kernel) rfl, x_at 6 (by decide +kernel) rfl, by decide +kernel, by decide +kernel, by decide +kernel⟩
theorem li_Re_symbol : Cond.instanceMethod mm_Re_symbol.1 ∈ x_ws ∧ Cond.selects mm_Re_symbol.1.cls mm_Re_symbol.1 mm_Re_symbol.1 ∈ x_ws := ⟨x_at 832 (by decide +kernel) rfl, x_at 833 (by decide +kernel) rfl⟩
theorem lc_De_init : x_cd mm_De_init 0 := ⟨x_at 31 (by decide +kernel) rfl, x_at 3 (by decide +kernel) rfl, by decide +kernel, by decide +kernel, by decide +kernel⟩
theorem li_De_init : Cond.instanceMethod mm_De_init.1 ∈ x_ws ∧ mm_De_init.1.name = "<init>" ∧ mm_De_init.2.2.2.1 = none := ⟨x_at 30 (by decide +kernel) rfl, rfl, rfl⟩
theorem lc_De_begin : x_cd mm_De_begin 0 := ⟨x_at 331 (by decide +kernel) rfl, x_at 3 (by decide +kernel) rfl, by decide +kernel, by decide +kernel, by decide +kernel⟩
theorem li_De_begin : Cond.instanceMethod mm_De_begin.1 ∈ x_ws ∧ Cond.selects mm_De_begin.1.cls mm_De_begin.1 mm_De_begin.1 ∈ x_ws := ⟨x_at 329 (by decide +kernel) rfl, x_at 330 (by decide +kernel) rfl⟩
theorem lc_De_pass : x_cd mm_De_pass 1 := ⟨x_at 335 (by decide +kernel) rfl, x_at 3 (by decide +kernel) rfl, by decide +kernel, by decide +kernel, by decide +kernel⟩
theorem li_De_pass : Cond.instanceMethod mm_De_pass.1 ∈ x_ws ∧ Cond.selects mm_De_pass.1.cls mm_De_pass.1 mm_De_pass.1 ∈ x_ws := ⟨x_at 333 (by decide +kernel) rfl, x_at 334 (by decide +kernel) rfl⟩
theorem lc_Eq_init : x_cd mm_Eq_init 1 := ⟨x_at 427 (by decide +kernel) rfl, x_at 12 (by decide +kernel) rfl, by decide +kernel, by decide +kernel, by decide +kernel⟩
theorem li_Eq_init : Cond.instanceMethod mm_Eq_init.1 ∈ x_ws ∧ mm_Eq_init.1.name = "<init>" ∧ mm_Eq_init.2.2.2.1 = none := ⟨x_at 426 (by decide +kernel) rfl, rfl, rfl⟩
theorem lc_Hy_init : x_cd mm_Hy_init 0 := ⟨x_at 82 (by decide +kernel) rfl, x_at 5 (by decide +kernel) rfl, by decide +kernel, by decide +kernel, by decide +kernel⟩
theorem li_Hy_init : Cond.instanceMethod mm_Hy_init.1 ∈ x_ws ∧ mm_Hy_init.1.name = "<init>" ∧ mm_Hy_init.2.2.2.1 = none := ⟨x_at 81 (by decide +kernel) rfl, rfl, rfl⟩
theorem lc_Hy_get : x_cd mm_Hy_get 1 := ⟨x_at 547 (by decide +kernel) rfl, x_at 5 (by decide +kernel) rfl, by decide +kernel, by decide +kernel, by decide +kernel⟩
theorem li_Hy_get : Cond.instanceMethod mm_Hy_get.1 ∈ x_ws ∧ Cond.selects mm_Hy_get.1.cls mm_Hy_get.1 mm_Hy_get.1 ∈ x_ws := ⟨x_at 545 (by decide +kernel) rfl, x_at 546 (by decide +kernel) rfl⟩
theorem lc_Hy_add : x_cd mm_Hy_add 1 := ⟨x_at 359 (by decide +kernel) rfl, x_at 5 (by decide +kernel) rfl, by decide +kernel, by decide +kernel, by decide +kernel⟩
theorem li_Hy_add : Cond.instanceMethod mm_Hy_add.1 ∈ x_ws ∧ Cond.selects mm_Hy_add.1.cls mm_Hy_add.1 mm_Hy_add.1 ∈ x_ws := ⟨x_at 357 (by decide +kernel) rfl, x_at 358 (by decide +kernel) rfl⟩
theorem lc_Hy_addAll : x_cd mm_Hy_addAll 1 := ⟨x_at 452 (by decide +kernel) rfl, x_at 5 (by decide +kernel) rfl, by decide +kernel, by decide +kernel, by decide +kernel⟩
theorem li_Hy_addAll : Cond.instanceMethod mm_Hy_addAll.1 ∈ x_ws ∧ Cond.selects mm_Hy_addAll.1.cls mm_Hy_addAll.1 mm_Hy_addAll.1 ∈ x_ws := ⟨x_at 450 (by decide +kernel) rfl, x_at 451 (by decide +kernel) rfl⟩
theorem lc_Hy_addAllBut : x_cd mm_Hy_addAllBut 2 := ⟨x_at 466 (by decide +kernel) rfl, x_at 5 (by decide +kernel) rfl, by decide +kernel, by decide +kernel, by decide +kernel⟩
theorem li_Hy_addAllBut : Cond.instanceMethod mm_Hy_addAllBut.1 ∈ x_ws ∧ Cond.selects mm_Hy_addAllBut.1.cls mm_Hy_addAllBut.1 mm_Hy_addAllBut.1 ∈ x_ws := ⟨x_at 464 (by decide +kernel) rfl, x_at 465 (by decide +kernel) rfl⟩
theorem lc_Hy_haveFree : x_cd mm_Hy_haveFree 1 := ⟨x_at 474 (by decide +kernel) rfl, x_at 5 (by decide +kernel) rfl, by decide +kernel, by decide +kernel, by decide +kernel⟩
theorem li_Hy_haveFree : Cond.instanceMethod mm_Hy_haveFree.1 ∈ x_ws ∧ Cond.selects mm_Hy_haveFree.1.cls mm_Hy_haveFree.1 mm_Hy_haveFree.1 ∈ x_ws := ⟨x_at 472 (by decide +kernel) rfl, x_at 473 (by decide +kernel) rfl⟩
theorem lc_Hy_areSmallEnough : x_cd mm_Hy_areSmallEnough 0 := ⟨x_at 207 (by decide +kernel) rfl, x_at 5 (by decide +kernel) rfl, by decide +kernel, by decide +kernel, by decide +kernel⟩
theorem li_Hy_areSmallEnough : Cond.instanceMethod mm_Hy_areSmallEnough.1 ∈ x_ws ∧ Cond.selects mm_Hy_areSmallEnough.1.cls mm_Hy_areSmallEnough.1 mm_Hy_areSmallEnough.1 ∈ x_ws := ⟨x_at 205 (by decide +kernel) rfl, x_at 206 (by decide +kernel) rfl⟩
theorem lc_It_init : x_cd mm_It_init 3 := ⟨x_at 181 (by decide +kernel) rfl, x_at 11 (by decide +kernel) rfl, by decide +kernel, by decide +kernel, by decide +kernel⟩
theorem li_It_init : Cond.instanceMethod mm_It_init.1 ∈ x_ws ∧ mm_It_init.1.name = "<init>" ∧ mm_It_init.2.2.2.1 = none := ⟨x_at 180 (by decide +kernel) rfl, rfl, rfl⟩
theorem lc_It_isSmallEnough : x_cd mm_It_isSmallEnough 0 := ⟨x_at 203 (by decide +kernel) rfl, x_at 11 (by decide +kernel) rfl, by decide +kernel, by decide +kernel, by decide +kernel⟩
theorem li_It_isSmallEnough : Cond.instanceMethod mm_It_isSmallEnough.1 ∈ x_ws ∧ Cond.selects mm_It_isSmallEnough.1.cls mm_It_isSmallEnough.1 mm_It_isSmallEnough.1 ∈ x_ws := ⟨x_at 201 (by decide +kernel) rfl, x_at 202 (by decide +kernel) rfl⟩
theorem lc_Ro_init : x_cd mm_Ro_init 3 := ⟨x_at 157 (by decide +kernel) rfl, x_at 7 (by decide +kernel) rfl, by decide +kernel, by decide +kernel, by decide +kernel⟩
theorem li_Ro_init : Cond.instanceMethod mm_Ro_init.1 ∈ x_ws ∧ mm_Ro_init.1.name = "<init>" ∧ mm_Ro_init.2.2.2.1 = none := ⟨x_at 156 (by decide +kernel) rfl, rfl, rfl⟩
theorem lc_Ro_at : x_cd mm_Ro_at 1 := ⟨x_at 246 (by decide +kernel) rfl, x_at 7 (by decide +kernel) rfl, by decide +kernel, by decide +kernel, by decide +kernel⟩
theorem li_Ro_at : Cond.instanceMethod mm_Ro_at.1 ∈ x_ws ∧ Cond.selects mm_Ro_at.1.cls mm_Ro_at.1 mm_Ro_at.1 ∈ x_ws := ⟨x_at 244 (by decide +kernel) rfl, x_at 245 (by decide +kernel) rfl⟩
theorem lc_Ro_part : x_cd mm_Ro_part 2 := ⟨x_at 378 (by decide +kernel) rfl, x_at 7 (by decide +kernel) rfl, by decide +kernel, by decide +kernel, by decide +kernel⟩
theorem li_Ro_part : Cond.instanceMethod mm_Ro_part.1 ∈ x_ws ∧ Cond.selects mm_Ro_part.1.cls mm_Ro_part.1 mm_Ro_part.1 ∈ x_ws := ⟨x_at 376 (by decide +kernel) rfl, x_at 377 (by decide +kernel) rfl⟩
theorem lc_Ro_typeEnd : x_cd mm_Ro_typeEnd 1 := ⟨x_at 279 (by decide +kernel) rfl, x_at 7 (by decide +kernel) rfl, by decide +kernel, by decide +kernel, by decide +kernel⟩
theorem li_Ro_typeEnd : Cond.instanceMethod mm_Ro_typeEnd.1 ∈ x_ws ∧ Cond.selects mm_Ro_typeEnd.1.cls mm_Ro_typeEnd.1 mm_Ro_typeEnd.1 ∈ x_ws := ⟨x_at 277 (by decide +kernel) rfl, x_at 278 (by decide +kernel) rfl⟩
theorem lc_Ro_termEnd : x_cd mm_Ro_termEnd 1 := ⟨x_at 373 (by decide +kernel) rfl, x_at 7 (by decide +kernel) rfl, by decide +kernel, by decide +kernel, by decide +kernel⟩
theorem li_Ro_termEnd : Cond.instanceMethod mm_Ro_termEnd.1 ∈ x_ws ∧ Cond.selects mm_Ro_termEnd.1.cls mm_Ro_termEnd.1 mm_Ro_termEnd.1 ∈ x_ws := ⟨x_at 371 (by decide +kernel) rfl, x_at 372 (by decide +kernel) rfl⟩
theorem lc_Ro_typeAt : x_cd mm_Ro_typeAt 1 := ⟨x_at 274 (by decide +kernel) rfl, x_at 7 (by decide +kernel) rfl, by decide +kernel, by decide +kernel, by decide +kernel⟩
theorem li_Ro_typeAt : Cond.instanceMethod mm_Ro_typeAt.1 ∈ x_ws ∧ Cond.selects mm_Ro_typeAt.1.cls mm_Ro_typeAt.1 mm_Ro_typeAt.1 ∈ x_ws := ⟨x_at 272 (by decide +kernel) rfl, x_at 273 (by decide +kernel) rfl⟩
theorem lc_Ro_functionArgument : x_cd mm_Ro_functionArgument 0 := ⟨x_at 302 (by decide +kernel) rfl, x_at 7 (by decide +kernel) rfl, by decide +kernel, by decide +kernel, by decide +kernel⟩
theorem li_Ro_functionArgument : Cond.instanceMethod mm_Ro_functionArgument.1 ∈ x_ws ∧ Cond.selects mm_Ro_functionArgument.1.cls mm_Ro_functionArgument.1 mm_Ro_functionArgument.1 ∈ x_ws := ⟨x_at 300 (by decide +kernel) rfl, x_at 301 (by decide +kernel) rfl⟩
theorem lc_Ro_functionResult : x_cd mm_Ro_functionResult 0 := ⟨x_at 293 (by decide +kernel) rfl, x_at 7 (by decide +kernel) rfl, by decide +kernel, by decide +kernel, by decide +kernel⟩
theorem li_Ro_functionResult : Cond.instanceMethod mm_Ro_functionResult.1 ∈ x_ws ∧ Cond.selects mm_Ro_functionResult.1.cls mm_Ro_functionResult.1 mm_Ro_functionResult.1 ∈ x_ws := ⟨x_at 291 (by decide +kernel) rfl, x_at 292 (by decide +kernel) rfl⟩
theorem lc_Ro_same : x_cd mm_Ro_same 1 := ⟨x_at 307 (by decide +kernel) rfl, x_at 7 (by decide +kernel) rfl, by decide +kernel, by decide +kernel, by decide +kernel⟩
theorem li_Ro_same : Cond.instanceMethod mm_Ro_same.1 ∈ x_ws ∧ Cond.selects mm_Ro_same.1.cls mm_Ro_same.1 mm_Ro_same.1 ∈ x_ws := ⟨x_at 305 (by decide +kernel) rfl, x_at 306 (by decide +kernel) rfl⟩
theorem lc_Ro_holdsAt : x_cd mm_Ro_holdsAt 2 := ⟨x_at 311 (by decide +kernel) rfl, x_at 7 (by decide +kernel) rfl, by decide +kernel, by decide +kernel, by decide +kernel⟩
theorem li_Ro_holdsAt : Cond.instanceMethod mm_Ro_holdsAt.1 ∈ x_ws ∧ Cond.selects mm_Ro_holdsAt.1.cls mm_Ro_holdsAt.1 mm_Ro_holdsAt.1 ∈ x_ws := ⟨x_at 309 (by decide +kernel) rfl, x_at 310 (by decide +kernel) rfl⟩
theorem lc_Ro_comesBefore : x_cd mm_Ro_comesBefore 1 := ⟨x_at 363 (by decide +kernel) rfl, x_at 7 (by decide +kernel) rfl, by decide +kernel, by decide +kernel, by decide +kernel⟩
theorem li_Ro_comesBefore : Cond.instanceMethod mm_Ro_comesBefore.1 ∈ x_ws ∧ Cond.selects mm_Ro_comesBefore.1.cls mm_Ro_comesBefore.1 mm_Ro_comesBefore.1 ∈ x_ws := ⟨x_at 361 (by decide +kernel) rfl, x_at 362 (by decide +kernel) rfl⟩
theorem lc_Ro_hasFree : x_cd mm_Ro_hasFree 1 := ⟨x_at 478 (by decide +kernel) rfl, x_at 7 (by decide +kernel) rfl, by decide +kernel, by decide +kernel, by decide +kernel⟩
theorem li_Ro_hasFree : Cond.instanceMethod mm_Ro_hasFree.1 ∈ x_ws ∧ Cond.selects mm_Ro_hasFree.1.cls mm_Ro_hasFree.1 mm_Ro_hasFree.1 ∈ x_ws := ⟨x_at 476 (by decide +kernel) rfl, x_at 477 (by decide +kernel) rfl⟩
theorem lc_Ro_hasFreeVariable : x_cd mm_Ro_hasFreeVariable 0 := ⟨x_at 398 (by decide +kernel) rfl, x_at 7 (by decide +kernel) rfl, by decide +kernel, by decide +kernel, by decide +kernel⟩
theorem li_Ro_hasFreeVariable : Cond.instanceMethod mm_Ro_hasFreeVariable.1 ∈ x_ws ∧ Cond.selects mm_Ro_hasFreeVariable.1.cls mm_Ro_hasFreeVariable.1 mm_Ro_hasFreeVariable.1 ∈ x_ws := ⟨x_at 396 (by decide +kernel) rfl, x_at 397 (by decide +kernel) rfl⟩
theorem lc_Ro_has : x_cd mm_Ro_has 1 := ⟨x_at 402 (by decide +kernel) rfl, x_at 7 (by decide +kernel) rfl, by decide +kernel, by decide +kernel, by decide +kernel⟩
theorem li_Ro_has : Cond.instanceMethod mm_Ro_has.1 ∈ x_ws ∧ Cond.selects mm_Ro_has.1.cls mm_Ro_has.1 mm_Ro_has.1 ∈ x_ws := ⟨x_at 400 (by decide +kernel) rfl, x_at 401 (by decide +kernel) rfl⟩
theorem lc_Ro_typeVariablesStandIn : x_cd mm_Ro_typeVariablesStandIn 1 := ⟨x_at 406 (by decide +kernel) rfl, x_at 7 (by decide +kernel) rfl, by decide +kernel, by decide +kernel, by decide +kernel⟩
theorem li_Ro_typeVariablesStandIn : Cond.instanceMethod mm_Ro_typeVariablesStandIn.1 ∈ x_ws ∧ Cond.selects mm_Ro_typeVariablesStandIn.1.cls mm_Ro_typeVariablesStandIn.1 mm_Ro_typeVariablesStandIn.1 ∈ x_ws := ⟨x_at 404 (by decide +kernel) rfl, x_at 405 (by decide +kernel) rfl⟩
theorem lc_Ro_isOfType : x_cd mm_Ro_isOfType 1 := ⟨x_at 410 (by decide +kernel) rfl, x_at 7 (by decide +kernel) rfl, by decide +kernel, by decide +kernel, by decide +kernel⟩
theorem li_Ro_isOfType : Cond.instanceMethod mm_Ro_isOfType.1 ∈ x_ws ∧ Cond.selects mm_Ro_isOfType.1.cls mm_Ro_isOfType.1 mm_Ro_isOfType.1 ∈ x_ws := ⟨x_at 408 (by decide +kernel) rfl, x_at 409 (by decide +kernel) rfl⟩
theorem lc_Ro_termsWithin : x_cd mm_Ro_termsWithin 1 := ⟨x_at 338 (by decide +kernel) rfl, x_at 7 (by decide +kernel) rfl, by decide +kernel, by decide +kernel, by decide +kernel⟩
theorem li_Ro_termsWithin : Cond.static mm_Ro_termsWithin.1 ∈ x_ws := x_at 337 (by decide +kernel) rfl
theorem lc_Sc_init : x_cd mm_Sc_init 0 := ⟨x_at 25 (by decide +kernel) rfl, x_at 2 (by decide +kernel) rfl, by decide +kernel, by decide +kernel, by decide +kernel⟩
theorem li_Sc_init : Cond.instanceMethod mm_Sc_init.1 ∈ x_ws ∧ mm_Sc_init.1.name = "<init>" ∧ mm_Sc_init.2.2.2.1 = none := ⟨x_at 24 (by decide +kernel) rfl, rfl, rfl⟩
theorem lc_Sc_simpleType : x_cd mm_Sc_simpleType 1 := ⟨x_at 129 (by decide +kernel) rfl, x_at 2 (by decide +kernel) rfl, by decide +kernel, by decide +kernel, by decide +kernel⟩
theorem li_Sc_simpleType : Cond.instanceMethod mm_Sc_simpleType.1 ∈ x_ws ∧ Cond.selects mm_Sc_simpleType.1.cls mm_Sc_simpleType.1 mm_Sc_simpleType.1 ∈ x_ws := ⟨x_at 127 (by decide +kernel) rfl, x_at 128 (by decide +kernel) rfl⟩
theorem lc_Sc_functionType : x_cd mm_Sc_functionType 2 := ⟨x_at 238 (by decide +kernel) rfl, x_at 2 (by decide +kernel) rfl, by decide +kernel, by decide +kernel, by decide +kernel⟩
theorem li_Sc_functionType : Cond.instanceMethod mm_Sc_functionType.1 ∈ x_ws ∧ Cond.selects mm_Sc_functionType.1.cls mm_Sc_functionType.1 mm_Sc_functionType.1 ∈ x_ws := ⟨x_at 236 (by decide +kernel) rfl, x_at 237 (by decide +kernel) rfl⟩
theorem lc_Sc_leaf : x_cd mm_Sc_leaf 3 := ⟨x_at 254 (by decide +kernel) rfl, x_at 2 (by decide +kernel) rfl, by decide +kernel, by decide +kernel, by decide +kernel⟩
theorem li_Sc_leaf : Cond.instanceMethod mm_Sc_leaf.1 ∈ x_ws ∧ Cond.selects mm_Sc_leaf.1.cls mm_Sc_leaf.1 mm_Sc_leaf.1 ∈ x_ws := ⟨x_at 252 (by decide +kernel) rfl, x_at 253 (by decide +kernel) rfl⟩
theorem lc_Sc_application : x_cd mm_Sc_application 2 := ⟨x_at 315 (by decide +kernel) rfl, x_at 2 (by decide +kernel) rfl, by decide +kernel, by decide +kernel, by decide +kernel⟩
theorem li_Sc_application : Cond.instanceMethod mm_Sc_application.1 ∈ x_ws ∧ Cond.selects mm_Sc_application.1.cls mm_Sc_application.1 mm_Sc_application.1 ∈ x_ws := ⟨x_at 313 (by decide +kernel) rfl, x_at 314 (by decide +kernel) rfl⟩
theorem lc_Sc_equation : x_cd mm_Sc_equation 3 := ⟨x_at 347 (by decide +kernel) rfl, x_at 2 (by decide +kernel) rfl, by decide +kernel, by decide +kernel, by decide +kernel⟩
theorem li_Sc_equation : Cond.instanceMethod mm_Sc_equation.1 ∈ x_ws ∧ Cond.selects mm_Sc_equation.1.cls mm_Sc_equation.1 mm_Sc_equation.1 ∈ x_ws := ⟨x_at 345 (by decide +kernel) rfl, x_at 346 (by decide +kernel) rfl⟩
theorem lc_Sc_abstraction : x_cd mm_Sc_abstraction 2 := ⟨x_at 327 (by decide +kernel) rfl, x_at 2 (by decide +kernel) rfl, by decide +kernel, by decide +kernel, by decide +kernel⟩
theorem li_Sc_abstraction : Cond.instanceMethod mm_Sc_abstraction.1 ∈ x_ws ∧ Cond.selects mm_Sc_abstraction.1.cls mm_Sc_abstraction.1 mm_Sc_abstraction.1 ∈ x_ws := ⟨x_at 325 (by decide +kernel) rfl, x_at 326 (by decide +kernel) rfl⟩
theorem lc_Sc_replaceVariable : x_cd mm_Sc_replaceVariable 3 := ⟨x_at 486 (by decide +kernel) rfl, x_at 2 (by decide +kernel) rfl, by decide +kernel, by decide +kernel, by decide +kernel⟩
theorem li_Sc_replaceVariable : Cond.instanceMethod mm_Sc_replaceVariable.1 ∈ x_ws ∧ Cond.selects mm_Sc_replaceVariable.1.cls mm_Sc_replaceVariable.1 mm_Sc_replaceVariable.1 ∈ x_ws := ⟨x_at 484 (by decide +kernel) rfl, x_at 485 (by decide +kernel) rfl⟩
theorem lc_Sc_replaceOutermost : x_cd mm_Sc_replaceOutermost 2 := ⟨x_at 382 (by decide +kernel) rfl, x_at 2 (by decide +kernel) rfl, by decide +kernel, by decide +kernel, by decide +kernel⟩
theorem li_Sc_replaceOutermost : Cond.instanceMethod mm_Sc_replaceOutermost.1 ∈ x_ws ∧ Cond.selects mm_Sc_replaceOutermost.1.cls mm_Sc_replaceOutermost.1 mm_Sc_replaceOutermost.1 ∈ x_ws := ⟨x_at 380 (by decide +kernel) rfl, x_at 381 (by decide +kernel) rfl⟩
theorem lc_Sc_replaceTypeVariable : x_cd mm_Sc_replaceTypeVariable 3 := ⟨x_at 494 (by decide +kernel) rfl, x_at 2 (by decide +kernel) rfl, by decide +kernel, by decide +kernel, by decide +kernel⟩
theorem li_Sc_replaceTypeVariable : Cond.instanceMethod mm_Sc_replaceTypeVariable.1 ∈ x_ws ∧ Cond.selects mm_Sc_replaceTypeVariable.1.cls mm_Sc_replaceTypeVariable.1 mm_Sc_replaceTypeVariable.1 ∈ x_ws := ⟨x_at 492 (by decide +kernel) rfl, x_at 493 (by decide +kernel) rfl⟩
theorem lc_Sc_typeOf : x_cd mm_Sc_typeOf 1 := ⟨x_at 270 (by decide +kernel) rfl, x_at 2 (by decide +kernel) rfl, by decide +kernel, by decide +kernel, by decide +kernel⟩
theorem li_Sc_typeOf : Cond.instanceMethod mm_Sc_typeOf.1 ∈ x_ws ∧ Cond.selects mm_Sc_typeOf.1.cls mm_Sc_typeOf.1 mm_Sc_typeOf.1 ∈ x_ws := ⟨x_at 268 (by decide +kernel) rfl, x_at 269 (by decide +kernel) rfl⟩
theorem lc_Sc_putLeafType : x_cd mm_Sc_putLeafType 4 := ⟨x_at 285 (by decide +kernel) rfl, x_at 2 (by decide +kernel) rfl, by decide +kernel, by decide +kernel, by decide +kernel⟩
theorem li_Sc_putLeafType : Cond.instanceMethod mm_Sc_putLeafType.1 ∈ x_ws ∧ Cond.selects mm_Sc_putLeafType.1.cls mm_Sc_putLeafType.1 mm_Sc_putLeafType.1 ∈ x_ws := ⟨x_at 284 (by decide +kernel) rfl, x_sel (q := (mm_Sc_putLeafType.1, 4)) 9 (by decide +kernel)⟩
theorem lc_Sc_putEqualType : x_cd mm_Sc_putEqualType 2 := ⟨x_at 289 (by decide +kernel) rfl, x_at 2 (by decide +kernel) rfl, by decide +kernel, by decide +kernel, by decide +kernel⟩
theorem li_Sc_putEqualType : Cond.instanceMethod mm_Sc_putEqualType.1 ∈ x_ws ∧ Cond.selects mm_Sc_putEqualType.1.cls mm_Sc_putEqualType.1 mm_Sc_putEqualType.1 ∈ x_ws := ⟨x_at 288 (by decide +kernel) rfl, x_sel (q := (mm_Sc_putEqualType.1, 4)) 10 (by decide +kernel)⟩
theorem lc_Sc_put : x_cd mm_Sc_put 1 := ⟨x_at 133 (by decide +kernel) rfl, x_at 2 (by decide +kernel) rfl, by decide +kernel, by decide +kernel, by decide +kernel⟩
theorem li_Sc_put : Cond.instanceMethod mm_Sc_put.1 ∈ x_ws ∧ Cond.selects mm_Sc_put.1.cls mm_Sc_put.1 mm_Sc_put.1 ∈ x_ws := ⟨x_at 132 (by decide +kernel) rfl, x_sel (q := (mm_Sc_put.1, 4)) 0 (by decide +kernel)⟩
theorem lc_Sc_putRow : x_cd mm_Sc_putRow 1 := ⟨x_at 242 (by decide +kernel) rfl, x_at 2 (by decide +kernel) rfl, by decide +kernel, by decide +kernel, by decide +kernel⟩
theorem li_Sc_putRow : Cond.instanceMethod mm_Sc_putRow.1 ∈ x_ws ∧ Cond.selects mm_Sc_putRow.1.cls mm_Sc_putRow.1 mm_Sc_putRow.1 ∈ x_ws := ⟨x_at 241 (by decide +kernel) rfl, x_sel (q := (mm_Sc_putRow.1, 4)) 7 (by decide +kernel)⟩
theorem lc_Sc_finishedRow : x_cd mm_Sc_finishedRow 0 := ⟨x_at 137 (by decide +kernel) rfl, x_at 2 (by decide +kernel) rfl, by decide +kernel, by decide +kernel, by decide +kernel⟩
theorem li_Sc_finishedRow : Cond.instanceMethod mm_Sc_finishedRow.1 ∈ x_ws ∧ Cond.selects mm_Sc_finishedRow.1.cls mm_Sc_finishedRow.1 mm_Sc_finishedRow.1 ∈ x_ws := ⟨x_at 136 (by decide +kernel) rfl, x_sel (q := (mm_Sc_finishedRow.1, 4)) 1 (by decide +kernel)⟩
theorem lc_Sh_init : x_cd mm_Sh_init 1 := ⟨x_at 64 (by decide +kernel) rfl, x_at 4 (by decide +kernel) rfl, by decide +kernel, by decide +kernel, by decide +kernel⟩
theorem li_Sh_init : Cond.instanceMethod mm_Sh_init.1 ∈ x_ws ∧ mm_Sh_init.1.name = "<init>" ∧ mm_Sh_init.2.2.2.1 = none := ⟨x_at 63 (by decide +kernel) rfl, rfl, rfl⟩
theorem lc_Sh_isFull : x_cd mm_Sh_isFull 0 := ⟨x_at 390 (by decide +kernel) rfl, x_at 4 (by decide +kernel) rfl, by decide +kernel, by decide +kernel, by decide +kernel⟩
theorem li_Sh_isFull : Cond.instanceMethod mm_Sh_isFull.1 ∈ x_ws ∧ Cond.selects mm_Sh_isFull.1.cls mm_Sh_isFull.1 mm_Sh_isFull.1 ∈ x_ws := ⟨x_at 388 (by decide +kernel) rfl, x_at 389 (by decide +kernel) rfl⟩
theorem lc_Sh_get : x_cd mm_Sh_get 1 := ⟨x_at 531 (by decide +kernel) rfl, x_at 4 (by decide +kernel) rfl, by decide +kernel, by decide +kernel, by decide +kernel⟩
theorem li_Sh_get : Cond.instanceMethod mm_Sh_get.1 ∈ x_ws ∧ Cond.selects mm_Sh_get.1.cls mm_Sh_get.1 mm_Sh_get.1 ∈ x_ws := ⟨x_at 529 (by decide +kernel) rfl, x_at 530 (by decide +kernel) rfl⟩
theorem lc_Sh_below : x_cd mm_Sh_below 1 := ⟨x_at 234 (by decide +kernel) rfl, x_at 4 (by decide +kernel) rfl, by decide +kernel, by decide +kernel, by decide +kernel⟩
theorem li_Sh_below : Cond.instanceMethod mm_Sh_below.1 ∈ x_ws ∧ Cond.selects mm_Sh_below.1.cls mm_Sh_below.1 mm_Sh_below.1 ∈ x_ws := ⟨x_at 232 (by decide +kernel) rfl, x_at 233 (by decide +kernel) rfl⟩
theorem lc_Sh_add : x_cd mm_Sh_add 1 := ⟨x_at 222 (by decide +kernel) rfl, x_at 4 (by decide +kernel) rfl, by decide +kernel, by decide +kernel, by decide +kernel⟩
theorem li_Sh_add : Cond.instanceMethod mm_Sh_add.1 ∈ x_ws ∧ Cond.selects mm_Sh_add.1.cls mm_Sh_add.1 mm_Sh_add.1 ∈ x_ws := ⟨x_at 220 (by decide +kernel) rfl, x_at 221 (by decide +kernel) rfl⟩
theorem lc_Sh_drop : x_cd mm_Sh_drop 1 := ⟨x_at 215 (by decide +kernel) rfl, x_at 4 (by decide +kernel) rfl, by decide +kernel, by decide +kernel, by decide +kernel⟩
theorem li_Sh_drop : Cond.instanceMethod mm_Sh_drop.1 ∈ x_ws ∧ Cond.selects mm_Sh_drop.1.cls mm_Sh_drop.1 mm_Sh_drop.1 ∈ x_ws := ⟨x_at 213 (by decide +kernel) rfl, x_at 214 (by decide +kernel) rfl⟩
theorem lc_Ar_copyOf : x_cd mm_Ar_copyOf 2 := ⟨x_at 141 (by decide +kernel) rfl, x_at 8 (by decide +kernel) rfl, by decide +kernel, by decide +kernel, by decide +kernel⟩
theorem li_Ar_copyOf : Cond.static mm_Ar_copyOf.1 ∈ x_ws := x_at 140 (by decide +kernel) rfl
theorem lc_Mt_min : x_cd mm_Mt_min 2 := ⟨x_at 151 (by decide +kernel) rfl, x_at 9 (by decide +kernel) rfl, by decide +kernel, by decide +kernel, by decide +kernel⟩
theorem li_Mt_min : Cond.static mm_Mt_min.1 ∈ x_ws := x_at 150 (by decide +kernel) rfl
theorem lc_Mt_max : x_cd mm_Mt_max 2 := ⟨x_at 218 (by decide +kernel) rfl, x_at 9 (by decide +kernel) rfl, by decide +kernel, by decide +kernel, by decide +kernel⟩
theorem li_Mt_max : Cond.static mm_Mt_max.1 ∈ x_ws := x_at 217 (by decide +kernel) rfl

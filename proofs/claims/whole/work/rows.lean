section
-- ===== PART A: goes FIRST, ahead of the names: the tables' words, and 'selects' of the private methods out of them =====
/-- a private method of a class that the tables say can be made, by its rows of tables_1 -/
def lw_okq (q : MethodName × Nat) : Prop := (q.1.cls ≠ "java/lang/invoke/MethodHandle" ∧ q.1.cls ≠ "java/lang/invoke/VarHandle") ∧ Cond.instantiable q.1.cls q.2 ∈ tables_1 ∧ Cond.privateMethod q.1 ∈ tables_1 ∧ Cond.instanceMethod q.1 ∈ tables_1
theorem lw_p0 : lw_okq (⟨"SequentMachine$Scribe", "put", "(I)V"⟩, 4) := ⟨⟨by decide +kernel, by decide +kernel⟩, List.mem_of_getElem? (i := 22) (by decide +kernel), List.mem_of_getElem? (i := 131) (by decide +kernel), List.mem_of_getElem? (i := 132) (by decide +kernel)⟩
theorem lw_p1 : lw_okq (⟨"SequentMachine$Scribe", "finishedRow", "()LSequentMachine$Row;"⟩, 4) := ⟨⟨by decide +kernel, by decide +kernel⟩, List.mem_of_getElem? (i := 22) (by decide +kernel), List.mem_of_getElem? (i := 135) (by decide +kernel), List.mem_of_getElem? (i := 136) (by decide +kernel)⟩
theorem lw_p2 : lw_okq (⟨"SequentMachine", "finishType", "(ILSequentMachine$Row;)I"⟩, 9) := ⟨⟨by decide +kernel, by decide +kernel⟩, List.mem_of_getElem? (i := 14) (by decide +kernel), List.mem_of_getElem? (i := 175) (by decide +kernel), List.mem_of_getElem? (i := 176) (by decide +kernel)⟩
theorem lw_p3 : lw_okq (⟨"SequentMachine", "finish", "(ILSequentMachine$Item;)I"⟩, 9) := ⟨⟨by decide +kernel, by decide +kernel⟩, List.mem_of_getElem? (i := 14) (by decide +kernel), List.mem_of_getElem? (i := 197) (by decide +kernel), List.mem_of_getElem? (i := 198) (by decide +kernel)⟩
theorem lw_p4 : lw_okq (⟨"SequentMachine", "finishEmptyHanded", "(I)I"⟩, 9) := ⟨⟨by decide +kernel, by decide +kernel⟩, List.mem_of_getElem? (i := 14) (by decide +kernel), List.mem_of_getElem? (i := 209) (by decide +kernel), List.mem_of_getElem? (i := 210) (by decide +kernel)⟩
theorem lw_p5 : lw_okq (⟨"SequentMachine", "rowBelow", "(II)LSequentMachine$Row;"⟩, 9) := ⟨⟨by decide +kernel, by decide +kernel⟩, List.mem_of_getElem? (i := 14) (by decide +kernel), List.mem_of_getElem? (i := 224) (by decide +kernel), List.mem_of_getElem? (i := 225) (by decide +kernel)⟩
theorem lw_p6 : lw_okq (⟨"SequentMachine", "itemBelow", "(II)LSequentMachine$Item;"⟩, 9) := ⟨⟨by decide +kernel, by decide +kernel⟩, List.mem_of_getElem? (i := 14) (by decide +kernel), List.mem_of_getElem? (i := 228) (by decide +kernel), List.mem_of_getElem? (i := 229) (by decide +kernel)⟩
theorem lw_p7 : lw_okq (⟨"SequentMachine$Scribe", "putRow", "(LSequentMachine$Row;)V"⟩, 4) := ⟨⟨by decide +kernel, by decide +kernel⟩, List.mem_of_getElem? (i := 22) (by decide +kernel), List.mem_of_getElem? (i := 240) (by decide +kernel), List.mem_of_getElem? (i := 241) (by decide +kernel)⟩
theorem lw_p8 : lw_okq (⟨"SequentMachine", "finishTerm", "(ILSequentMachine$Row;)I"⟩, 9) := ⟨⟨by decide +kernel, by decide +kernel⟩, List.mem_of_getElem? (i := 14) (by decide +kernel), List.mem_of_getElem? (i := 256) (by decide +kernel), List.mem_of_getElem? (i := 257) (by decide +kernel)⟩
theorem lw_p9 : lw_okq (⟨"SequentMachine$Scribe", "putLeafType", "(LSequentMachine$Row;III)V"⟩, 4) := ⟨⟨by decide +kernel, by decide +kernel⟩, List.mem_of_getElem? (i := 22) (by decide +kernel), List.mem_of_getElem? (i := 283) (by decide +kernel), List.mem_of_getElem? (i := 284) (by decide +kernel)⟩
theorem lw_p10 : lw_okq (⟨"SequentMachine$Scribe", "putEqualType", "(LSequentMachine$Row;I)V"⟩, 4) := ⟨⟨by decide +kernel, by decide +kernel⟩, List.mem_of_getElem? (i := 22) (by decide +kernel), List.mem_of_getElem? (i := 287) (by decide +kernel), List.mem_of_getElem? (i := 288) (by decide +kernel)⟩
theorem lw_p11 : lw_okq (⟨"SequentMachine", "takesArgument", "(LSequentMachine$Row;LSequentMachine$Row;)Z"⟩, 9) := ⟨⟨by decide +kernel, by decide +kernel⟩, List.mem_of_getElem? (i := 14) (by decide +kernel), List.mem_of_getElem? (i := 295) (by decide +kernel), List.mem_of_getElem? (i := 296) (by decide +kernel)⟩
theorem lw_p12 : lw_okq (⟨"SequentMachine", "variableBelow", "(I)LSequentMachine$Row;"⟩, 9) := ⟨⟨by decide +kernel, by decide +kernel⟩, List.mem_of_getElem? (i := 14) (by decide +kernel), List.mem_of_getElem? (i := 321) (by decide +kernel), List.mem_of_getElem? (i := 322) (by decide +kernel)⟩
theorem lw_p13 : lw_okq (⟨"SequentMachine", "finishTheorem", "(ILSequentMachine$Hypotheses;LSequentMachine$Row;)I"⟩, 9) := ⟨⟨by decide +kernel, by decide +kernel⟩, List.mem_of_getElem? (i := 14) (by decide +kernel), List.mem_of_getElem? (i := 349) (by decide +kernel), List.mem_of_getElem? (i := 350) (by decide +kernel)⟩
theorem lw_p14 : lw_okq (⟨"SequentMachine", "assume", "(LSequentMachine$Row;)I"⟩, 9) := ⟨⟨by decide +kernel, by decide +kernel⟩, List.mem_of_getElem? (i := 14) (by decide +kernel), List.mem_of_getElem? (i := 353) (by decide +kernel), List.mem_of_getElem? (i := 354) (by decide +kernel)⟩
theorem lw_p15 : lw_okq (⟨"SequentMachine", "reduce", "(LSequentMachine$Row;)I"⟩, 9) := ⟨⟨by decide +kernel, by decide +kernel⟩, List.mem_of_getElem? (i := 14) (by decide +kernel), List.mem_of_getElem? (i := 366) (by decide +kernel), List.mem_of_getElem? (i := 367) (by decide +kernel)⟩
def lw_privs_1 : List (MethodName × Nat) := [(⟨"SequentMachine$Scribe", "put", "(I)V"⟩, 4), (⟨"SequentMachine$Scribe", "finishedRow", "()LSequentMachine$Row;"⟩, 4), (⟨"SequentMachine", "finishType", "(ILSequentMachine$Row;)I"⟩, 9), (⟨"SequentMachine", "finish", "(ILSequentMachine$Item;)I"⟩, 9), (⟨"SequentMachine", "finishEmptyHanded", "(I)I"⟩, 9), (⟨"SequentMachine", "rowBelow", "(II)LSequentMachine$Row;"⟩, 9), (⟨"SequentMachine", "itemBelow", "(II)LSequentMachine$Item;"⟩, 9), (⟨"SequentMachine$Scribe", "putRow", "(LSequentMachine$Row;)V"⟩, 4), (⟨"SequentMachine", "finishTerm", "(ILSequentMachine$Row;)I"⟩, 9), (⟨"SequentMachine$Scribe", "putLeafType", "(LSequentMachine$Row;III)V"⟩, 4), (⟨"SequentMachine$Scribe", "putEqualType", "(LSequentMachine$Row;I)V"⟩, 4), (⟨"SequentMachine", "takesArgument", "(LSequentMachine$Row;LSequentMachine$Row;)Z"⟩, 9), (⟨"SequentMachine", "variableBelow", "(I)LSequentMachine$Row;"⟩, 9), (⟨"SequentMachine", "finishTheorem", "(ILSequentMachine$Hypotheses;LSequentMachine$Row;)I"⟩, 9), (⟨"SequentMachine", "assume", "(LSequentMachine$Row;)I"⟩, 9), (⟨"SequentMachine", "reduce", "(LSequentMachine$Row;)I"⟩, 9)]
theorem lw_r1 : ∀ q ∈ lw_privs_1, lw_okq q := List.forall_mem_cons.mpr ⟨lw_p0, List.forall_mem_cons.mpr ⟨lw_p1, List.forall_mem_cons.mpr ⟨lw_p2, List.forall_mem_cons.mpr ⟨lw_p3, List.forall_mem_cons.mpr ⟨lw_p4, List.forall_mem_cons.mpr ⟨lw_p5, List.forall_mem_cons.mpr ⟨lw_p6, List.forall_mem_cons.mpr ⟨lw_p7, List.forall_mem_cons.mpr ⟨lw_p8, List.forall_mem_cons.mpr ⟨lw_p9, List.forall_mem_cons.mpr ⟨lw_p10, List.forall_mem_cons.mpr ⟨lw_p11, List.forall_mem_cons.mpr ⟨lw_p12, List.forall_mem_cons.mpr ⟨lw_p13, List.forall_mem_cons.mpr ⟨lw_p14, List.forall_mem_cons.mpr ⟨lw_p15, fun _ h => absurd h List.not_mem_nil⟩⟩⟩⟩⟩⟩⟩⟩⟩⟩⟩⟩⟩⟩⟩⟩
theorem lw_p16 : lw_okq (⟨"SequentMachine", "addAxiom", "(LSequentMachine$Row;)I"⟩, 9) := ⟨⟨by decide +kernel, by decide +kernel⟩, List.mem_of_getElem? (i := 14) (by decide +kernel), List.mem_of_getElem? (i := 384) (by decide +kernel), List.mem_of_getElem? (i := 385) (by decide +kernel)⟩
theorem lw_p17 : lw_okq (⟨"SequentMachine", "define", "(LSequentMachine$Row;)I"⟩, 9) := ⟨⟨by decide +kernel, by decide +kernel⟩, List.mem_of_getElem? (i := 14) (by decide +kernel), List.mem_of_getElem? (i := 392) (by decide +kernel), List.mem_of_getElem? (i := 393) (by decide +kernel)⟩
theorem lw_p18 : lw_okq (⟨"SequentMachine", "followEquation", "(LSequentMachine$Item;LSequentMachine$Item;)I"⟩, 9) := ⟨⟨by decide +kernel, by decide +kernel⟩, List.mem_of_getElem? (i := 14) (by decide +kernel), List.mem_of_getElem? (i := 416) (by decide +kernel), List.mem_of_getElem? (i := 417) (by decide +kernel)⟩
theorem lw_p19 : lw_okq (⟨"SequentMachine", "equationIn", "(LSequentMachine$Row;)LSequentMachine$Equation;"⟩, 9) := ⟨⟨by decide +kernel, by decide +kernel⟩, List.mem_of_getElem? (i := 14) (by decide +kernel), List.mem_of_getElem? (i := 420) (by decide +kernel), List.mem_of_getElem? (i := 421) (by decide +kernel)⟩
theorem lw_p20 : lw_okq (⟨"SequentMachine", "hypothesesOfBoth", "(LSequentMachine$Item;LSequentMachine$Item;)LSequentMachine$Hypotheses;"⟩, 9) := ⟨⟨by decide +kernel, by decide +kernel⟩, List.mem_of_getElem? (i := 14) (by decide +kernel), List.mem_of_getElem? (i := 446) (by decide +kernel), List.mem_of_getElem? (i := 447) (by decide +kernel)⟩
theorem lw_p21 : lw_okq (⟨"SequentMachine", "applyEquations", "(LSequentMachine$Item;LSequentMachine$Item;)I"⟩, 9) := ⟨⟨by decide +kernel, by decide +kernel⟩, List.mem_of_getElem? (i := 14) (by decide +kernel), List.mem_of_getElem? (i := 455) (by decide +kernel), List.mem_of_getElem? (i := 456) (by decide +kernel)⟩
theorem lw_p22 : lw_okq (⟨"SequentMachine", "deduct", "(LSequentMachine$Item;LSequentMachine$Item;)I"⟩, 9) := ⟨⟨by decide +kernel, by decide +kernel⟩, List.mem_of_getElem? (i := 14) (by decide +kernel), List.mem_of_getElem? (i := 460) (by decide +kernel), List.mem_of_getElem? (i := 461) (by decide +kernel)⟩
theorem lw_p23 : lw_okq (⟨"SequentMachine", "keptFor", "(I)LSequentMachine$Item;"⟩, 9) := ⟨⟨by decide +kernel, by decide +kernel⟩, List.mem_of_getElem? (i := 14) (by decide +kernel), List.mem_of_getElem? (i := 505) (by decide +kernel), List.mem_of_getElem? (i := 506) (by decide +kernel)⟩
theorem lw_p24 : lw_okq (⟨"SequentMachine", "itemAt", "(I)LSequentMachine$Item;"⟩, 9) := ⟨⟨by decide +kernel, by decide +kernel⟩, List.mem_of_getElem? (i := 14) (by decide +kernel), List.mem_of_getElem? (i := 525) (by decide +kernel), List.mem_of_getElem? (i := 526) (by decide +kernel)⟩
theorem lw_p25 : lw_okq (⟨"SequentMachine", "partAt", "(II)LSequentMachine$Row;"⟩, 9) := ⟨⟨by decide +kernel, by decide +kernel⟩, List.mem_of_getElem? (i := 14) (by decide +kernel), List.mem_of_getElem? (i := 541) (by decide +kernel), List.mem_of_getElem? (i := 542) (by decide +kernel)⟩
theorem lw_p26 : lw_okq (⟨"SequentMachineModel", "top", "(I)I"⟩, 15) := ⟨⟨by decide +kernel, by decide +kernel⟩, List.mem_of_getElem? (i := 553) (by decide +kernel), List.mem_of_getElem? (i := 609) (by decide +kernel), List.mem_of_getElem? (i := 610) (by decide +kernel)⟩
theorem lw_p27 : lw_okq (⟨"SequentMachineModel", "begin", "()V"⟩, 15) := ⟨⟨by decide +kernel, by decide +kernel⟩, List.mem_of_getElem? (i := 553) (by decide +kernel), List.mem_of_getElem? (i := 613) (by decide +kernel), List.mem_of_getElem? (i := 614) (by decide +kernel)⟩
theorem lw_p28 : lw_okq (⟨"SequentMachineModel", "emit", "(I)V"⟩, 15) := ⟨⟨by decide +kernel, by decide +kernel⟩, List.mem_of_getElem? (i := 553) (by decide +kernel), List.mem_of_getElem? (i := 617) (by decide +kernel), List.mem_of_getElem? (i := 618) (by decide +kernel)⟩
theorem lw_p29 : lw_okq (⟨"SequentMachineModel", "part", "(II)V"⟩, 15) := ⟨⟨by decide +kernel, by decide +kernel⟩, List.mem_of_getElem? (i := 553) (by decide +kernel), List.mem_of_getElem? (i := 621) (by decide +kernel), List.mem_of_getElem? (i := 622) (by decide +kernel)⟩
theorem lw_p30 : lw_okq (⟨"SequentMachineModel", "done", "(I)I"⟩, 15) := ⟨⟨by decide +kernel, by decide +kernel⟩, List.mem_of_getElem? (i := 553) (by decide +kernel), List.mem_of_getElem? (i := 628) (by decide +kernel), List.mem_of_getElem? (i := 629) (by decide +kernel)⟩
theorem lw_p31 : lw_okq (⟨"SequentMachineModel", "copyObject", "(II)V"⟩, 15) := ⟨⟨by decide +kernel, by decide +kernel⟩, List.mem_of_getElem? (i := 553) (by decide +kernel), List.mem_of_getElem? (i := 632) (by decide +kernel), List.mem_of_getElem? (i := 633) (by decide +kernel)⟩
def lw_privs_2 : List (MethodName × Nat) := [(⟨"SequentMachine", "addAxiom", "(LSequentMachine$Row;)I"⟩, 9), (⟨"SequentMachine", "define", "(LSequentMachine$Row;)I"⟩, 9), (⟨"SequentMachine", "followEquation", "(LSequentMachine$Item;LSequentMachine$Item;)I"⟩, 9), (⟨"SequentMachine", "equationIn", "(LSequentMachine$Row;)LSequentMachine$Equation;"⟩, 9), (⟨"SequentMachine", "hypothesesOfBoth", "(LSequentMachine$Item;LSequentMachine$Item;)LSequentMachine$Hypotheses;"⟩, 9), (⟨"SequentMachine", "applyEquations", "(LSequentMachine$Item;LSequentMachine$Item;)I"⟩, 9), (⟨"SequentMachine", "deduct", "(LSequentMachine$Item;LSequentMachine$Item;)I"⟩, 9), (⟨"SequentMachine", "keptFor", "(I)LSequentMachine$Item;"⟩, 9), (⟨"SequentMachine", "itemAt", "(I)LSequentMachine$Item;"⟩, 9), (⟨"SequentMachine", "partAt", "(II)LSequentMachine$Row;"⟩, 9), (⟨"SequentMachineModel", "top", "(I)I"⟩, 15), (⟨"SequentMachineModel", "begin", "()V"⟩, 15), (⟨"SequentMachineModel", "emit", "(I)V"⟩, 15), (⟨"SequentMachineModel", "part", "(II)V"⟩, 15), (⟨"SequentMachineModel", "done", "(I)I"⟩, 15), (⟨"SequentMachineModel", "copyObject", "(II)V"⟩, 15)]
theorem lw_r2 : ∀ q ∈ lw_privs_2, lw_okq q := List.forall_mem_cons.mpr ⟨lw_p16, List.forall_mem_cons.mpr ⟨lw_p17, List.forall_mem_cons.mpr ⟨lw_p18, List.forall_mem_cons.mpr ⟨lw_p19, List.forall_mem_cons.mpr ⟨lw_p20, List.forall_mem_cons.mpr ⟨lw_p21, List.forall_mem_cons.mpr ⟨lw_p22, List.forall_mem_cons.mpr ⟨lw_p23, List.forall_mem_cons.mpr ⟨lw_p24, List.forall_mem_cons.mpr ⟨lw_p25, List.forall_mem_cons.mpr ⟨lw_p26, List.forall_mem_cons.mpr ⟨lw_p27, List.forall_mem_cons.mpr ⟨lw_p28, List.forall_mem_cons.mpr ⟨lw_p29, List.forall_mem_cons.mpr ⟨lw_p30, List.forall_mem_cons.mpr ⟨lw_p31, fun _ h => absurd h List.not_mem_nil⟩⟩⟩⟩⟩⟩⟩⟩⟩⟩⟩⟩⟩⟩⟩⟩
theorem lw_p32 : lw_okq (⟨"SequentMachineModel", "movePart", "(IIII)V"⟩, 15) := ⟨⟨by decide +kernel, by decide +kernel⟩, List.mem_of_getElem? (i := 553) (by decide +kernel), List.mem_of_getElem? (i := 636) (by decide +kernel), List.mem_of_getElem? (i := 637) (by decide +kernel)⟩
theorem lw_p33 : lw_okq (⟨"SequentMachineModel", "rowOf", "(I)I"⟩, 15) := ⟨⟨by decide +kernel, by decide +kernel⟩, List.mem_of_getElem? (i := 553) (by decide +kernel), List.mem_of_getElem? (i := 640) (by decide +kernel), List.mem_of_getElem? (i := 641) (by decide +kernel)⟩
theorem lw_p34 : lw_okq (⟨"SequentMachineModel", "rowEnd", "(I)I"⟩, 15) := ⟨⟨by decide +kernel, by decide +kernel⟩, List.mem_of_getElem? (i := 553) (by decide +kernel), List.mem_of_getElem? (i := 644) (by decide +kernel), List.mem_of_getElem? (i := 645) (by decide +kernel)⟩
theorem lw_p35 : lw_okq (⟨"SequentMachineModel", "emitRow", "(II)V"⟩, 15) := ⟨⟨by decide +kernel, by decide +kernel⟩, List.mem_of_getElem? (i := 553) (by decide +kernel), List.mem_of_getElem? (i := 648) (by decide +kernel), List.mem_of_getElem? (i := 649) (by decide +kernel)⟩
theorem lw_p36 : lw_okq (⟨"SequentMachineModel", "leaf", "(II)I"⟩, 15) := ⟨⟨by decide +kernel, by decide +kernel⟩, List.mem_of_getElem? (i := 553) (by decide +kernel), List.mem_of_getElem? (i := 656) (by decide +kernel), List.mem_of_getElem? (i := 657) (by decide +kernel)⟩
theorem lw_p37 : lw_okq (⟨"SequentMachineModel", "fits", "(II)Z"⟩, 15) := ⟨⟨by decide +kernel, by decide +kernel⟩, List.mem_of_getElem? (i := 553) (by decide +kernel), List.mem_of_getElem? (i := 668) (by decide +kernel), List.mem_of_getElem? (i := 669) (by decide +kernel)⟩
theorem lw_p38 : lw_okq (⟨"SequentMachineModel", "typeOf", "(I)I"⟩, 15) := ⟨⟨by decide +kernel, by decide +kernel⟩, List.mem_of_getElem? (i := 553) (by decide +kernel), List.mem_of_getElem? (i := 672) (by decide +kernel), List.mem_of_getElem? (i := 673) (by decide +kernel)⟩
theorem lw_p39 : lw_okq (⟨"SequentMachineModel", "skipType", "(I)I"⟩, 15) := ⟨⟨by decide +kernel, by decide +kernel⟩, List.mem_of_getElem? (i := 553) (by decide +kernel), List.mem_of_getElem? (i := 676) (by decide +kernel), List.mem_of_getElem? (i := 677) (by decide +kernel)⟩
theorem lw_p40 : lw_okq (⟨"SequentMachineModel", "equalAt", "(II)V"⟩, 15) := ⟨⟨by decide +kernel, by decide +kernel⟩, List.mem_of_getElem? (i := 553) (by decide +kernel), List.mem_of_getElem? (i := 680) (by decide +kernel), List.mem_of_getElem? (i := 681) (by decide +kernel)⟩
theorem lw_p41 : lw_okq (⟨"SequentMachineModel", "sameRow", "(IIII)Z"⟩, 15) := ⟨⟨by decide +kernel, by decide +kernel⟩, List.mem_of_getElem? (i := 553) (by decide +kernel), List.mem_of_getElem? (i := 684) (by decide +kernel), List.mem_of_getElem? (i := 685) (by decide +kernel)⟩
theorem lw_p42 : lw_okq (⟨"SequentMachineModel", "variable", "(I)Z"⟩, 15) := ⟨⟨by decide +kernel, by decide +kernel⟩, List.mem_of_getElem? (i := 553) (by decide +kernel), List.mem_of_getElem? (i := 692) (by decide +kernel), List.mem_of_getElem? (i := 693) (by decide +kernel)⟩
theorem lw_p43 : lw_okq (⟨"SequentMachineModel", "emitAbs", "(IIII)V"⟩, 15) := ⟨⟨by decide +kernel, by decide +kernel⟩, List.mem_of_getElem? (i := 553) (by decide +kernel), List.mem_of_getElem? (i := 696) (by decide +kernel), List.mem_of_getElem? (i := 697) (by decide +kernel)⟩
theorem lw_p44 : lw_okq (⟨"SequentMachineModel", "stands", "(III)Z"⟩, 15) := ⟨⟨by decide +kernel, by decide +kernel⟩, List.mem_of_getElem? (i := 553) (by decide +kernel), List.mem_of_getElem? (i := 700) (by decide +kernel), List.mem_of_getElem? (i := 701) (by decide +kernel)⟩
theorem lw_p45 : lw_okq (⟨"SequentMachineModel", "depth", "(II)I"⟩, 15) := ⟨⟨by decide +kernel, by decide +kernel⟩, List.mem_of_getElem? (i := 553) (by decide +kernel), List.mem_of_getElem? (i := 704) (by decide +kernel), List.mem_of_getElem? (i := 705) (by decide +kernel)⟩
theorem lw_p46 : lw_okq (⟨"SequentMachineModel", "skipTerm", "(I)I"⟩, 15) := ⟨⟨by decide +kernel, by decide +kernel⟩, List.mem_of_getElem? (i := 553) (by decide +kernel), List.mem_of_getElem? (i := 708) (by decide +kernel), List.mem_of_getElem? (i := 709) (by decide +kernel)⟩
theorem lw_p47 : lw_okq (⟨"SequentMachineModel", "isBool", "(II)Z"⟩, 15) := ⟨⟨by decide +kernel, by decide +kernel⟩, List.mem_of_getElem? (i := 553) (by decide +kernel), List.mem_of_getElem? (i := 716) (by decide +kernel), List.mem_of_getElem? (i := 717) (by decide +kernel)⟩
def lw_privs_3 : List (MethodName × Nat) := [(⟨"SequentMachineModel", "movePart", "(IIII)V"⟩, 15), (⟨"SequentMachineModel", "rowOf", "(I)I"⟩, 15), (⟨"SequentMachineModel", "rowEnd", "(I)I"⟩, 15), (⟨"SequentMachineModel", "emitRow", "(II)V"⟩, 15), (⟨"SequentMachineModel", "leaf", "(II)I"⟩, 15), (⟨"SequentMachineModel", "fits", "(II)Z"⟩, 15), (⟨"SequentMachineModel", "typeOf", "(I)I"⟩, 15), (⟨"SequentMachineModel", "skipType", "(I)I"⟩, 15), (⟨"SequentMachineModel", "equalAt", "(II)V"⟩, 15), (⟨"SequentMachineModel", "sameRow", "(IIII)Z"⟩, 15), (⟨"SequentMachineModel", "variable", "(I)Z"⟩, 15), (⟨"SequentMachineModel", "emitAbs", "(IIII)V"⟩, 15), (⟨"SequentMachineModel", "stands", "(III)Z"⟩, 15), (⟨"SequentMachineModel", "depth", "(II)I"⟩, 15), (⟨"SequentMachineModel", "skipTerm", "(I)I"⟩, 15), (⟨"SequentMachineModel", "isBool", "(II)Z"⟩, 15)]
theorem lw_r3 : ∀ q ∈ lw_privs_3, lw_okq q := List.forall_mem_cons.mpr ⟨lw_p32, List.forall_mem_cons.mpr ⟨lw_p33, List.forall_mem_cons.mpr ⟨lw_p34, List.forall_mem_cons.mpr ⟨lw_p35, List.forall_mem_cons.mpr ⟨lw_p36, List.forall_mem_cons.mpr ⟨lw_p37, List.forall_mem_cons.mpr ⟨lw_p38, List.forall_mem_cons.mpr ⟨lw_p39, List.forall_mem_cons.mpr ⟨lw_p40, List.forall_mem_cons.mpr ⟨lw_p41, List.forall_mem_cons.mpr ⟨lw_p42, List.forall_mem_cons.mpr ⟨lw_p43, List.forall_mem_cons.mpr ⟨lw_p44, List.forall_mem_cons.mpr ⟨lw_p45, List.forall_mem_cons.mpr ⟨lw_p46, List.forall_mem_cons.mpr ⟨lw_p47, fun _ h => absurd h List.not_mem_nil⟩⟩⟩⟩⟩⟩⟩⟩⟩⟩⟩⟩⟩⟩⟩⟩
theorem lw_p48 : lw_okq (⟨"SequentMachineModel", "claim", "(III)I"⟩, 15) := ⟨⟨by decide +kernel, by decide +kernel⟩, List.mem_of_getElem? (i := 553) (by decide +kernel), List.mem_of_getElem? (i := 720) (by decide +kernel), List.mem_of_getElem? (i := 721) (by decide +kernel)⟩
theorem lw_p49 : lw_okq (⟨"SequentMachineModel", "hypothesis", "(I)V"⟩, 15) := ⟨⟨by decide +kernel, by decide +kernel⟩, List.mem_of_getElem? (i := 553) (by decide +kernel), List.mem_of_getElem? (i := 724) (by decide +kernel), List.mem_of_getElem? (i := 725) (by decide +kernel)⟩
theorem lw_p50 : lw_okq (⟨"SequentMachineModel", "compare", "(IIII)I"⟩, 15) := ⟨⟨by decide +kernel, by decide +kernel⟩, List.mem_of_getElem? (i := 553) (by decide +kernel), List.mem_of_getElem? (i := 728) (by decide +kernel), List.mem_of_getElem? (i := 729) (by decide +kernel)⟩
theorem lw_p51 : lw_okq (⟨"SequentMachineModel", "closed", "(IIII)Z"⟩, 15) := ⟨⟨by decide +kernel, by decide +kernel⟩, List.mem_of_getElem? (i := 553) (by decide +kernel), List.mem_of_getElem? (i := 732) (by decide +kernel), List.mem_of_getElem? (i := 733) (by decide +kernel)⟩
theorem lw_p52 : lw_okq (⟨"SequentMachineModel", "occurs", "(III)Z"⟩, 15) := ⟨⟨by decide +kernel, by decide +kernel⟩, List.mem_of_getElem? (i := 553) (by decide +kernel), List.mem_of_getElem? (i := 736) (by decide +kernel), List.mem_of_getElem? (i := 737) (by decide +kernel)⟩
theorem lw_p53 : lw_okq (⟨"SequentMachineModel", "beginEquation", "(II)V"⟩, 15) := ⟨⟨by decide +kernel, by decide +kernel⟩, List.mem_of_getElem? (i := 553) (by decide +kernel), List.mem_of_getElem? (i := 740) (by decide +kernel), List.mem_of_getElem? (i := 741) (by decide +kernel)⟩
theorem lw_p54 : lw_okq (⟨"SequentMachineModel", "reduce", "(II)V"⟩, 15) := ⟨⟨by decide +kernel, by decide +kernel⟩, List.mem_of_getElem? (i := 553) (by decide +kernel), List.mem_of_getElem? (i := 744) (by decide +kernel), List.mem_of_getElem? (i := 745) (by decide +kernel)⟩
theorem lw_p55 : lw_okq (⟨"SequentMachineModel", "define", "(II)I"⟩, 15) := ⟨⟨by decide +kernel, by decide +kernel⟩, List.mem_of_getElem? (i := 553) (by decide +kernel), List.mem_of_getElem? (i := 748) (by decide +kernel), List.mem_of_getElem? (i := 749) (by decide +kernel)⟩
theorem lw_p56 : lw_okq (⟨"SequentMachineModel", "bring", "(III)V"⟩, 15) := ⟨⟨by decide +kernel, by decide +kernel⟩, List.mem_of_getElem? (i := 553) (by decide +kernel), List.mem_of_getElem? (i := 756) (by decide +kernel), List.mem_of_getElem? (i := 757) (by decide +kernel)⟩
theorem lw_p57 : lw_okq (⟨"SequentMachineModel", "isEquation", "(I)Z"⟩, 15) := ⟨⟨by decide +kernel, by decide +kernel⟩, List.mem_of_getElem? (i := 553) (by decide +kernel), List.mem_of_getElem? (i := 760) (by decide +kernel), List.mem_of_getElem? (i := 761) (by decide +kernel)⟩
theorem lw_p58 : lw_okq (⟨"SequentMachineModel", "left", "(I)I"⟩, 15) := ⟨⟨by decide +kernel, by decide +kernel⟩, List.mem_of_getElem? (i := 553) (by decide +kernel), List.mem_of_getElem? (i := 764) (by decide +kernel), List.mem_of_getElem? (i := 765) (by decide +kernel)⟩
theorem lw_p59 : lw_okq (⟨"SequentMachineModel", "applied", "(IIIII)V"⟩, 15) := ⟨⟨by decide +kernel, by decide +kernel⟩, List.mem_of_getElem? (i := 553) (by decide +kernel), List.mem_of_getElem? (i := 768) (by decide +kernel), List.mem_of_getElem? (i := 769) (by decide +kernel)⟩
theorem lw_p60 : lw_okq (⟨"SequentMachineModel", "free", "(IIII)Z"⟩, 15) := ⟨⟨by decide +kernel, by decide +kernel⟩, List.mem_of_getElem? (i := 553) (by decide +kernel), List.mem_of_getElem? (i := 776) (by decide +kernel), List.mem_of_getElem? (i := 777) (by decide +kernel)⟩
theorem lw_p61 : lw_okq (⟨"SequentMachineModel", "replaced", "(IIIIII)V"⟩, 15) := ⟨⟨by decide +kernel, by decide +kernel⟩, List.mem_of_getElem? (i := 553) (by decide +kernel), List.mem_of_getElem? (i := 784) (by decide +kernel), List.mem_of_getElem? (i := 785) (by decide +kernel)⟩
theorem lw_p62 : lw_okq (⟨"SequentMachineModel", "retyped", "(IIIII)V"⟩, 15) := ⟨⟨by decide +kernel, by decide +kernel⟩, List.mem_of_getElem? (i := 553) (by decide +kernel), List.mem_of_getElem? (i := 792) (by decide +kernel), List.mem_of_getElem? (i := 793) (by decide +kernel)⟩
theorem lw_p63 : lw_okq (⟨"SequentMachineModel", "at", "(I)I"⟩, 15) := ⟨⟨by decide +kernel, by decide +kernel⟩, List.mem_of_getElem? (i := 553) (by decide +kernel), List.mem_of_getElem? (i := 820) (by decide +kernel), List.mem_of_getElem? (i := 821) (by decide +kernel)⟩
def lw_privs_4 : List (MethodName × Nat) := [(⟨"SequentMachineModel", "claim", "(III)I"⟩, 15), (⟨"SequentMachineModel", "hypothesis", "(I)V"⟩, 15), (⟨"SequentMachineModel", "compare", "(IIII)I"⟩, 15), (⟨"SequentMachineModel", "closed", "(IIII)Z"⟩, 15), (⟨"SequentMachineModel", "occurs", "(III)Z"⟩, 15), (⟨"SequentMachineModel", "beginEquation", "(II)V"⟩, 15), (⟨"SequentMachineModel", "reduce", "(II)V"⟩, 15), (⟨"SequentMachineModel", "define", "(II)I"⟩, 15), (⟨"SequentMachineModel", "bring", "(III)V"⟩, 15), (⟨"SequentMachineModel", "isEquation", "(I)Z"⟩, 15), (⟨"SequentMachineModel", "left", "(I)I"⟩, 15), (⟨"SequentMachineModel", "applied", "(IIIII)V"⟩, 15), (⟨"SequentMachineModel", "free", "(IIII)Z"⟩, 15), (⟨"SequentMachineModel", "replaced", "(IIIIII)V"⟩, 15), (⟨"SequentMachineModel", "retyped", "(IIIII)V"⟩, 15), (⟨"SequentMachineModel", "at", "(I)I"⟩, 15)]
theorem lw_r4 : ∀ q ∈ lw_privs_4, lw_okq q := List.forall_mem_cons.mpr ⟨lw_p48, List.forall_mem_cons.mpr ⟨lw_p49, List.forall_mem_cons.mpr ⟨lw_p50, List.forall_mem_cons.mpr ⟨lw_p51, List.forall_mem_cons.mpr ⟨lw_p52, List.forall_mem_cons.mpr ⟨lw_p53, List.forall_mem_cons.mpr ⟨lw_p54, List.forall_mem_cons.mpr ⟨lw_p55, List.forall_mem_cons.mpr ⟨lw_p56, List.forall_mem_cons.mpr ⟨lw_p57, List.forall_mem_cons.mpr ⟨lw_p58, List.forall_mem_cons.mpr ⟨lw_p59, List.forall_mem_cons.mpr ⟨lw_p60, List.forall_mem_cons.mpr ⟨lw_p61, List.forall_mem_cons.mpr ⟨lw_p62, List.forall_mem_cons.mpr ⟨lw_p63, fun _ h => absurd h List.not_mem_nil⟩⟩⟩⟩⟩⟩⟩⟩⟩⟩⟩⟩⟩⟩⟩⟩
def lw_privs : List (MethodName × Nat) := lw_privs_1 ++ (lw_privs_2 ++ (lw_privs_3 ++ (lw_privs_4)))
def lw_tbl : List Cond := k2_sels lw_privs ++ tables_1
theorem lw_privs_ok : ∀ q ∈ lw_privs, lw_okq q := by
  show ∀ q ∈ lw_privs_1 ++ (lw_privs_2 ++ (lw_privs_3 ++ (lw_privs_4))), lw_okq q
  exact List.forall_mem_append.mpr ⟨lw_r1, List.forall_mem_append.mpr ⟨lw_r2, List.forall_mem_append.mpr ⟨lw_r3, lw_r4⟩⟩⟩
-- ===== end of PART A; then your names; then what follows =====
/-! THE CLAIM OUT OF ONE WALK OF THE LAW'S BODY. Your part is whole_start (and what it stands on); all else here is the same for every law, but numbers. -/
end
section
/-! names: classes, their fields in the order of their slots, the tables' words -/
def ct_0 : u_T := fun k => match k with
  | 0 => ("SequentMachine$Depth", "restAfter", "[I", true)
  | 1 => ("SequentMachine$Depth", "around", "I", false)
  | _ => ("SequentMachine$Depth", "missing", "I", false)
def cy_0 : Nat → FieldType := fun k => match k with
  | 0 => .array .int
  | 1 => .int
  | _ => .int
theorem cq_0 : ∀ a, a < 3 → ∀ b, b < 3 → a ≠ b → (ct_0 a).2.1 ≠ (ct_0 b).2.1 := by decide +kernel
theorem cp_0 : ∀ k, k < 3 → parseFieldDescriptor (ct_0 k).2.2.1 = some (cy_0 k) := by decide +kernel
def ct_1 : u_T := fun k => match k with
  | 0 => ("SequentMachine$Equation", "type", "LSequentMachine$Row;", true)
  | 1 => ("SequentMachine$Equation", "left", "LSequentMachine$Row;", true)
  | _ => ("SequentMachine$Equation", "right", "LSequentMachine$Row;", true)
def cy_1 : Nat → FieldType := fun k => match k with
  | 0 => .object "SequentMachine$Row"
  | 1 => .object "SequentMachine$Row"
  | _ => .object "SequentMachine$Row"
theorem cq_1 : ∀ a, a < 3 → ∀ b, b < 3 → a ≠ b → (ct_1 a).2.1 ≠ (ct_1 b).2.1 := by decide +kernel
theorem cp_1 : ∀ k, k < 3 → parseFieldDescriptor (ct_1 k).2.2.1 = some (cy_1 k) := by decide +kernel
def ct_2 : u_T := fun k => match k with
  | 0 => ("SequentMachine$Hypotheses", "rows", "[LSequentMachine$Row;", true)
  | _ => ("SequentMachine$Hypotheses", "size", "I", false)
def cy_2 : Nat → FieldType := fun k => match k with
  | 0 => .array (.object "SequentMachine$Row")
  | _ => .int
theorem cq_2 : ∀ a, a < 2 → ∀ b, b < 2 → a ≠ b → (ct_2 a).2.1 ≠ (ct_2 b).2.1 := by decide +kernel
theorem cp_2 : ∀ k, k < 2 → parseFieldDescriptor (ct_2 k).2.2.1 = some (cy_2 k) := by decide +kernel
def ct_3 : u_T := fun k => match k with
  | 0 => ("SequentMachine$Item", "sort", "I", true)
  | 1 => ("SequentMachine$Item", "main", "LSequentMachine$Row;", true)
  | _ => ("SequentMachine$Item", "hypotheses", "LSequentMachine$Hypotheses;", true)
def cy_3 : Nat → FieldType := fun k => match k with
  | 0 => .int
  | 1 => .object "SequentMachine$Row"
  | _ => .object "SequentMachine$Hypotheses"
theorem cq_3 : ∀ a, a < 3 → ∀ b, b < 3 → a ≠ b → (ct_3 a).2.1 ≠ (ct_3 b).2.1 := by decide +kernel
theorem cp_3 : ∀ k, k < 3 → parseFieldDescriptor (ct_3 k).2.2.1 = some (cy_3 k) := by decide +kernel
def ct_4 : u_T := fun k => match k with
  | 0 => ("SequentMachine$Row", "symbols", "[I", true)
  | 1 => ("SequentMachine$Row", "from", "I", true)
  | _ => ("SequentMachine$Row", "size", "I", true)
def cy_4 : Nat → FieldType := fun k => match k with
  | 0 => .array .int
  | 1 => .int
  | _ => .int
theorem cq_4 : ∀ a, a < 3 → ∀ b, b < 3 → a ≠ b → (ct_4 a).2.1 ≠ (ct_4 b).2.1 := by decide +kernel
theorem cp_4 : ∀ k, k < 3 → parseFieldDescriptor (ct_4 k).2.2.1 = some (cy_4 k) := by decide +kernel
def ct_5 : u_T := fun k => match k with
  | 0 => ("SequentMachine$Scribe", "page", "[I", true)
  | 1 => ("SequentMachine$Scribe", "used", "I", false)
  | 2 => ("SequentMachine$Scribe", "depth", "LSequentMachine$Depth;", true)
  | _ => ("SequentMachine$Scribe", "binders", "[LSequentMachine$Row;", true)
def cy_5 : Nat → FieldType := fun k => match k with
  | 0 => .array .int
  | 1 => .int
  | 2 => .object "SequentMachine$Depth"
  | _ => .array (.object "SequentMachine$Row")
theorem cq_5 : ∀ a, a < 4 → ∀ b, b < 4 → a ≠ b → (ct_5 a).2.1 ≠ (ct_5 b).2.1 := by decide +kernel
theorem cp_5 : ∀ k, k < 4 → parseFieldDescriptor (ct_5 k).2.2.1 = some (cy_5 k) := by decide +kernel
def ct_6 : u_T := fun k => match k with
  | 0 => ("SequentMachine$Shelf", "items", "[LSequentMachine$Item;", true)
  | _ => ("SequentMachine$Shelf", "size", "I", false)
def cy_6 : Nat → FieldType := fun k => match k with
  | 0 => .array (.object "SequentMachine$Item")
  | _ => .int
theorem cq_6 : ∀ a, a < 2 → ∀ b, b < 2 → a ≠ b → (ct_6 a).2.1 ≠ (ct_6 b).2.1 := by decide +kernel
theorem cp_6 : ∀ k, k < 2 → parseFieldDescriptor (ct_6 k).2.2.1 = some (cy_6 k) := by decide +kernel
def ct_7 : u_T := fun k => match k with
  | 0 => ("SequentMachine", "scribe", "LSequentMachine$Scribe;", true)
  | 1 => ("SequentMachine", "stack", "LSequentMachine$Shelf;", true)
  | 2 => ("SequentMachine", "assumed", "LSequentMachine$Shelf;", true)
  | 3 => ("SequentMachine", "exported", "LSequentMachine$Shelf;", true)
  | 4 => ("SequentMachine", "dictionary", "[LSequentMachine$Item;", true)
  | 5 => ("SequentMachine", "definedTypes", "[LSequentMachine$Row;", true)
  | 6 => ("SequentMachine", "noHypotheses", "LSequentMachine$Hypotheses;", true)
  | 7 => ("SequentMachine", "constants", "I", false)
  | _ => ("SequentMachine", "commands", "I", false)
def cy_7 : Nat → FieldType := fun k => match k with
  | 0 => .object "SequentMachine$Scribe"
  | 1 => .object "SequentMachine$Shelf"
  | 2 => .object "SequentMachine$Shelf"
  | 3 => .object "SequentMachine$Shelf"
  | 4 => .array (.object "SequentMachine$Item")
  | 5 => .array (.object "SequentMachine$Row")
  | 6 => .object "SequentMachine$Hypotheses"
  | 7 => .int
  | _ => .int
theorem cq_7 : ∀ a, a < 9 → ∀ b, b < 9 → a ≠ b → (ct_7 a).2.1 ≠ (ct_7 b).2.1 := by decide +kernel
theorem cp_7 : ∀ k, k < 9 → parseFieldDescriptor (ct_7 k).2.2.1 = some (cy_7 k) := by decide +kernel
def ct_8 : u_T := fun k => match k with
  | 0 => ("SequentMachineModel", "mem", "[I", true)
  | 1 => ("SequentMachineModel", "len", "[I", true)
  | 2 => ("SequentMachineModel", "kinds", "[I", true)
  | 3 => ("SequentMachineModel", "hyps", "[I", true)
  | 4 => ("SequentMachineModel", "size", "I", false)
  | 5 => ("SequentMachineModel", "assumed", "I", false)
  | 6 => ("SequentMachineModel", "exported", "I", false)
  | 7 => ("SequentMachineModel", "constants", "I", false)
  | 8 => ("SequentMachineModel", "commands", "I", false)
  | 9 => ("SequentMachineModel", "constLen", "[I", true)
  | 10 => ("SequentMachineModel", "binder", "[I", true)
  | 11 => ("SequentMachineModel", "out", "I", false)
  | 12 => ("SequentMachineModel", "big", "Z", false)
  | 13 => ("SequentMachineModel", "typeFrom", "I", false)
  | _ => ("SequentMachineModel", "typeEnd", "I", false)
def cy_8 : Nat → FieldType := fun k => match k with
  | 0 => .array .int
  | 1 => .array .int
  | 2 => .array .int
  | 3 => .array .int
  | 4 => .int
  | 5 => .int
  | 6 => .int
  | 7 => .int
  | 8 => .int
  | 9 => .array .int
  | 10 => .array .int
  | 11 => .int
  | 12 => .boolean
  | 13 => .int
  | _ => .int
theorem cq_8 : ∀ a, a < 15 → ∀ b, b < 15 → a ≠ b → (ct_8 a).2.1 ≠ (ct_8 b).2.1 := by decide +kernel
theorem cp_8 : ∀ k, k < 15 → parseFieldDescriptor (ct_8 k).2.2.1 = some (cy_8 k) := by decide +kernel
abbrev cl_s : List vw_C := [("SequentMachine$Depth", ct_0, 3), ("SequentMachine$Equation", ct_1, 3), ("SequentMachine$Hypotheses", ct_2, 2), ("SequentMachine$Item", ct_3, 3), ("SequentMachine$Row", ct_4, 3), ("SequentMachine$Scribe", ct_5, 4), ("SequentMachine$Shelf", ct_6, 2), ("SequentMachine", ct_7, 9), ("SequentMachineModel", ct_8, 15)]
def x_ws : List Cond := lw_tbl.filter goodWord
theorem x_good : ∀ w ∈ x_ws, (w.onTables && w.keeps) = true ∨ ∃ ty, w = .arrayClass ty := fun w h => good_of_word (List.mem_filter.mp h).2
theorem x_at {w : Cond} (i : Nat) (h : tables_1[i]? = some w) (hg : goodWord w = true) : w ∈ x_ws := List.mem_filter.mpr ⟨List.mem_append_right _ (List.mem_of_getElem? h), hg⟩
theorem x_sel {q : MethodName × Nat} (i : Nat) (h : lw_privs[i]? = some q) : Cond.selects q.1.cls q.1 q.1 ∈ x_ws := List.mem_filter.mpr ⟨List.mem_append_left _ (List.mem_map.mpr ⟨q, List.mem_of_getElem? h, rfl⟩), rfl⟩
def x_NF : List (String × Nat × String × String × String × String) := [("SequentMachine$Scribe", 62, "SequentMachine$Depth", "around", "I", "SequentMachine"), ("SequentMachine", 200, "SequentMachine$Shelf", "size", "I", "SequentMachine"), ("SequentMachine", 164, "SequentMachine$Hypotheses", "rows", "[LSequentMachine$Row;", "SequentMachine"), ("SequentMachine", 161, "SequentMachine$Hypotheses", "size", "I", "SequentMachine"), ("SequentMachine$Equation", 29, "SequentMachine$Row", "size", "I", "SequentMachine"), ("SequentMachine$Item", 23, "SequentMachine$Row", "size", "I", "SequentMachine"), ("SequentMachine$Hypotheses", 35, "SequentMachine$Row", "size", "I", "SequentMachine"), ("SequentMachine$Scribe", 47, "SequentMachine$Row", "size", "I", "SequentMachine"), ("SequentMachine", 210, "SequentMachine$Row", "size", "I", "SequentMachine"), ("SequentMachine", 204, "SequentMachine$Item", "sort", "I", "SequentMachine"), ("SequentMachine", 132, "SequentMachine$Item", "main", "LSequentMachine$Row;", "SequentMachine"), ("SequentMachine", 140, "SequentMachine$Item", "hypotheses", "LSequentMachine$Hypotheses;", "SequentMachine"), ("SequentMachine", 155, "SequentMachine$Equation", "type", "LSequentMachine$Row;", "SequentMachine"), ("SequentMachine", 147, "SequentMachine$Equation", "left", "LSequentMachine$Row;", "SequentMachine"), ("SequentMachine", 152, "SequentMachine$Equation", "right", "LSequentMachine$Row;", "SequentMachine")]
def x_NM : List (String × Nat × MethodName × String) := [("SequentMachine", 9, ⟨"SequentMachine$Scribe", "<init>", "()V"⟩, "SequentMachine"), ("SequentMachine$Scribe", 17, ⟨"SequentMachine$Depth", "<init>", "()V"⟩, "SequentMachine"), ("SequentMachine", 45, ⟨"SequentMachine$Hypotheses", "<init>", "()V"⟩, "SequentMachine")]
def x_N : List Cond := x_NF.map (fun q => Cond.fieldLinkNest q.1 q.2.1 q.2.2.1 q.2.2.2.1 q.2.2.2.2.1 q.2.2.2.2.2) ++ x_NM.map (fun q => Cond.methodLinkNest q.1 q.2.1 q.2.2.1 q.2.2.2)
theorem ck_0 : ∀ w ∈ u_ws "SequentMachine$Depth" ct_0 3, w ∈ x_ws := by
  intro w hw
  obtain ⟨k, hk, rfl⟩ := List.mem_map.mp hw
  have hk := List.mem_range.mp hk
  rcases (show k = 0 ∨ k = 1 ∨ k = 2 by omega) with rfl | rfl | rfl
  · exact x_at 37 (by decide +kernel) rfl
  · exact x_at 39 (by decide +kernel) rfl
  · exact x_at 41 (by decide +kernel) rfl
theorem ck_1 : ∀ w ∈ u_ws "SequentMachine$Equation" ct_1 3, w ∈ x_ws := by
  intro w hw
  obtain ⟨k, hk, rfl⟩ := List.mem_map.mp hw
  have hk := List.mem_range.mp hk
  rcases (show k = 0 ∨ k = 1 ∨ k = 2 by omega) with rfl | rfl | rfl
  · exact x_at 438 (by decide +kernel) rfl
  · exact x_at 440 (by decide +kernel) rfl
  · exact x_at 442 (by decide +kernel) rfl
theorem ck_2 : ∀ w ∈ u_ws "SequentMachine$Hypotheses" ct_2 2, w ∈ x_ws := by
  intro w hw
  obtain ⟨k, hk, rfl⟩ := List.mem_map.mp hw
  have hk := List.mem_range.mp hk
  rcases (show k = 0 ∨ k = 1 by omega) with rfl | rfl
  · exact x_at 89 (by decide +kernel) rfl
  · exact x_at 91 (by decide +kernel) rfl
theorem ck_3 : ∀ w ∈ u_ws "SequentMachine$Item" ct_3 3, w ∈ x_ws := by
  intro w hw
  obtain ⟨k, hk, rfl⟩ := List.mem_map.mp hw
  have hk := List.mem_range.mp hk
  rcases (show k = 0 ∨ k = 1 ∨ k = 2 by omega) with rfl | rfl | rfl
  · exact x_at 189 (by decide +kernel) rfl
  · exact x_at 191 (by decide +kernel) rfl
  · exact x_at 193 (by decide +kernel) rfl
theorem ck_4 : ∀ w ∈ u_ws "SequentMachine$Row" ct_4 3, w ∈ x_ws := by
  intro w hw
  obtain ⟨k, hk, rfl⟩ := List.mem_map.mp hw
  have hk := List.mem_range.mp hk
  rcases (show k = 0 ∨ k = 1 ∨ k = 2 by omega) with rfl | rfl | rfl
  · exact x_at 167 (by decide +kernel) rfl
  · exact x_at 169 (by decide +kernel) rfl
  · exact x_at 171 (by decide +kernel) rfl
theorem ck_5 : ∀ w ∈ u_ws "SequentMachine$Scribe" ct_5 4, w ∈ x_ws := by
  intro w hw
  obtain ⟨k, hk, rfl⟩ := List.mem_map.mp hw
  have hk := List.mem_range.mp hk
  rcases (show k = 0 ∨ k = 1 ∨ k = 2 ∨ k = 3 by omega) with rfl | rfl | rfl | rfl
  · exact x_at 51 (by decide +kernel) rfl
  · exact x_at 53 (by decide +kernel) rfl
  · exact x_at 55 (by decide +kernel) rfl
  · exact x_at 57 (by decide +kernel) rfl
theorem ck_6 : ∀ w ∈ u_ws "SequentMachine$Shelf" ct_6 2, w ∈ x_ws := by
  intro w hw
  obtain ⟨k, hk, rfl⟩ := List.mem_map.mp hw
  have hk := List.mem_range.mp hk
  rcases (show k = 0 ∨ k = 1 by omega) with rfl | rfl
  · exact x_at 71 (by decide +kernel) rfl
  · exact x_at 73 (by decide +kernel) rfl
theorem ck_7 : ∀ w ∈ u_ws "SequentMachine" ct_7 9, w ∈ x_ws := by
  intro w hw
  obtain ⟨k, hk, rfl⟩ := List.mem_map.mp hw
  have hk := List.mem_range.mp hk
  rcases (show k = 0 ∨ k = 1 ∨ k = 2 ∨ k = 3 ∨ k = 4 ∨ k = 5 ∨ k = 6 ∨ k = 7 ∨ k = 8 by omega) with rfl | rfl | rfl | rfl | rfl | rfl | rfl | rfl | rfl
  · exact x_at 103 (by decide +kernel) rfl
  · exact x_at 105 (by decide +kernel) rfl
  · exact x_at 107 (by decide +kernel) rfl
  · exact x_at 109 (by decide +kernel) rfl
  · exact x_at 111 (by decide +kernel) rfl
  · exact x_at 113 (by decide +kernel) rfl
  · exact x_at 115 (by decide +kernel) rfl
  · exact x_at 117 (by decide +kernel) rfl
  · exact x_at 119 (by decide +kernel) rfl
theorem ck_8 : ∀ w ∈ u_ws "SequentMachineModel" ct_8 15, w ∈ x_ws := by
  intro w hw
  obtain ⟨k, hk, rfl⟩ := List.mem_map.mp hw
  have hk := List.mem_range.mp hk
  rcases (show k = 0 ∨ k = 1 ∨ k = 2 ∨ k = 3 ∨ k = 4 ∨ k = 5 ∨ k = 6 ∨ k = 7 ∨ k = 8 ∨ k = 9 ∨ k = 10 ∨ k = 11 ∨ k = 12 ∨ k = 13 ∨ k = 14 by omega) with rfl | rfl | rfl | rfl | rfl | rfl | rfl | rfl | rfl | rfl | rfl | rfl | rfl | rfl | rfl
  · exact x_at 573 (by decide +kernel) rfl
  · exact x_at 575 (by decide +kernel) rfl
  · exact x_at 577 (by decide +kernel) rfl
  · exact x_at 579 (by decide +kernel) rfl
  · exact x_at 581 (by decide +kernel) rfl
  · exact x_at 583 (by decide +kernel) rfl
  · exact x_at 585 (by decide +kernel) rfl
  · exact x_at 587 (by decide +kernel) rfl
  · exact x_at 589 (by decide +kernel) rfl
  · exact x_at 591 (by decide +kernel) rfl
  · exact x_at 593 (by decide +kernel) rfl
  · exact x_at 595 (by decide +kernel) rfl
  · exact x_at 597 (by decide +kernel) rfl
  · exact x_at 599 (by decide +kernel) rfl
  · exact x_at 601 (by decide +kernel) rfl
end
section
/-! The plain machine: ints are whole numbers, references are places in one list of cells; a step of it is a step of the real one -/
abbrev xV : Type := Int ⊕ Option Nat
abbrev xC : Type := List Int ⊕ ((Nat × List (Option Nat)) ⊕ (Nat × List xV))
abbrev xH : Type := List xC × Nat
abbrev xD : Type := Nat × va_G × (Nat → ClassId)
abbrev xM : Type := MethodName × ByteArray × Nat × Option FieldType × Nat × Nat
def x_r (b : Nat) (r : Option Nat) : Option Nat := r.map (fun a => b + a)
def x_v (b : Nat) : xV → Value
  | .inl i => .int (Int32.ofInt i)
  | .inr r => va_rf (x_r b r)
def x_e (d : xD) : xC → va_E
  | .inl l => .inl (d.2.2 0, l.length, .inl (fun j => Int32.ofInt (l.getD j 0)))
  | .inr (.inl q) => .inl (d.2.2 (q.1 + 1), q.2.length, .inr (.inr (.inr (.inr (fun j => x_r d.1 (q.2.getD j none))))))
  | .inr (.inr o) => .inr (o.1, o.2.map (x_v d.1))
def x_R (d : xD) (h : xH) (H : Heap) : Prop := H.size = d.1 + h.1.length ∧ ∀ (i : Nat) (c : xC), h.1[i]? = some c → va_at d.2.1 cl_s (d.1 + i, x_e d c) H
theorem x_R.sing {d : xD} {h : xH} {H : Heap} {i : Nat} {c : xC} (hR : x_R d h H) (hi : h.1[i]? = some c) : va_P d.2.1 cl_s [(d.1 + i, x_e d c)] H := by
  intro k q hk
  cases k with
  | zero => cases hk; exact hR.2 i c hi
  | succ k => simp at hk
theorem x_R.set {d : xD} {h : xH} {H H1 : Heap} {i : Nat} {c' : xC} (hR : x_R d h H) (hi : i < h.1.length) (hz : H1.size = H.size) (ho : ∀ q : Nat, q ≠ d.1 + i → H1[q]? = H[q]?) (hc : va_at d.2.1 cl_s (d.1 + i, x_e d c') H1) : x_R d (h.1.set i c', h.2) H1 := by
  refine ⟨by rw [hz, hR.1]; simp, fun j c hj => ?_⟩
  by_cases hij : j = i
  · subst hij
    rw [List.getElem?_set_self hi] at hj
    cases hj
    exact hc
  · rw [List.getElem?_set_ne (Ne.symm hij)] at hj
    exact (hR.2 j c hj).kept (ho _ (fun e => hij (Nat.add_left_cancel e)))
theorem x_R.push {d : xD} {h : xH} {H H1 : Heap} {c' : xC} {n : Nat} (hR : x_R d h H) (hz : H1.size = H.size + 1) (ho : ∀ q : Nat, q < H.size → H1[q]? = H[q]?) (hc : va_at d.2.1 cl_s (H.size, x_e d c') H1) : x_R d (h.1 ++ [c'], n) H1 := by
  refine ⟨by rw [hz, hR.1]; simp; omega, fun j c hj => ?_⟩
  by_cases hlt : j < h.1.length
  · rw [List.getElem?_append_left hlt] at hj
    exact (hR.2 j c hj).kept (ho _ (by rw [hR.1]; exact Nat.add_lt_add_left hlt _))
  · rw [List.getElem?_append_right (by omega)] at hj
    have hz : j - h.1.length < 1 := (List.getElem?_eq_some_iff.mp hj).1
    have e : j = h.1.length := by omega
    subst e
    simp at hj
    subst hj
    rw [← hR.1]
    exact hc
/-! ints -/
def wr (x : Int) : Int := (x + 2147483648) % 4294967296 - 2147483648
def ir (x : Int) : Prop := -2147483648 ≤ x ∧ x < 2147483648
theorem wr_toInt (x : Int) : (Int32.ofInt x).toInt = wr x := by
  rw [Int32.toInt_ofInt]
  show Int.bmod x 4294967296 = wr x
  unfold Int.bmod wr
  simp only
  split <;> omega
theorem wr_id {x : Int} (h : ir x) : wr x = x := by
  unfold ir at h
  unfold wr
  omega
theorem wr_ir (x : Int) : ir (wr x) := by
  unfold ir wr
  omega
theorem x_i32 (x : Int32) : ir x.toInt := ⟨Int32.le_toInt x, Int32.toInt_lt x⟩
theorem x_wr (x : Int) : Int32.ofInt (wr x) = Int32.ofInt x := Int32.toInt_inj.mp (by rw [wr_toInt, wr_toInt, wr_id (wr_ir x)])
theorem x_le {a b : Int} (ha : ir a) (hb : ir b) : Int32.ofInt a ≤ Int32.ofInt b ↔ a ≤ b := by rw [Int32.le_iff_toInt_le, wr_toInt, wr_toInt, wr_id ha, wr_id hb]
theorem x_lt {a b : Int} (ha : ir a) (hb : ir b) : Int32.ofInt a < Int32.ofInt b ↔ a < b := by rw [Int32.lt_iff_toInt_lt, wr_toInt, wr_toInt, wr_id ha, wr_id hb]
theorem x_eq {a b : Int} (ha : ir a) (hb : ir b) : Int32.ofInt a = Int32.ofInt b ↔ a = b := by rw [← Int32.toInt_inj, wr_toInt, wr_toInt, wr_id ha, wr_id hb]
theorem ir_0 : ir 0 := by unfold ir; decide
theorem x_z : (0 : Int32) = Int32.ofInt 0 := by decide +kernel
theorem x_eq0 {a : Int} (ha : ir a) : Int32.ofInt a = 0 ↔ a = 0 := by rw [x_z, x_eq ha ir_0]
theorem x_lt0 {a : Int} (ha : ir a) : Int32.ofInt a < 0 ↔ a < 0 := by rw [x_z, x_lt ha ir_0]
theorem x_0lt {a : Int} (ha : ir a) : 0 < Int32.ofInt a ↔ 0 < a := by rw [x_z, x_lt ir_0 ha]
theorem x_le0 {a : Int} (ha : ir a) : Int32.ofInt a ≤ 0 ↔ a ≤ 0 := by rw [x_z, x_le ha ir_0]
theorem x_0le {a : Int} (ha : ir a) : 0 ≤ Int32.ofInt a ↔ 0 ≤ a := by rw [x_z, x_le ir_0 ha]
theorem x_cl {j : Int} (h0 : 0 ≤ j) (h1 : j < 2147483648) : (Int32.ofInt j).toNatClampNeg = j.toNat := by
  show (Int32.ofInt j).toInt.toNat = j.toNat
  rw [wr_toInt, wr_id ⟨by omega, h1⟩]
theorem x_n0 {j : Int} (h0 : 0 ≤ j) (h1 : j < 2147483648) : ¬ Int32.ofInt j < 0 := by
  rw [x_z, x_lt ⟨by omega, h1⟩ ir_0]
  omega
theorem x_in {j : Int} {n : Nat} (h0 : 0 ≤ j) (h1 : j.toNat < n) (hn : n < 2147483648) : vp_in (Int32.ofInt j) n := by
  intro q
  rcases q with q | q
  · exact x_n0 h0 (by omega) q
  · rw [x_cl h0 (by omega)] at q
    omega
/-! locals -/
def x_ll (b : Nat) (L : List (Option xV)) : List (Nat × Value) := (List.range L.length).filterMap (fun i => (L.getD i none).map (fun v => (i, x_v b v)))
theorem x_ll_mem {b : Nat} {L : List (Option xV)} {q : Nat × Value} : q ∈ x_ll b L ↔ ∃ v, L[q.1]? = some (some v) ∧ q.2 = x_v b v := by
  unfold x_ll
  rw [List.mem_filterMap]
  constructor
  · rintro ⟨i, hi, e⟩
    rw [List.mem_range] at hi
    rw [List.getD_eq_getElem?_getD] at e
    cases hL : L[i]? with
    | none => rw [hL] at e; simp at e
    | some o =>
      rw [hL] at e
      cases o with
      | none => simp at e
      | some v =>
        simp at e
        subst e
        exact ⟨v, hL, rfl⟩
  · rintro ⟨v, h1, h2⟩
    refine ⟨q.1, List.mem_range.mpr (List.getElem?_eq_some_iff.mp h1).1, ?_⟩
    rw [List.getD_eq_getElem?_getD, h1]
    simp
    rw [← h2]
theorem x_cat (b : Nat) (v : xV) : (x_v b v).category = 1 := by
  cases v with
  | inl i => rfl
  | inr r => cases r <;> rfl
abbrev x_L (b : Nat) (ls : Array Slot) (n : Nat) (L : List (Option xV)) : Prop := lv_has ls n (x_ll b L)
theorem x_L_get {b : Nat} {ls : Array Slot} {n : Nat} {L : List (Option xV)} {i : Nat} {v : xV} (h : x_L b ls n L) (hi : L[i]? = some (some v)) : ls[i]? = some (.val (x_v b v)) :=
  h.2.2 (i, x_v b v) (x_ll_mem.mpr ⟨v, hi, rfl⟩)
theorem x_L_set {b : Nat} {ls : Array Slot} {n : Nat} {L : List (Option xV)} {i : Nat} {v : xV} (h : lv_has ls n ((i, x_v b v) :: (x_ll b L).filter (fun q => !(q.1 == i) && !(q.1 + 1 == i && q.2.category == 2)))) : x_L b ls n (L.set i (some v)) := by
  refine ⟨h.1, h.2.1, fun q hq => h.2.2 q ?_⟩
  obtain ⟨u, h1, h2⟩ := x_ll_mem.mp hq
  obtain ⟨j, w0⟩ := q
  dsimp only at h1 h2
  subst h2
  by_cases hij : j = i
  · subst hij
    have hl : j < L.length := by
      have := (List.getElem?_eq_some_iff.mp h1).1
      simpa using this
    rw [List.getElem?_set_self hl] at h1
    cases h1
    exact List.mem_cons_self
  · rw [List.getElem?_set_ne (Ne.symm hij)] at h1
    refine List.mem_cons_of_mem _ (List.mem_filter.mpr ⟨x_ll_mem.mpr ⟨u, h1, rfl⟩, ?_⟩)
    simp [hij, x_cat]
/-! the judgements -/
def x_rm (M : xM) (mc ms : Nat) : Room := { frames := M.2.2.2.2.1, cells := mc, slots := ms, locals := M.2.2.2.2.2 }
def x_wM (M : xM) : List Cond := Cond.code M.1 M.2.1 M.2.2.1 M.2.2.2.1 :: x_ws
def x_tys (d : xD) : List (ClassId × FieldType) := [(d.2.2 0, .int), (d.2.2 1, .object "SequentMachine$Row"), (d.2.2 2, .object "SequentMachine$Item")]
def x_K (d : xD) (U : State) : Prop := va_K d.2.1 cl_s (x_tys d) U ∧ (∀ w ∈ x_N, va_Nw w U) ∧ va_AO "SequentMachine$Row" U ∧ va_AO "SequentMachine$Item" U
def x_Cx (M : xM) (p : Program) (s : State) (m : MethodId) (args : Array Value) (meth : Method) (c : Code) (d : xD) : Prop :=
  p.tables.exec = Jvm.exec ∧ c.code = M.2.1 ∧ c.maxLocals = M.2.2.1 ∧ s.vm.findClass M.1.cls = some m.cls ∧ (∀ w ∈ x_wM M, w.before args s = true) ∧ meth.sig.returnType = M.2.2.2.1 ∧ meth.locks = false ∧ meth.name = M.1.name ∧ x_K d s
def x_Q (d : xD) (r : Option xV) (hf : xH) : Array Value → State → Outcome → State → Prop := fun _ _ o t => o = .returned (r.map (x_v d.1)) ∧ x_R d hf t.heap
def x_B (M : xM) (pc : Nat) (L : List (Option xV)) (st : List xV) (h : xH) (r : Option xV) (hf : xH) : Prop :=
  (h.1.length ≤ hf.1.length ∧ h.2 ≤ hf.2) ∧ ∀ (p : Program) (l : Launch) (e : Env) (s : State) (m : MethodId) (args : Array Value) (below : List Frame) (meth : Method) (c : Code) (H : Heap) (locs : List Loc) (ls : Array Slot) (d : xD) (k0 n0 : Nat),
    x_Cx M p s m args meth c d → x_R d h H → x_L d.1 ls M.2.2.1 L → k0 ≤ h.1.length → n0 ≤ h.2 → (∀ q ∈ locs, d.1 ≤ q.base) →
    W p l e (x_rm M (hf.1.length - k0) (hf.2 - n0)) s m args below meth c H locs (h.1.length - k0) (h.2 - n0) (MQ below (x_Q d r hf) args s (hf.1.length - k0) (hf.2 - n0) (fun q => d.1 ≤ q)) (F0 m pc ls (st.map (x_v d.1)))
def x_S (M : xM) (pc : Nat) (L : List (Option xV)) (st : List xV) (h : xH) (pc' : Nat) (L' : List (Option xV)) (st' : List xV) (h' : xH) : Prop := ∀ (r : Option xV) (hf : xH), x_B M pc' L' st' h' r hf → x_B M pc L st h r hf
def x_X (M : xM) (pc : Nat) (L : List (Option xV)) (st : List xV) (h : xH) (Q : Option xV → xH → Prop) : Prop := ∃ r hf, x_B M pc L st h r hf ∧ Q r hf
def x_M (M : xM) (as : List xV) (h : xH) (r : Option xV) (hf : xH) : Prop := (h.1.length ≤ hf.1.length ∧ h.2 ≤ hf.2) ∧ ∀ (l : Launch) (d : xD), Met l M.1 (x_wM M) (x_rm M (hf.1.length - h.1.length) (hf.2 - h.2)) (va_Pc (as.map (x_v d.1)) (fun U => x_R d h U.heap ∧ x_K d U)) (x_Q d r hf) (hf.1.length - h.1.length) (hf.2 - h.2) (fun q => d.1 ≤ q)
theorem xx {M : xM} {pc : Nat} {L : List (Option xV)} {st : List xV} {h : xH} {pc' : Nat} {L' : List (Option xV)} {st' : List xV} {h' : xH} {Q : Option xV → xH → Prop} (hs : x_S M pc L st h pc' L' st' h') (hx : x_X M pc' L' st' h' Q) : x_X M pc L st h Q := by
  obtain ⟨r, hf, hb, hq⟩ := hx
  exact ⟨r, hf, hs r hf hb, hq⟩

section XS
variable {M : xM} {pc : Nat} {L : List (Option xV)} {st : List xV} {h : xH}
theorem xs_iconst {n : Int} (hd : decode M.2.1 pc = .ok (.iconst n, 1)) : x_S M pc L st h (pc + 1) L (.inl n :: st) h := by
  intro r hf hb
  obtain ⟨hle, hw⟩ := hb
  refine ⟨hle, fun p l e s m args below meth c H locs ls d k0 n0 hC hR hL h1 h2 hq => ?_⟩
  exact lv_iconst hC.1 hC.2.1 hd rfl (hw p l e s m args below meth c H locs ls d k0 n0 hC hR hL h1 h2 hq)
theorem xs_bipush {n : Int} (hd : decode M.2.1 pc = .ok (.bipush n, 2)) (hn : -128 ≤ n ∧ n < 128) : x_S M pc L st h (pc + 2) L (.inl n :: st) h := by
  intro r hf hb
  obtain ⟨hle, hw⟩ := hb
  refine ⟨hle, fun p l e s m args below meth c H locs ls d k0 n0 hC hR hL h1 h2 hq => ?_⟩
  have hv : (Int8.ofInt n).toInt32 = Int32.ofInt n := Int32.toInt_inj.mp (by rw [Int8.toInt_toInt32, Int8.toInt_ofInt_of_le (by omega) (by omega), Int32.toInt_ofInt_of_le (by omega) (by omega)])
  exact lv_bipush hC.1 hC.2.1 hd hv (hw p l e s m args below meth c H locs ls d k0 n0 hC hR hL h1 h2 hq)
theorem xs_sipush {n : Int} (hd : decode M.2.1 pc = .ok (.sipush n, 3)) (hn : -32768 ≤ n ∧ n < 32768) : x_S M pc L st h (pc + 3) L (.inl n :: st) h := by
  intro r hf hb
  obtain ⟨hle, hw⟩ := hb
  refine ⟨hle, fun p l e s m args below meth c H locs ls d k0 n0 hC hR hL h1 h2 hq => ?_⟩
  have hv : (Int16.ofInt n).toInt32 = Int32.ofInt n := Int32.toInt_inj.mp (by rw [Int16.toInt_toInt32, Int16.toInt_ofInt_of_le (by omega) (by omega), Int32.toInt_ofInt_of_le (by omega) (by omega)])
  exact lv_sipush hC.1 hC.2.1 hd hv (hw p l e s m args below meth c H locs ls d k0 n0 hC hR hL h1 h2 hq)
theorem xs_null (hd : decode M.2.1 pc = .ok (.aconst_null, 1)) : x_S M pc L st h (pc + 1) L (.inr none :: st) h := by
  intro r hf hb
  obtain ⟨hle, hw⟩ := hb
  refine ⟨hle, fun p l e s m args below meth c H locs ls d k0 n0 hC hR hL h1 h2 hq => ?_⟩
  exact lv_null hC.1 hC.2.1 hd (hw p l e s m args below meth c H locs ls d k0 n0 hC hR hL h1 h2 hq)
theorem xs_iload_n {k : Fin 4} {x : Int} (hd : decode M.2.1 pc = .ok (.iload_n k, 1)) (hl : L[(k : Nat)]? = some (some (.inl x))) : x_S M pc L st h (pc + 1) L (.inl x :: st) h := by
  intro r hf hb
  obtain ⟨hle, hw⟩ := hb
  refine ⟨hle, fun p l e s m args below meth c H locs ls d k0 n0 hC hR hL h1 h2 hq => ?_⟩
  exact lv_iload_n hC.1 hC.2.1 hd rfl (x_L_get hL hl) (hw p l e s m args below meth c H locs ls d k0 n0 hC hR hL h1 h2 hq)
theorem xs_iload {k : Nat} {x : Int} (hd : decode M.2.1 pc = .ok (.iload k, 2)) (hl : L[k]? = some (some (.inl x))) : x_S M pc L st h (pc + 2) L (.inl x :: st) h := by
  intro r hf hb
  obtain ⟨hle, hw⟩ := hb
  refine ⟨hle, fun p l e s m args below meth c H locs ls d k0 n0 hC hR hL h1 h2 hq => ?_⟩
  exact lv_iload hC.1 hC.2.1 hd (x_L_get hL hl) (hw p l e s m args below meth c H locs ls d k0 n0 hC hR hL h1 h2 hq)
theorem xs_aload_n {k : Fin 4} {x : Option Nat} (hd : decode M.2.1 pc = .ok (.aload_n k, 1)) (hl : L[(k : Nat)]? = some (some (.inr x))) : x_S M pc L st h (pc + 1) L (.inr x :: st) h := by
  intro r hf hb
  obtain ⟨hle, hw⟩ := hb
  refine ⟨hle, fun p l e s m args below meth c H locs ls d k0 n0 hC hR hL h1 h2 hq => ?_⟩
  cases x with
  | none => exact lv_aload_nN hC.1 hC.2.1 hd rfl (x_L_get hL hl) (hw p l e s m args below meth c H locs ls d k0 n0 hC hR hL h1 h2 hq)
  | some x => exact lv_aload_n hC.1 hC.2.1 hd rfl (x_L_get hL hl) (hw p l e s m args below meth c H locs ls d k0 n0 hC hR hL h1 h2 hq)
theorem xs_aload {k : Nat} {x : Option Nat} (hd : decode M.2.1 pc = .ok (.aload k, 2)) (hl : L[k]? = some (some (.inr x))) : x_S M pc L st h (pc + 2) L (.inr x :: st) h := by
  intro r hf hb
  obtain ⟨hle, hw⟩ := hb
  refine ⟨hle, fun p l e s m args below meth c H locs ls d k0 n0 hC hR hL h1 h2 hq => ?_⟩
  cases x with
  | none => exact lv_aloadN hC.1 hC.2.1 hd (x_L_get hL hl) (hw p l e s m args below meth c H locs ls d k0 n0 hC hR hL h1 h2 hq)
  | some x => exact lv_aload hC.1 hC.2.1 hd (x_L_get hL hl) (hw p l e s m args below meth c H locs ls d k0 n0 hC hR hL h1 h2 hq)
theorem xs_istore_n {k : Fin 4} {x : Int} (hd : decode M.2.1 pc = .ok (.istore_n k, 1)) (hn : (k : Nat) < M.2.2.1) : x_S M pc L (.inl x :: st) h (pc + 1) (L.set k (some (.inl x))) st h := by
  intro r hf hb
  obtain ⟨hle, hw⟩ := hb
  refine ⟨hle, fun p l e s m args below meth c H locs ls d k0 n0 hC hR hL h1 h2 hq => ?_⟩
  exact lv_istore_n hC.1 hC.2.1 hd rfl hL hn rfl (fun ls' hl' => hw p l e s m args below meth c H locs ls' d k0 n0 hC hR (x_L_set hl') h1 h2 hq)
theorem xs_istore {k : Nat} {x : Int} (hd : decode M.2.1 pc = .ok (.istore k, 2)) (hn : k < M.2.2.1) : x_S M pc L (.inl x :: st) h (pc + 2) (L.set k (some (.inl x))) st h := by
  intro r hf hb
  obtain ⟨hle, hw⟩ := hb
  refine ⟨hle, fun p l e s m args below meth c H locs ls d k0 n0 hC hR hL h1 h2 hq => ?_⟩
  exact lv_istore hC.1 hC.2.1 hd hL hn rfl (fun ls' hl' => hw p l e s m args below meth c H locs ls' d k0 n0 hC hR (x_L_set hl') h1 h2 hq)
theorem xs_astore_n {k : Fin 4} {x : Option Nat} (hd : decode M.2.1 pc = .ok (.astore_n k, 1)) (hn : (k : Nat) < M.2.2.1) : x_S M pc L (.inr x :: st) h (pc + 1) (L.set k (some (.inr x))) st h := by
  intro r hf hb
  obtain ⟨hle, hw⟩ := hb
  refine ⟨hle, fun p l e s m args below meth c H locs ls d k0 n0 hC hR hL h1 h2 hq => ?_⟩
  cases x with
  | none => exact lv_astore_nN hC.1 hC.2.1 hd rfl hL hn rfl (fun ls' hl' => hw p l e s m args below meth c H locs ls' d k0 n0 hC hR (x_L_set hl') h1 h2 hq)
  | some x => exact lv_astore_n hC.1 hC.2.1 hd rfl hL hn rfl (fun ls' hl' => hw p l e s m args below meth c H locs ls' d k0 n0 hC hR (x_L_set hl') h1 h2 hq)
theorem xs_astore {k : Nat} {x : Option Nat} (hd : decode M.2.1 pc = .ok (.astore k, 2)) (hn : k < M.2.2.1) : x_S M pc L (.inr x :: st) h (pc + 2) (L.set k (some (.inr x))) st h := by
  intro r hf hb
  obtain ⟨hle, hw⟩ := hb
  refine ⟨hle, fun p l e s m args below meth c H locs ls d k0 n0 hC hR hL h1 h2 hq => ?_⟩
  cases x with
  | none => exact lv_astoreN hC.1 hC.2.1 hd hL hn rfl (fun ls' hl' => hw p l e s m args below meth c H locs ls' d k0 n0 hC hR (x_L_set hl') h1 h2 hq)
  | some x => exact lv_astore hC.1 hC.2.1 hd hL hn rfl (fun ls' hl' => hw p l e s m args below meth c H locs ls' d k0 n0 hC hR (x_L_set hl') h1 h2 hq)
theorem xs_iinc {k : Nat} {x n : Int} (hd : decode M.2.1 pc = .ok (.iinc k n, 3)) (hl : L[k]? = some (some (.inl x))) (hn : k < M.2.2.1) : x_S M pc L st h (pc + 3) (L.set k (some (.inl (x + n)))) st h := by
  intro r hf hb
  obtain ⟨hle, hw⟩ := hb
  refine ⟨hle, fun p l e s m args below meth c H locs ls d k0 n0 hC hR hL h1 h2 hq => ?_⟩
  obtain ⟨i, hi⟩ := List.getElem?_of_mem (x_ll_mem (b := d.1) (q := (k, x_v d.1 (.inl x))).mpr ⟨_, hl, rfl⟩)
  exact lv_iinc hC.1 hC.2.1 hd hL hi (Int32.ofInt_add x n).symm hn rfl (fun ls' hl' => hw p l e s m args below meth c H locs ls' d k0 n0 hC hR (x_L_set hl') h1 h2 hq)
theorem xs_iadd {x y : Int} (hd : decode M.2.1 pc = .ok (.iadd, 1)) : x_S M pc L (.inl y :: .inl x :: st) h (pc + 1) L (.inl (x + y) :: st) h := by
  intro r hf hb
  obtain ⟨hle, hw⟩ := hb
  refine ⟨hle, fun p l e s m args below meth c H locs ls d k0 n0 hC hR hL h1 h2 hq => ?_⟩
  refine lv_iadd hC.1 hC.2.1 hd ?_
  rw [← Int32.ofInt_add]
  exact hw p l e s m args below meth c H locs ls d k0 n0 hC hR hL h1 h2 hq
theorem xs_isub {x y : Int} (hd : decode M.2.1 pc = .ok (.isub, 1)) : x_S M pc L (.inl y :: .inl x :: st) h (pc + 1) L (.inl (x - y) :: st) h := by
  intro r hf hb
  obtain ⟨hle, hw⟩ := hb
  refine ⟨hle, fun p l e s m args below meth c H locs ls d k0 n0 hC hR hL h1 h2 hq => ?_⟩
  refine lv_isub hC.1 hC.2.1 hd ?_
  rw [← Int32.ofInt_sub]
  exact hw p l e s m args below meth c H locs ls d k0 n0 hC hR hL h1 h2 hq
theorem xs_imul {x y : Int} (hd : decode M.2.1 pc = .ok (.imul, 1)) : x_S M pc L (.inl y :: .inl x :: st) h (pc + 1) L (.inl (x * y) :: st) h := by
  intro r hf hb
  obtain ⟨hle, hw⟩ := hb
  refine ⟨hle, fun p l e s m args below meth c H locs ls d k0 n0 hC hR hL h1 h2 hq => ?_⟩
  refine lv_imul hC.1 hC.2.1 hd ?_
  rw [← Int32.ofInt_mul]
  exact hw p l e s m args below meth c H locs ls d k0 n0 hC hR hL h1 h2 hq
theorem xs_dup {v : xV} (hd : decode M.2.1 pc = .ok (.dup, 1)) : x_S M pc L (v :: st) h (pc + 1) L (v :: v :: st) h := by
  intro r hf hb
  obtain ⟨hle, hw⟩ := hb
  refine ⟨hle, fun p l e s m args below meth c H locs ls d k0 n0 hC hR hL h1 h2 hq => ?_⟩
  exact lv_dup hC.1 hC.2.1 hd (x_cat _ _) (hw p l e s m args below meth c H locs ls d k0 n0 hC hR hL h1 h2 hq)
theorem xs_pop {v : xV} (hd : decode M.2.1 pc = .ok (.pop, 1)) : x_S M pc L (v :: st) h (pc + 1) L st h := by
  intro r hf hb
  obtain ⟨hle, hw⟩ := hb
  refine ⟨hle, fun p l e s m args below meth c H locs ls d k0 n0 hC hR hL h1 h2 hq => ?_⟩
  exact lv_pop hC.1 hC.2.1 hd (x_cat _ _) (hw p l e s m args below meth c H locs ls d k0 n0 hC hR hL h1 h2 hq)
theorem xs_dup_x1 {v u : xV} (hd : decode M.2.1 pc = .ok (.dup_x1, 1)) : x_S M pc L (v :: u :: st) h (pc + 1) L (v :: u :: v :: st) h := by
  intro r hf hb
  obtain ⟨hle, hw⟩ := hb
  refine ⟨hle, fun p l e s m args below meth c H locs ls d k0 n0 hC hR hL h1 h2 hq => ?_⟩
  exact lv_dup_x1 hC.1 hC.2.1 hd (x_cat _ _) (x_cat _ _) (hw p l e s m args below meth c H locs ls d k0 n0 hC hR hL h1 h2 hq)
theorem xs_dup_x2 {v u t : xV} (hd : decode M.2.1 pc = .ok (.dup_x2, 1)) : x_S M pc L (v :: u :: t :: st) h (pc + 1) L (v :: u :: t :: v :: st) h := by
  intro r hf hb
  obtain ⟨hle, hw⟩ := hb
  refine ⟨hle, fun p l e s m args below meth c H locs ls d k0 n0 hC hR hL h1 h2 hq => ?_⟩
  exact lv_dup_x2 hC.1 hC.2.1 hd (x_cat _ _) (x_cat _ _) (x_cat _ _) (hw p l e s m args below meth c H locs ls d k0 n0 hC hR hL h1 h2 hq)
theorem xs_dup2 {v u : xV} (hd : decode M.2.1 pc = .ok (.dup2, 1)) : x_S M pc L (v :: u :: st) h (pc + 1) L (v :: u :: v :: u :: st) h := by
  intro r hf hb
  obtain ⟨hle, hw⟩ := hb
  refine ⟨hle, fun p l e s m args below meth c H locs ls d k0 n0 hC hR hL h1 h2 hq => ?_⟩
  exact lv_dup2_11 hC.1 hC.2.1 hd (x_cat _ _) (x_cat _ _) (hw p l e s m args below meth c H locs ls d k0 n0 hC hR hL h1 h2 hq)
theorem xs_goto {off : Int} {tgt : Nat} (hd : decode M.2.1 pc = .ok (.goto off, 3)) (ht : (pc : Int) + off = (tgt : Int)) : x_S M pc L st h tgt L st h := by
  intro r hf hb
  obtain ⟨hle, hw⟩ := hb
  refine ⟨hle, fun p l e s m args below meth c H locs ls d k0 n0 hC hR hL h1 h2 hq => ?_⟩
  exact lv_goto hC.1 hC.2.1 hd ht (hw p l e s m args below meth c H locs ls d k0 n0 hC hR hL h1 h2 hq)
theorem xs_norm {x : Int} : x_S M pc L (.inl x :: st) h pc L (.inl (wr x) :: st) h := by
  intro r hf hb
  obtain ⟨hle, hw⟩ := hb
  refine ⟨hle, fun p l e s m args below meth c H locs ls d k0 n0 hC hR hL h1 h2 hq => ?_⟩
  have k := hw p l e s m args below meth c H locs ls d k0 n0 hC hR hL h1 h2 hq
  simp only [List.map_cons, x_v, x_wr] at k ⊢
  exact k
theorem xs_icmp_eq_t {x y : Int} {off : Int} {tgt : Nat} (hd : decode M.2.1 pc = .ok (.if_icmp .eq off, 3)) (ht : (pc : Int) + off = (tgt : Int)) (hx : ir x) (hy : ir y) (hc : x = y) : x_S M pc L (.inl y :: .inl x :: st) h tgt L st h := by
  intro r hf hb
  obtain ⟨hle, hw⟩ := hb
  refine ⟨hle, fun p l e s m args below meth c H locs ls d k0 n0 hC hR hL h1 h2 hq => ?_⟩
  exact lv_icmp_eq hC.1 hC.2.1 hd ht (fun _ => hw p l e s m args below meth c H locs ls d k0 n0 hC hR hL h1 h2 hq) (fun q => absurd ((x_eq hx hy).mpr hc) q)
theorem xs_icmp_eq_f {x y : Int} {off : Int} {tgt : Nat} (hd : decode M.2.1 pc = .ok (.if_icmp .eq off, 3)) (ht : (pc : Int) + off = (tgt : Int)) (hx : ir x) (hy : ir y) (hc : ¬ x = y) : x_S M pc L (.inl y :: .inl x :: st) h (pc + 3) L st h := by
  intro r hf hb
  obtain ⟨hle, hw⟩ := hb
  refine ⟨hle, fun p l e s m args below meth c H locs ls d k0 n0 hC hR hL h1 h2 hq => ?_⟩
  exact lv_icmp_eq hC.1 hC.2.1 hd ht (fun q => absurd ((x_eq hx hy).mp q) hc) (fun _ => hw p l e s m args below meth c H locs ls d k0 n0 hC hR hL h1 h2 hq)
theorem xx_icmp_eq {x y : Int} {off : Int} {tgt : Nat} (hd : decode M.2.1 pc = .ok (.if_icmp .eq off, 3)) (ht : (pc : Int) + off = (tgt : Int)) (hx : ir x) (hy : ir y) {Q : Option xV → xH → Prop} (kt : x = y → x_X M tgt L st h Q) (kf : ¬ x = y → x_X M (pc + 3) L st h Q) : x_X M pc L (.inl y :: .inl x :: st) h Q := by
  by_cases hc : x = y
  · exact xx (xs_icmp_eq_t hd ht hx hy hc) (kt hc)
  · exact xx (xs_icmp_eq_f hd ht hx hy hc) (kf hc)
theorem xs_if_eq_t {x : Int} {off : Int} {tgt : Nat} (hd : decode M.2.1 pc = .ok (.ifCond .eq off, 3)) (ht : (pc : Int) + off = (tgt : Int)) (hx : ir x) (hc : x = 0) : x_S M pc L (.inl x :: st) h tgt L st h := by
  intro r hf hb
  obtain ⟨hle, hw⟩ := hb
  refine ⟨hle, fun p l e s m args below meth c H locs ls d k0 n0 hC hR hL h1 h2 hq => ?_⟩
  exact lv_if_eq hC.1 hC.2.1 hd ht (fun _ => hw p l e s m args below meth c H locs ls d k0 n0 hC hR hL h1 h2 hq) (fun q => absurd ((x_eq0 hx).mpr hc) q)
theorem xs_if_eq_f {x : Int} {off : Int} {tgt : Nat} (hd : decode M.2.1 pc = .ok (.ifCond .eq off, 3)) (ht : (pc : Int) + off = (tgt : Int)) (hx : ir x) (hc : ¬ x = 0) : x_S M pc L (.inl x :: st) h (pc + 3) L st h := by
  intro r hf hb
  obtain ⟨hle, hw⟩ := hb
  refine ⟨hle, fun p l e s m args below meth c H locs ls d k0 n0 hC hR hL h1 h2 hq => ?_⟩
  exact lv_if_eq hC.1 hC.2.1 hd ht (fun q => absurd ((x_eq0 hx).mp q) hc) (fun _ => hw p l e s m args below meth c H locs ls d k0 n0 hC hR hL h1 h2 hq)
theorem xx_if_eq {x : Int} {off : Int} {tgt : Nat} (hd : decode M.2.1 pc = .ok (.ifCond .eq off, 3)) (ht : (pc : Int) + off = (tgt : Int)) (hx : ir x) {Q : Option xV → xH → Prop} (kt : x = 0 → x_X M tgt L st h Q) (kf : ¬ x = 0 → x_X M (pc + 3) L st h Q) : x_X M pc L (.inl x :: st) h Q := by
  by_cases hc : x = 0
  · exact xx (xs_if_eq_t hd ht hx hc) (kt hc)
  · exact xx (xs_if_eq_f hd ht hx hc) (kf hc)
theorem xs_icmp_ne_t {x y : Int} {off : Int} {tgt : Nat} (hd : decode M.2.1 pc = .ok (.if_icmp .ne off, 3)) (ht : (pc : Int) + off = (tgt : Int)) (hx : ir x) (hy : ir y) (hc : ¬ x = y) : x_S M pc L (.inl y :: .inl x :: st) h tgt L st h := by
  intro r hf hb
  obtain ⟨hle, hw⟩ := hb
  refine ⟨hle, fun p l e s m args below meth c H locs ls d k0 n0 hC hR hL h1 h2 hq => ?_⟩
  exact lv_icmp_ne hC.1 hC.2.1 hd ht (fun _ => hw p l e s m args below meth c H locs ls d k0 n0 hC hR hL h1 h2 hq) (fun q => absurd ((x_eq hx hy).mp q) hc)
theorem xs_icmp_ne_f {x y : Int} {off : Int} {tgt : Nat} (hd : decode M.2.1 pc = .ok (.if_icmp .ne off, 3)) (ht : (pc : Int) + off = (tgt : Int)) (hx : ir x) (hy : ir y) (hc : x = y) : x_S M pc L (.inl y :: .inl x :: st) h (pc + 3) L st h := by
  intro r hf hb
  obtain ⟨hle, hw⟩ := hb
  refine ⟨hle, fun p l e s m args below meth c H locs ls d k0 n0 hC hR hL h1 h2 hq => ?_⟩
  exact lv_icmp_ne hC.1 hC.2.1 hd ht (fun q => absurd ((x_eq hx hy).mpr hc) q) (fun _ => hw p l e s m args below meth c H locs ls d k0 n0 hC hR hL h1 h2 hq)
theorem xx_icmp_ne {x y : Int} {off : Int} {tgt : Nat} (hd : decode M.2.1 pc = .ok (.if_icmp .ne off, 3)) (ht : (pc : Int) + off = (tgt : Int)) (hx : ir x) (hy : ir y) {Q : Option xV → xH → Prop} (kt : ¬ x = y → x_X M tgt L st h Q) (kf : x = y → x_X M (pc + 3) L st h Q) : x_X M pc L (.inl y :: .inl x :: st) h Q := by
  by_cases hc : x = y
  · exact xx (xs_icmp_ne_f hd ht hx hy hc) (kf hc)
  · exact xx (xs_icmp_ne_t hd ht hx hy hc) (kt hc)
theorem xs_if_ne_t {x : Int} {off : Int} {tgt : Nat} (hd : decode M.2.1 pc = .ok (.ifCond .ne off, 3)) (ht : (pc : Int) + off = (tgt : Int)) (hx : ir x) (hc : ¬ x = 0) : x_S M pc L (.inl x :: st) h tgt L st h := by
  intro r hf hb
  obtain ⟨hle, hw⟩ := hb
  refine ⟨hle, fun p l e s m args below meth c H locs ls d k0 n0 hC hR hL h1 h2 hq => ?_⟩
  exact lv_if_ne hC.1 hC.2.1 hd ht (fun _ => hw p l e s m args below meth c H locs ls d k0 n0 hC hR hL h1 h2 hq) (fun q => absurd ((x_eq0 hx).mp q) hc)
theorem xs_if_ne_f {x : Int} {off : Int} {tgt : Nat} (hd : decode M.2.1 pc = .ok (.ifCond .ne off, 3)) (ht : (pc : Int) + off = (tgt : Int)) (hx : ir x) (hc : x = 0) : x_S M pc L (.inl x :: st) h (pc + 3) L st h := by
  intro r hf hb
  obtain ⟨hle, hw⟩ := hb
  refine ⟨hle, fun p l e s m args below meth c H locs ls d k0 n0 hC hR hL h1 h2 hq => ?_⟩
  exact lv_if_ne hC.1 hC.2.1 hd ht (fun q => absurd ((x_eq0 hx).mpr hc) q) (fun _ => hw p l e s m args below meth c H locs ls d k0 n0 hC hR hL h1 h2 hq)
theorem xx_if_ne {x : Int} {off : Int} {tgt : Nat} (hd : decode M.2.1 pc = .ok (.ifCond .ne off, 3)) (ht : (pc : Int) + off = (tgt : Int)) (hx : ir x) {Q : Option xV → xH → Prop} (kt : ¬ x = 0 → x_X M tgt L st h Q) (kf : x = 0 → x_X M (pc + 3) L st h Q) : x_X M pc L (.inl x :: st) h Q := by
  by_cases hc : x = 0
  · exact xx (xs_if_ne_f hd ht hx hc) (kf hc)
  · exact xx (xs_if_ne_t hd ht hx hc) (kt hc)
theorem xs_icmp_lt_t {x y : Int} {off : Int} {tgt : Nat} (hd : decode M.2.1 pc = .ok (.if_icmp .lt off, 3)) (ht : (pc : Int) + off = (tgt : Int)) (hx : ir x) (hy : ir y) (hc : x < y) : x_S M pc L (.inl y :: .inl x :: st) h tgt L st h := by
  intro r hf hb
  obtain ⟨hle, hw⟩ := hb
  refine ⟨hle, fun p l e s m args below meth c H locs ls d k0 n0 hC hR hL h1 h2 hq => ?_⟩
  exact lv_icmp_lt hC.1 hC.2.1 hd ht (fun _ => hw p l e s m args below meth c H locs ls d k0 n0 hC hR hL h1 h2 hq) (fun q => absurd ((x_lt hx hy).mpr hc) q)
theorem xs_icmp_lt_f {x y : Int} {off : Int} {tgt : Nat} (hd : decode M.2.1 pc = .ok (.if_icmp .lt off, 3)) (ht : (pc : Int) + off = (tgt : Int)) (hx : ir x) (hy : ir y) (hc : ¬ x < y) : x_S M pc L (.inl y :: .inl x :: st) h (pc + 3) L st h := by
  intro r hf hb
  obtain ⟨hle, hw⟩ := hb
  refine ⟨hle, fun p l e s m args below meth c H locs ls d k0 n0 hC hR hL h1 h2 hq => ?_⟩
  exact lv_icmp_lt hC.1 hC.2.1 hd ht (fun q => absurd ((x_lt hx hy).mp q) hc) (fun _ => hw p l e s m args below meth c H locs ls d k0 n0 hC hR hL h1 h2 hq)
theorem xx_icmp_lt {x y : Int} {off : Int} {tgt : Nat} (hd : decode M.2.1 pc = .ok (.if_icmp .lt off, 3)) (ht : (pc : Int) + off = (tgt : Int)) (hx : ir x) (hy : ir y) {Q : Option xV → xH → Prop} (kt : x < y → x_X M tgt L st h Q) (kf : ¬ x < y → x_X M (pc + 3) L st h Q) : x_X M pc L (.inl y :: .inl x :: st) h Q := by
  by_cases hc : x < y
  · exact xx (xs_icmp_lt_t hd ht hx hy hc) (kt hc)
  · exact xx (xs_icmp_lt_f hd ht hx hy hc) (kf hc)
theorem xs_if_lt_t {x : Int} {off : Int} {tgt : Nat} (hd : decode M.2.1 pc = .ok (.ifCond .lt off, 3)) (ht : (pc : Int) + off = (tgt : Int)) (hx : ir x) (hc : x < 0) : x_S M pc L (.inl x :: st) h tgt L st h := by
  intro r hf hb
  obtain ⟨hle, hw⟩ := hb
  refine ⟨hle, fun p l e s m args below meth c H locs ls d k0 n0 hC hR hL h1 h2 hq => ?_⟩
  exact lv_if_lt hC.1 hC.2.1 hd ht (fun _ => hw p l e s m args below meth c H locs ls d k0 n0 hC hR hL h1 h2 hq) (fun q => absurd ((x_lt0 hx).mpr hc) q)
theorem xs_if_lt_f {x : Int} {off : Int} {tgt : Nat} (hd : decode M.2.1 pc = .ok (.ifCond .lt off, 3)) (ht : (pc : Int) + off = (tgt : Int)) (hx : ir x) (hc : ¬ x < 0) : x_S M pc L (.inl x :: st) h (pc + 3) L st h := by
  intro r hf hb
  obtain ⟨hle, hw⟩ := hb
  refine ⟨hle, fun p l e s m args below meth c H locs ls d k0 n0 hC hR hL h1 h2 hq => ?_⟩
  exact lv_if_lt hC.1 hC.2.1 hd ht (fun q => absurd ((x_lt0 hx).mp q) hc) (fun _ => hw p l e s m args below meth c H locs ls d k0 n0 hC hR hL h1 h2 hq)
theorem xx_if_lt {x : Int} {off : Int} {tgt : Nat} (hd : decode M.2.1 pc = .ok (.ifCond .lt off, 3)) (ht : (pc : Int) + off = (tgt : Int)) (hx : ir x) {Q : Option xV → xH → Prop} (kt : x < 0 → x_X M tgt L st h Q) (kf : ¬ x < 0 → x_X M (pc + 3) L st h Q) : x_X M pc L (.inl x :: st) h Q := by
  by_cases hc : x < 0
  · exact xx (xs_if_lt_t hd ht hx hc) (kt hc)
  · exact xx (xs_if_lt_f hd ht hx hc) (kf hc)
theorem xs_icmp_ge_t {x y : Int} {off : Int} {tgt : Nat} (hd : decode M.2.1 pc = .ok (.if_icmp .ge off, 3)) (ht : (pc : Int) + off = (tgt : Int)) (hx : ir x) (hy : ir y) (hc : y ≤ x) : x_S M pc L (.inl y :: .inl x :: st) h tgt L st h := by
  intro r hf hb
  obtain ⟨hle, hw⟩ := hb
  refine ⟨hle, fun p l e s m args below meth c H locs ls d k0 n0 hC hR hL h1 h2 hq => ?_⟩
  exact lv_icmp_ge hC.1 hC.2.1 hd ht (fun _ => hw p l e s m args below meth c H locs ls d k0 n0 hC hR hL h1 h2 hq) (fun q => absurd ((x_le hy hx).mpr hc) q)
theorem xs_icmp_ge_f {x y : Int} {off : Int} {tgt : Nat} (hd : decode M.2.1 pc = .ok (.if_icmp .ge off, 3)) (ht : (pc : Int) + off = (tgt : Int)) (hx : ir x) (hy : ir y) (hc : ¬ y ≤ x) : x_S M pc L (.inl y :: .inl x :: st) h (pc + 3) L st h := by
  intro r hf hb
  obtain ⟨hle, hw⟩ := hb
  refine ⟨hle, fun p l e s m args below meth c H locs ls d k0 n0 hC hR hL h1 h2 hq => ?_⟩
  exact lv_icmp_ge hC.1 hC.2.1 hd ht (fun q => absurd ((x_le hy hx).mp q) hc) (fun _ => hw p l e s m args below meth c H locs ls d k0 n0 hC hR hL h1 h2 hq)
theorem xx_icmp_ge {x y : Int} {off : Int} {tgt : Nat} (hd : decode M.2.1 pc = .ok (.if_icmp .ge off, 3)) (ht : (pc : Int) + off = (tgt : Int)) (hx : ir x) (hy : ir y) {Q : Option xV → xH → Prop} (kt : y ≤ x → x_X M tgt L st h Q) (kf : ¬ y ≤ x → x_X M (pc + 3) L st h Q) : x_X M pc L (.inl y :: .inl x :: st) h Q := by
  by_cases hc : y ≤ x
  · exact xx (xs_icmp_ge_t hd ht hx hy hc) (kt hc)
  · exact xx (xs_icmp_ge_f hd ht hx hy hc) (kf hc)
theorem xs_if_ge_t {x : Int} {off : Int} {tgt : Nat} (hd : decode M.2.1 pc = .ok (.ifCond .ge off, 3)) (ht : (pc : Int) + off = (tgt : Int)) (hx : ir x) (hc : 0 ≤ x) : x_S M pc L (.inl x :: st) h tgt L st h := by
  intro r hf hb
  obtain ⟨hle, hw⟩ := hb
  refine ⟨hle, fun p l e s m args below meth c H locs ls d k0 n0 hC hR hL h1 h2 hq => ?_⟩
  exact lv_if_ge hC.1 hC.2.1 hd ht (fun _ => hw p l e s m args below meth c H locs ls d k0 n0 hC hR hL h1 h2 hq) (fun q => absurd ((x_0le hx).mpr hc) q)
theorem xs_if_ge_f {x : Int} {off : Int} {tgt : Nat} (hd : decode M.2.1 pc = .ok (.ifCond .ge off, 3)) (ht : (pc : Int) + off = (tgt : Int)) (hx : ir x) (hc : ¬ 0 ≤ x) : x_S M pc L (.inl x :: st) h (pc + 3) L st h := by
  intro r hf hb
  obtain ⟨hle, hw⟩ := hb
  refine ⟨hle, fun p l e s m args below meth c H locs ls d k0 n0 hC hR hL h1 h2 hq => ?_⟩
  exact lv_if_ge hC.1 hC.2.1 hd ht (fun q => absurd ((x_0le hx).mp q) hc) (fun _ => hw p l e s m args below meth c H locs ls d k0 n0 hC hR hL h1 h2 hq)
theorem xx_if_ge {x : Int} {off : Int} {tgt : Nat} (hd : decode M.2.1 pc = .ok (.ifCond .ge off, 3)) (ht : (pc : Int) + off = (tgt : Int)) (hx : ir x) {Q : Option xV → xH → Prop} (kt : 0 ≤ x → x_X M tgt L st h Q) (kf : ¬ 0 ≤ x → x_X M (pc + 3) L st h Q) : x_X M pc L (.inl x :: st) h Q := by
  by_cases hc : 0 ≤ x
  · exact xx (xs_if_ge_t hd ht hx hc) (kt hc)
  · exact xx (xs_if_ge_f hd ht hx hc) (kf hc)
theorem xs_icmp_gt_t {x y : Int} {off : Int} {tgt : Nat} (hd : decode M.2.1 pc = .ok (.if_icmp .gt off, 3)) (ht : (pc : Int) + off = (tgt : Int)) (hx : ir x) (hy : ir y) (hc : y < x) : x_S M pc L (.inl y :: .inl x :: st) h tgt L st h := by
  intro r hf hb
  obtain ⟨hle, hw⟩ := hb
  refine ⟨hle, fun p l e s m args below meth c H locs ls d k0 n0 hC hR hL h1 h2 hq => ?_⟩
  exact lv_icmp_gt hC.1 hC.2.1 hd ht (fun _ => hw p l e s m args below meth c H locs ls d k0 n0 hC hR hL h1 h2 hq) (fun q => absurd ((x_lt hy hx).mpr hc) q)
theorem xs_icmp_gt_f {x y : Int} {off : Int} {tgt : Nat} (hd : decode M.2.1 pc = .ok (.if_icmp .gt off, 3)) (ht : (pc : Int) + off = (tgt : Int)) (hx : ir x) (hy : ir y) (hc : ¬ y < x) : x_S M pc L (.inl y :: .inl x :: st) h (pc + 3) L st h := by
  intro r hf hb
  obtain ⟨hle, hw⟩ := hb
  refine ⟨hle, fun p l e s m args below meth c H locs ls d k0 n0 hC hR hL h1 h2 hq => ?_⟩
  exact lv_icmp_gt hC.1 hC.2.1 hd ht (fun q => absurd ((x_lt hy hx).mp q) hc) (fun _ => hw p l e s m args below meth c H locs ls d k0 n0 hC hR hL h1 h2 hq)
theorem xx_icmp_gt {x y : Int} {off : Int} {tgt : Nat} (hd : decode M.2.1 pc = .ok (.if_icmp .gt off, 3)) (ht : (pc : Int) + off = (tgt : Int)) (hx : ir x) (hy : ir y) {Q : Option xV → xH → Prop} (kt : y < x → x_X M tgt L st h Q) (kf : ¬ y < x → x_X M (pc + 3) L st h Q) : x_X M pc L (.inl y :: .inl x :: st) h Q := by
  by_cases hc : y < x
  · exact xx (xs_icmp_gt_t hd ht hx hy hc) (kt hc)
  · exact xx (xs_icmp_gt_f hd ht hx hy hc) (kf hc)
theorem xs_if_gt_t {x : Int} {off : Int} {tgt : Nat} (hd : decode M.2.1 pc = .ok (.ifCond .gt off, 3)) (ht : (pc : Int) + off = (tgt : Int)) (hx : ir x) (hc : 0 < x) : x_S M pc L (.inl x :: st) h tgt L st h := by
  intro r hf hb
  obtain ⟨hle, hw⟩ := hb
  refine ⟨hle, fun p l e s m args below meth c H locs ls d k0 n0 hC hR hL h1 h2 hq => ?_⟩
  exact lv_if_gt hC.1 hC.2.1 hd ht (fun _ => hw p l e s m args below meth c H locs ls d k0 n0 hC hR hL h1 h2 hq) (fun q => absurd ((x_0lt hx).mpr hc) q)
theorem xs_if_gt_f {x : Int} {off : Int} {tgt : Nat} (hd : decode M.2.1 pc = .ok (.ifCond .gt off, 3)) (ht : (pc : Int) + off = (tgt : Int)) (hx : ir x) (hc : ¬ 0 < x) : x_S M pc L (.inl x :: st) h (pc + 3) L st h := by
  intro r hf hb
  obtain ⟨hle, hw⟩ := hb
  refine ⟨hle, fun p l e s m args below meth c H locs ls d k0 n0 hC hR hL h1 h2 hq => ?_⟩
  exact lv_if_gt hC.1 hC.2.1 hd ht (fun q => absurd ((x_0lt hx).mp q) hc) (fun _ => hw p l e s m args below meth c H locs ls d k0 n0 hC hR hL h1 h2 hq)
theorem xx_if_gt {x : Int} {off : Int} {tgt : Nat} (hd : decode M.2.1 pc = .ok (.ifCond .gt off, 3)) (ht : (pc : Int) + off = (tgt : Int)) (hx : ir x) {Q : Option xV → xH → Prop} (kt : 0 < x → x_X M tgt L st h Q) (kf : ¬ 0 < x → x_X M (pc + 3) L st h Q) : x_X M pc L (.inl x :: st) h Q := by
  by_cases hc : 0 < x
  · exact xx (xs_if_gt_t hd ht hx hc) (kt hc)
  · exact xx (xs_if_gt_f hd ht hx hc) (kf hc)
theorem xs_icmp_le_t {x y : Int} {off : Int} {tgt : Nat} (hd : decode M.2.1 pc = .ok (.if_icmp .le off, 3)) (ht : (pc : Int) + off = (tgt : Int)) (hx : ir x) (hy : ir y) (hc : x ≤ y) : x_S M pc L (.inl y :: .inl x :: st) h tgt L st h := by
  intro r hf hb
  obtain ⟨hle, hw⟩ := hb
  refine ⟨hle, fun p l e s m args below meth c H locs ls d k0 n0 hC hR hL h1 h2 hq => ?_⟩
  exact lv_icmp_le hC.1 hC.2.1 hd ht (fun _ => hw p l e s m args below meth c H locs ls d k0 n0 hC hR hL h1 h2 hq) (fun q => absurd ((x_le hx hy).mpr hc) q)
theorem xs_icmp_le_f {x y : Int} {off : Int} {tgt : Nat} (hd : decode M.2.1 pc = .ok (.if_icmp .le off, 3)) (ht : (pc : Int) + off = (tgt : Int)) (hx : ir x) (hy : ir y) (hc : ¬ x ≤ y) : x_S M pc L (.inl y :: .inl x :: st) h (pc + 3) L st h := by
  intro r hf hb
  obtain ⟨hle, hw⟩ := hb
  refine ⟨hle, fun p l e s m args below meth c H locs ls d k0 n0 hC hR hL h1 h2 hq => ?_⟩
  exact lv_icmp_le hC.1 hC.2.1 hd ht (fun q => absurd ((x_le hx hy).mp q) hc) (fun _ => hw p l e s m args below meth c H locs ls d k0 n0 hC hR hL h1 h2 hq)
theorem xx_icmp_le {x y : Int} {off : Int} {tgt : Nat} (hd : decode M.2.1 pc = .ok (.if_icmp .le off, 3)) (ht : (pc : Int) + off = (tgt : Int)) (hx : ir x) (hy : ir y) {Q : Option xV → xH → Prop} (kt : x ≤ y → x_X M tgt L st h Q) (kf : ¬ x ≤ y → x_X M (pc + 3) L st h Q) : x_X M pc L (.inl y :: .inl x :: st) h Q := by
  by_cases hc : x ≤ y
  · exact xx (xs_icmp_le_t hd ht hx hy hc) (kt hc)
  · exact xx (xs_icmp_le_f hd ht hx hy hc) (kf hc)
theorem xs_if_le_t {x : Int} {off : Int} {tgt : Nat} (hd : decode M.2.1 pc = .ok (.ifCond .le off, 3)) (ht : (pc : Int) + off = (tgt : Int)) (hx : ir x) (hc : x ≤ 0) : x_S M pc L (.inl x :: st) h tgt L st h := by
  intro r hf hb
  obtain ⟨hle, hw⟩ := hb
  refine ⟨hle, fun p l e s m args below meth c H locs ls d k0 n0 hC hR hL h1 h2 hq => ?_⟩
  exact lv_if_le hC.1 hC.2.1 hd ht (fun _ => hw p l e s m args below meth c H locs ls d k0 n0 hC hR hL h1 h2 hq) (fun q => absurd ((x_le0 hx).mpr hc) q)
theorem xs_if_le_f {x : Int} {off : Int} {tgt : Nat} (hd : decode M.2.1 pc = .ok (.ifCond .le off, 3)) (ht : (pc : Int) + off = (tgt : Int)) (hx : ir x) (hc : ¬ x ≤ 0) : x_S M pc L (.inl x :: st) h (pc + 3) L st h := by
  intro r hf hb
  obtain ⟨hle, hw⟩ := hb
  refine ⟨hle, fun p l e s m args below meth c H locs ls d k0 n0 hC hR hL h1 h2 hq => ?_⟩
  exact lv_if_le hC.1 hC.2.1 hd ht (fun q => absurd ((x_le0 hx).mp q) hc) (fun _ => hw p l e s m args below meth c H locs ls d k0 n0 hC hR hL h1 h2 hq)
theorem xx_if_le {x : Int} {off : Int} {tgt : Nat} (hd : decode M.2.1 pc = .ok (.ifCond .le off, 3)) (ht : (pc : Int) + off = (tgt : Int)) (hx : ir x) {Q : Option xV → xH → Prop} (kt : x ≤ 0 → x_X M tgt L st h Q) (kf : ¬ x ≤ 0 → x_X M (pc + 3) L st h Q) : x_X M pc L (.inl x :: st) h Q := by
  by_cases hc : x ≤ 0
  · exact xx (xs_if_le_t hd ht hx hc) (kt hc)
  · exact xx (xs_if_le_f hd ht hx hc) (kf hc)
theorem xs_ifnull_t {off : Int} {tgt : Nat} (hd : decode M.2.1 pc = .ok (.ifnull off, 3)) (ht : (pc : Int) + off = (tgt : Int)) : x_S M pc L (.inr none :: st) h tgt L st h := by
  intro r hf hb
  obtain ⟨hle, hw⟩ := hb
  refine ⟨hle, fun p l e s m args below meth c H locs ls d k0 n0 hC hR hL h1 h2 hq => ?_⟩
  exact lv_ifnullN hC.1 hC.2.1 hd ht (hw p l e s m args below meth c H locs ls d k0 n0 hC hR hL h1 h2 hq)
theorem xs_ifnull_f {off : Int} {a : Nat} (hd : decode M.2.1 pc = .ok (.ifnull off, 3)) : x_S M pc L (.inr (some a) :: st) h (pc + 3) L st h := by
  intro r hf hb
  obtain ⟨hle, hw⟩ := hb
  refine ⟨hle, fun p l e s m args below meth c H locs ls d k0 n0 hC hR hL h1 h2 hq => ?_⟩
  exact lv_ifnull hC.1 hC.2.1 hd (hw p l e s m args below meth c H locs ls d k0 n0 hC hR hL h1 h2 hq)
theorem xs_ifnonnull_t {a : Nat} {off : Int} {tgt : Nat} (hd : decode M.2.1 pc = .ok (.ifnonnull off, 3)) (ht : (pc : Int) + off = (tgt : Int)) : x_S M pc L (.inr (some a) :: st) h tgt L st h := by
  intro r hf hb
  obtain ⟨hle, hw⟩ := hb
  refine ⟨hle, fun p l e s m args below meth c H locs ls d k0 n0 hC hR hL h1 h2 hq => ?_⟩
  exact lv_ifnonnull hC.1 hC.2.1 hd ht (hw p l e s m args below meth c H locs ls d k0 n0 hC hR hL h1 h2 hq)
theorem xs_ifnonnull_f {off : Int} (hd : decode M.2.1 pc = .ok (.ifnonnull off, 3)) : x_S M pc L (.inr none :: st) h (pc + 3) L st h := by
  intro r hf hb
  obtain ⟨hle, hw⟩ := hb
  refine ⟨hle, fun p l e s m args below meth c H locs ls d k0 n0 hC hR hL h1 h2 hq => ?_⟩
  exact lv_ifnonnullN hC.1 hC.2.1 hd (hw p l e s m args below meth c H locs ls d k0 n0 hC hR hL h1 h2 hq)
theorem xs_tableIn {dflt lo hi : Int} {offs : Array Int} {len : Nat} {x : Int} {off : Int} {tgt : Nat} (hd : decode M.2.1 pc = .ok (.tableswitch dflt lo hi offs, len)) (hx : ir x) (hlo : lo ≤ x) (hhi : x ≤ hi) (ho : offs[(x - lo).toNat]? = some off) (ht : (pc : Int) + off = (tgt : Int)) : x_S M pc L (.inl x :: st) h tgt L st h := by
  intro r hf hb
  obtain ⟨hle, hw⟩ := hb
  refine ⟨hle, fun p l e s m args below meth c H locs ls d k0 n0 hC hR hL h1 h2 hq => ?_⟩
  have e0 : (Int32.ofInt x).toInt = x := by rw [wr_toInt, wr_id hx]
  exact lv_tableIn hC.1 hC.2.1 hd (by rw [e0]; omega) (by rw [e0]; omega) (by rw [e0]; exact ho) ht (hw p l e s m args below meth c H locs ls d k0 n0 hC hR hL h1 h2 hq)
theorem xs_tableOut {dflt lo hi : Int} {offs : Array Int} {len : Nat} {x : Int} {tgt : Nat} (hd : decode M.2.1 pc = .ok (.tableswitch dflt lo hi offs, len)) (hx : ir x) (ho : x < lo ∨ hi < x) (ht : (pc : Int) + dflt = (tgt : Int)) : x_S M pc L (.inl x :: st) h tgt L st h := by
  intro r hf hb
  obtain ⟨hle, hw⟩ := hb
  refine ⟨hle, fun p l e s m args below meth c H locs ls d k0 n0 hC hR hL h1 h2 hq => ?_⟩
  have e0 : (Int32.ofInt x).toInt = x := by rw [wr_toInt, wr_id hx]
  exact lv_tableOut hC.1 hC.2.1 hd (by rw [e0]; exact ho) ht (hw p l e s m args below meth c H locs ls d k0 n0 hC hR hL h1 h2 hq)
end XS
end
section
/-! cells -/
def x_fl (own : String) (idx ci k : Nat) : Prop := ∃ (C : String) (T : u_T) (N : Nat), cl_s[ci]? = some (C, T, N) ∧ k < N ∧ (∀ w ∈ u_ws C T N, w ∈ x_ws) ∧ (T k).1 = C ∧ (Cond.fieldLink own idx C (T k).2.1 (T k).2.2.1 ∈ x_ws ∨ ∃ host, Cond.fieldLinkNest own idx C (T k).2.1 (T k).2.2.1 host ∈ x_N)
def x_pl (own nm : String) (idx ci k : Nat) (ty : FieldType) : Prop := ∃ (C : String) (T : u_T) (N : Nat) (ty0 : Nat → FieldType), cl_s[ci]? = some (C, T, N) ∧ k < N ∧ (∀ w ∈ u_ws C T N, w ∈ x_ws) ∧ (T k).1 = C ∧ (∀ j, j < N → parseFieldDescriptor (T j).2.2.1 = some (ty0 j)) ∧ ty0 k = ty ∧ (∀ a, a < N → ∀ b, b < N → a ≠ b → (T a).2.1 ≠ (T b).2.1) ∧ Cond.fieldLink own idx C (T k).2.1 (T k).2.2.1 ∈ x_ws ∧ ((T k).2.2.2 = false ∨ ((T k).2.2.2 = true ∧ nm = "<init>" ∧ C = own))
def x_nl (own : String) (idx ci : Nat) (dv : List xV) : Prop := ∃ (C : String) (T : u_T) (N : Nat) (ty0 : Nat → FieldType), cl_s[ci]? = some (C, T, N) ∧ dv.length = N ∧ (∀ w ∈ u_ws C T N, w ∈ x_ws) ∧ (∀ j, j < N → parseFieldDescriptor (T j).2.2.1 = some (ty0 j)) ∧ (∀ b j, j < N → defaultValue (ty0 j) = vp_V (dv.map (x_v b)) j) ∧ Cond.classLink own idx C ∈ x_ws ∧ Cond.instantiable C N ∈ x_ws ∧ Cond.initialized C ∈ x_ws
def x_cn (t : Nat) : String := if t = 0 then "SequentMachine$Row" else "SequentMachine$Item"
def x_al (own : String) (idx t : Nat) : Prop := t < 2 ∧ Cond.classLink own idx (x_cn t) ∈ x_ws
theorem x_tt (d : xD) {t : Nat} (ht : t < 2) : (x_tys d)[t + 1]? = some (d.2.2 (t + 1), .object (x_cn t)) := by
  rcases (show t = 0 ∨ t = 1 by omega) with rfl | rfl <;> rfl
def x_ft (ty : FieldType) (v : xV) : Prop := ∀ b, narrow ty (x_v b v) = x_v b v ∧ fits ty (x_v b v) = true
theorem x_ft_i (x : Int) : x_ft .int (.inl x) := fun b => ⟨rfl, rfl⟩
theorem x_ft_z0 : x_ft .boolean (.inl 0) := fun b => ⟨by show narrow .boolean (.int (Int32.ofInt 0)) = .int (Int32.ofInt 0); decide +kernel, by show fits .boolean (.int (Int32.ofInt 0)) = true; decide +kernel⟩
theorem x_ft_z1 : x_ft .boolean (.inl 1) := fun b => ⟨by show narrow .boolean (.int (Int32.ofInt 1)) = .int (Int32.ofInt 1); decide +kernel, by show fits .boolean (.int (Int32.ofInt 1)) = true; decide +kernel⟩
theorem x_ft_o (n : String) (r : Option Nat) : x_ft (.object n) (.inr r) := fun b => by cases r <;> exact ⟨rfl, rfl⟩
theorem x_ft_a (t : FieldType) (r : Option Nat) : x_ft (.array t) (.inr r) := fun b => by cases r <;> exact ⟨rfl, rfl⟩
section XC
variable {M : xM} {pc : Nat} {L : List (Option xV)} {st : List xV} {h : xH}
theorem xs_getf {a ci k idx : Nat} {fs : List xV} {v : xV} (hd : decode M.2.1 pc = .ok (.getfield idx, 3)) (hfl : x_fl M.1.cls idx ci k) (ha : h.1[a]? = some (.inr (.inr (ci, fs)))) (hv : fs[k]? = some v) : x_S M pc L (.inr (some a) :: st) h (pc + 3) L (v :: st) h := by
  intro r hf hb
  obtain ⟨hle, hw⟩ := hb
  refine ⟨hle, fun p l e s m args below meth c H locs ls d k0 n0 hC hR hL h1 h2 hq => ?_⟩
  have hC' := hC
  obtain ⟨hx, hbt, hml, hown, hts, hret, hlk, hnm, hK⟩ := hC'
  obtain ⟨C, T, N, hc, hk, hin, hT, hl⟩ := hfl
  rcases hl with hl | ⟨host, hl⟩
  · exact va_get hx hbt hts (fun w hw' => List.mem_cons_of_mem _ (hin w hw')) hown hK.1 (hR.sing ha) 0 rfl hc k hk (hts _ (List.mem_cons_of_mem _ hl)) (fun x hx' => by rw [← hT]; exact hx') (v := x_v d.1 v) (by rw [List.getElem?_map, hv]; rfl) hd (hw p l e s m args below meth c H locs ls d k0 n0 hC hR hL h1 h2 hq)
  · exact va_getN hx hbt hts (fun w hw' => List.mem_cons_of_mem _ (hin w hw')) hown hK.1 (hR.sing ha) 0 rfl hc k hk (va_Nw.use rfl (hK.2.1 _ hl)) (fun x hx' => by rw [← hT]; exact hx') (v := x_v d.1 v) (by rw [List.getElem?_map, hv]; rfl) hd (hw p l e s m args below meth c H locs ls d k0 n0 hC hR hL h1 h2 hq)
theorem xs_putf {a ci k idx : Nat} {fs : List xV} {v : xV} {ty : FieldType} (hd : decode M.2.1 pc = .ok (.putfield idx, 3)) (hp : x_pl M.1.cls M.1.name idx ci k ty) (ha : h.1[a]? = some (.inr (.inr (ci, fs)))) (hkl : k < fs.length) (hfit : x_ft ty v) : x_S M pc L (v :: .inr (some a) :: st) h (pc + 3) L st (h.1.set a (.inr (.inr (ci, fs.set k v))), h.2) := by
  intro r hf hb
  obtain ⟨hle, hw⟩ := hb
  refine ⟨by simpa using hle, fun p l e s m args below meth c H locs ls d k0 n0 hC hR hL h1 h2 hq => ?_⟩
  have hC' := hC
  obtain ⟨hx, hbt, hml, hown, hts, hret, hlk, hnm, hK⟩ := hC'
  obtain ⟨C, T, N, ty0, hc, hk, hin, hT, hty, hte, hnn, hl, hfin⟩ := hp
  subst hte
  have hin' : ∀ w ∈ u_ws C T N, w ∈ x_wM M := fun w hw' => List.mem_cons_of_mem _ (hin w hw')
  have hap := va_apart (own := M.1.cls) hts hin' ty0 hty hnn hK.1 hc
  obtain ⟨r0, g1, cell, q1, q2, q3, q4⟩ := hR.2 a _ ha
  have hr : r0 = (C, T, N) := Option.some.inj (g1.symm.trans hc)
  subst hr
  obtain ⟨hS, hfc, kC, hkC, hkind⟩ := hK.1.1 ci _ hc
  obtain ⟨cf, kf, fi, f, hi, hsl⟩ := hS k hk
  have hst := (u_facts hfc hkC (u_lays hts hin' hk) hi).1
  have hlay := hts _ (hin' _ (u_in_lay hk))
  unfold u_lay at hlay
  have hla : a < h.1.length := (List.getElem?_eq_some_iff.mp ha).1
  have hkk : ∀ H' : Heap, H'[d.1 + a]? = some (cell.setSlot f.slot (x_v d.1 v)) → H'.size = H.size → (∀ q : Nat, q ≠ d.1 + a → H'[q]? = H[q]?) → W p l e (x_rm M (hf.1.length - k0) (hf.2 - n0)) s m args below meth c H' (locs ++ [⟨d.1 + a, f.slot⟩]) (h.1.length - k0) (h.2 - n0) (MQ below (x_Q d r hf) args s (hf.1.length - k0) (hf.2 - n0) (fun q => d.1 ≤ q)) (F0 m (pc + 3) ls (st.map (x_v d.1))) := by
    intro H' e1 e2 e3
    rw [hsl] at e1
    refine W.cs (by rw [List.length_set]) rfl (hw p l e s m args below meth c H' (locs ++ [⟨d.1 + a, f.slot⟩]) ls d k0 n0 hC (hR.set hla e2 e3 ?_) hL (by rw [List.length_set]; exact h1) h2 (t_lc hq (Nat.le_add_right _ _)))
    exact ⟨_, hc, t_OB.to (V := updV (vp_V (fs.map (x_v d.1))) k (x_v d.1 v)) ⟨_, e1, q2, q3, t_set q4 hap hk _⟩ (fun j _ => by rw [vp_updV_set (by rw [List.length_map]; exact hkl), ← List.map_set])⟩
  rcases hfin with hfin | ⟨hfin, hn, hCo⟩
  · rw [if_neg (by rw [hfin]; decide)] at hlay
    have h6 := u_store hfc hkC hkind hlay hi (hty k hk) (hfit d.1).1 (hfit d.1).2
    exact W.putK hx hbt (f := f) ⟨hown, hts _ (List.mem_cons_of_mem _ hl), ⟨_, _, _, by rw [← hT]; exact hi⟩, hst⟩ (by rw [q2]; exact h6) q1 q3 (by rw [hsl]; exact k2_hasslot (q4 k hk)) rfl rfl hd hkk
  · rw [if_pos hfin] at hlay
    have hcf : m.cls = cf := by
      obtain ⟨_, _, c', _, _, _, -, -, hf', -, -, -, hown2, -⟩ := Cond.laysFinal_spec hlay
      have e1 : c' = cf := by have := hi.symm.trans hf'; simp at this; exact this.1.symm
      rw [hT, hCo] at hown2
      rw [← e1]
      exact Option.some.inj (hown.symm.trans hown2)
    have h6 := u_fits hfc hkC hkind (Or.inr hlay) hi (hty k hk) (hfit d.1).1 (hfit d.1).2
    exact W.putFinK hx hbt hown (hts _ (List.mem_cons_of_mem _ hl)) (by rw [← hT]; exact hi) hst hcf (hnm.trans hn) (by rw [q2]; exact h6) q1 q3 (by rw [hsl]; exact k2_hasslot (q4 k hk)) rfl rfl hd hkk
theorem xs_new {ci idx : Nat} {dv : List xV} (hd : decode M.2.1 pc = .ok (.new idx, 3)) (hn : x_nl M.1.cls idx ci dv) : x_S M pc L st h (pc + 3) L (.inr (some h.1.length) :: st) (h.1 ++ [.inr (.inr (ci, dv))], h.2 + dv.length) := by
  intro r hf hb
  obtain ⟨hle, hw⟩ := hb
  simp only [List.length_append, List.length_cons, List.length_nil] at hle
  refine ⟨by omega, fun p l e s m args below meth c H locs ls d k0 n0 hC hR hL h1 h2 hq => ?_⟩
  have hC' := hC
  obtain ⟨hx, hbt, hml, hown, hts, hret, hlk, hnm, hK⟩ := hC'
  obtain ⟨C, T, N, ty0, hc, hN, hin, hty, hdv, hcl, hins, hini⟩ := hn
  have hin' : ∀ w ∈ u_ws C T N, w ∈ x_wM M := fun w hw' => List.mem_cons_of_mem _ (hin w hw')
  have hKn := hK.1.1 ci _ hc
  subst hN
  refine W.newcK hx hbt hown (hts _ (List.mem_cons_of_mem _ hcl)) (hts _ (List.mem_cons_of_mem _ hins)) (hts _ (List.mem_cons_of_mem _ hini)) rfl hd (by show _ ≤ hf.1.length - k0; omega) (by show _ ≤ hf.2 - n0; omega) hKn.2.1 rfl fun H1 kC hkC e1 z1 o1 => ?_
  have k := hw p l e s m args below meth c H1 locs ls d k0 n0 hC (hR.push z1 o1 ⟨_, hc, (u_born ty0 hts hin' hKn hkC e1 hty).to (fun j hj => hdv d.1 j hj)⟩) hL (by simp; omega) (by simp; omega) hq
  refine W.cs (cells' := (h.1 ++ ([Sum.inr (Sum.inr (ci, dv))] : List xC)).length - k0) (slots' := h.2 + dv.length - n0) (by simp; omega) (by omega) ?_
  rw [hR.1]
  exact k
theorem xs_newarr {idx : Nat} {n : Int} (hd : decode M.2.1 pc = .ok (.newarray .int, 2)) (hA : Cond.arrayClass .int ∈ x_ws) (h0 : 0 ≤ n) (hn1 : n ≤ 100000) : x_S M pc L (.inl n :: st) h (pc + 2) L (.inr (some h.1.length) :: st) (h.1 ++ [.inl (List.replicate n.toNat 0)], h.2 + n.toNat) := by
  intro r hf hb
  obtain ⟨hle, hw⟩ := hb
  simp only [List.length_append, List.length_cons, List.length_nil] at hle
  refine ⟨by omega, fun p l e s m args below meth c H locs ls d k0 n0 hC hR hL h1 h2 hq => ?_⟩
  have hC' := hC
  obtain ⟨hx, hbt, hml, hown, hts, hret, hlk, hnm, hK⟩ := hC'
  have hcl := x_cl h0 (by omega)
  refine va_newaK (atype := .int) (N := n.toNat) hx hbt (hts _ (List.mem_cons_of_mem _ hA)) rfl hd rfl (x_n0 h0 (by omega)) hcl (by show n.toNat * 4 ≤ _; omega) (by show _ ≤ hf.1.length - k0; omega) (by show _ ≤ hf.2 - n0; omega) rfl fun H1 cA e1 z1 o1 hAr hNm => ?_
  have hcA : cA = d.2.2 0 := Option.some.inj (hNm.symm.trans (hK.1.2 0 _ rfl).2)
  subst hcA
  have k := hw p l e s m args below meth c H1 locs ls d k0 n0 hC (hR.push (c' := .inl (List.replicate n.toNat 0)) z1 o1 (by
    show H1[H.size]? = some (vp_cell _ _)
    rw [e1, vp_cell_i, List.length_replicate]
    congr 2
    funext j
    rw [List.getD_eq_getElem?_getD, List.getElem?_replicate]
    split <;> rfl)) hL (by simp; omega) (by simp; omega) hq
  refine W.cs (cells' := (h.1 ++ ([Sum.inl (List.replicate n.toNat 0)] : List xC)).length - k0) (slots' := h.2 + n.toNat - n0) (by simp; omega) (by omega) ?_
  rw [hR.1]
  exact k
theorem xs_anew {idx t : Nat} {n : Int} (hd : decode M.2.1 pc = .ok (.anewarray idx, 3)) (hA : x_al M.1.cls idx t) (h0 : 0 ≤ n) (hn1 : n ≤ 100000) : x_S M pc L (.inl n :: st) h (pc + 3) L (.inr (some h.1.length) :: st) (h.1 ++ [.inr (.inl (t, List.replicate n.toNat none))], h.2 + n.toNat) := by
  intro r hf hb
  obtain ⟨hle, hw⟩ := hb
  simp only [List.length_append, List.length_cons, List.length_nil] at hle
  refine ⟨by omega, fun p l e s m args below meth c H locs ls d k0 n0 hC hR hL h1 h2 hq => ?_⟩
  have hC' := hC
  obtain ⟨hx, hbt, hml, hown, hts, hret, hlk, hnm, hK⟩ := hC'
  obtain ⟨ht, hcl⟩ := hA
  have hcn := x_cl h0 (by omega)
  have hov : va_AO (x_cn t) s := by
    rcases (show t = 0 ∨ t = 1 by omega) with rfl | rfl
    · exact hK.2.2.1
    · exact hK.2.2.2
  refine W.anew hx hbt hown (hts _ (List.mem_cons_of_mem _ hcl)) (va_AO.use hov) rfl hd rfl (x_n0 h0 (by omega)) (by rw [hcn]; omega) (by show _ ≤ hf.1.length - k0; omega) (by show _ ≤ hf.2 - n0; rw [hcn]; omega) fun cA kA comp f1 f2 f3 f4 => ?_
  obtain ⟨-, kA', comp', -, -, -, g4⟩ := hK.1.2 (t + 1) _ (x_tt d ht)
  have hcA : cA = d.2.2 (t + 1) := Option.some.inj (f1.symm.trans g4)
  subst hcA
  rw [hcn]
  generalize hH1 : H.push ({ cls := d.2.2 (t + 1), slots := Array.replicate n.toNat .null, vm := .none } : Cell) = H1
  have z1 : H1.size = H.size + 1 := by rw [← hH1, Array.size_push]
  have e1 : H1[H.size]? = some (arrV (d.2.2 (t + 1)) n.toNat (fun _ => .null)) := by rw [← hH1, Array.getElem?_push_size, ← arrV_new]
  have o1 : ∀ q : Nat, q < H.size → H1[q]? = H[q]? := fun q hq => by rw [← hH1, Array.getElem?_push, if_neg (Nat.ne_of_lt hq)]
  have k := hw p l e s m args below meth c H1 locs ls d k0 n0 hC (hR.push (c' := .inr (.inl (t, List.replicate n.toNat none))) z1 o1 (by
    show H1[H.size]? = some (vp_cell _ _)
    rw [e1, vp_cell_q, List.length_replicate]
    congr 2
    funext j
    rw [List.getD_eq_getElem?_getD, List.getElem?_replicate]
    split <;> rfl)) hL (by simp; omega) (by simp; omega) hq
  refine W.cs (cells' := (h.1 ++ ([Sum.inr (Sum.inl (t, List.replicate n.toNat none))] : List xC)).length - k0) (slots' := h.2 + n.toNat - n0) (by simp; omega) (by omega) ?_
  rw [hR.1]
  exact k
theorem xs_alenI {a : Nat} {q : List Int} (hd : decode M.2.1 pc = .ok (.arraylength, 1)) (ha : h.1[a]? = some (.inl q)) : x_S M pc L (.inr (some a) :: st) h (pc + 1) L (.inl (q.length : Int) :: st) h := by
  intro r hf hb
  obtain ⟨hle, hw⟩ := hb
  refine ⟨hle, fun p l e s m args below meth c H locs ls d k0 n0 hC hR hL h1 h2 hq => ?_⟩
  have hC' := hC
  obtain ⟨hx, hbt, hml, hown, hts, hret, hlk, hnm, hK⟩ := hC'
  exact va_alen hx hbt hK.1 (hR.sing ha) 0 0 rfl rfl (by rw [← Int32.ofInt_eq_ofNat]) hd (hw p l e s m args below meth c H locs ls d k0 n0 hC hR hL h1 h2 hq)
theorem xs_alenR {a t : Nat} {q : List (Option Nat)} (hd : decode M.2.1 pc = .ok (.arraylength, 1)) (ht : t < 2) (ha : h.1[a]? = some (.inr (.inl (t, q)))) : x_S M pc L (.inr (some a) :: st) h (pc + 1) L (.inl (q.length : Int) :: st) h := by
  intro r hf hb
  obtain ⟨hle, hw⟩ := hb
  refine ⟨hle, fun p l e s m args below meth c H locs ls d k0 n0 hC hR hL h1 h2 hq => ?_⟩
  have hC' := hC
  obtain ⟨hx, hbt, hml, hown, hts, hret, hlk, hnm, hK⟩ := hC'
  exact va_alen hx hbt hK.1 (hR.sing ha) 0 (t + 1) rfl (x_tt d ht) (by rw [← Int32.ofInt_eq_ofNat]) hd (hw p l e s m args below meth c H locs ls d k0 n0 hC hR hL h1 h2 hq)
theorem xs_iald {a : Nat} {q : List Int} {j x : Int} (hd : decode M.2.1 pc = .ok (.iaload, 1)) (ha : h.1[a]? = some (.inl q)) (h0 : 0 ≤ j) (hj : q[j.toNat]? = some x) (hql : q.length < 2147483648) : x_S M pc L (.inl j :: .inr (some a) :: st) h (pc + 1) L (.inl x :: st) h := by
  intro r hf hb
  obtain ⟨hle, hw⟩ := hb
  refine ⟨hle, fun p l e s m args below meth c H locs ls d k0 n0 hC hR hL h1 h2 hq => ?_⟩
  have hC' := hC
  obtain ⟨hx, hbt, hml, hown, hts, hret, hlk, hnm, hK⟩ := hC'
  have hlt : j.toNat < q.length := (List.getElem?_eq_some_iff.mp hj).1
  refine va_iald hx hbt hK.1 (hR.sing ha) 0 0 rfl rfl (x_in h0 hlt hql) hd ?_
  have e1 : Int32.ofInt (q.getD (Int32.ofInt j).toNatClampNeg 0) = Int32.ofInt x := by rw [x_cl h0 (by omega), List.getD_eq_getElem?_getD, hj]; rfl
  rw [e1]
  exact hw p l e s m args below meth c H locs ls d k0 n0 hC hR hL h1 h2 hq
theorem xs_iast {a : Nat} {q : List Int} {j x : Int} (hd : decode M.2.1 pc = .ok (.iastore, 1)) (ha : h.1[a]? = some (.inl q)) (h0 : 0 ≤ j) (hlt : j.toNat < q.length) (hql : q.length < 2147483648) : x_S M pc L (.inl x :: .inl j :: .inr (some a) :: st) h (pc + 1) L st (h.1.set a (.inl (q.set j.toNat x)), h.2) := by
  intro r hf hb
  obtain ⟨hle, hw⟩ := hb
  refine ⟨by simpa using hle, fun p l e s m args below meth c H locs ls d k0 n0 hC hR hL h1 h2 hq => ?_⟩
  have hC' := hC
  obtain ⟨hx, hbt, hml, hown, hts, hret, hlk, hnm, hK⟩ := hC'
  have hla : a < h.1.length := (List.getElem?_eq_some_iff.mp ha).1
  refine W.iast hx hbt (hR.2 a _ ha) ((hK.1.2 0 _ rfl).1 q.length (fun i => .int (Int32.ofInt (q.getD i 0)))) (fun z => by cases z) (by show ¬ (_ < 0 ∨ (arrV _ _ _).slots.size ≤ _); rw [arrV_size]; exact x_in h0 hlt hql) rfl rfl hd fun H1 e1 z1 o1 => ?_
  refine W.cs (by rw [List.length_set]) rfl (hw p l e s m args below meth c H1 (locs ++ [⟨d.1 + a, (Int32.ofInt j).toNatClampNeg⟩]) ls d k0 n0 hC (hR.set hla z1 o1 ?_) hL (by rw [List.length_set]; exact h1) h2 (t_lc hq (Nat.le_add_right _ _)))
  show H1[d.1 + a]? = some (vp_cell _ _)
  rw [e1]
  rw [vp_cell_i, vp_cell_i, arrV_store, List.length_set, x_cl h0 (by omega)]
  congr 2
  funext i
  by_cases hi : i = j.toNat
  · subst hi
    simp [updV, List.getD_eq_getElem?_getD, List.getElem?_set_self hlt]
  · simp [updV, hi, List.getD_eq_getElem?_getD, List.getElem?_set_ne (Ne.symm hi)]
theorem xs_aald {a t : Nat} {q : List (Option Nat)} {j : Int} {x : Option Nat} (hd : decode M.2.1 pc = .ok (.aaload, 1)) (ht : t < 2) (ha : h.1[a]? = some (.inr (.inl (t, q)))) (h0 : 0 ≤ j) (hj : q[j.toNat]? = some x) (hql : q.length < 2147483648) : x_S M pc L (.inl j :: .inr (some a) :: st) h (pc + 1) L (.inr x :: st) h := by
  intro r hf hb
  obtain ⟨hle, hw⟩ := hb
  refine ⟨hle, fun p l e s m args below meth c H locs ls d k0 n0 hC hR hL h1 h2 hq => ?_⟩
  have hC' := hC
  obtain ⟨hx, hbt, hml, hown, hts, hret, hlk, hnm, hK⟩ := hC'
  have hlt : j.toNat < q.length := (List.getElem?_eq_some_iff.mp hj).1
  refine va_aldq hx hbt hK.1 (hR.sing ha) 0 (t + 1) rfl (x_tt d ht) (x_in h0 hlt hql) hd ?_
  have e1 : x_r d.1 (q.getD (Int32.ofInt j).toNatClampNeg none) = x_r d.1 x := by rw [x_cl h0 (by omega), List.getD_eq_getElem?_getD, hj]; rfl
  rw [e1]
  exact hw p l e s m args below meth c H locs ls d k0 n0 hC hR hL h1 h2 hq
theorem xs_aastN {a t : Nat} {q : List (Option Nat)} {j : Int} (hd : decode M.2.1 pc = .ok (.aastore, 1)) (ht : t < 2) (ha : h.1[a]? = some (.inr (.inl (t, q)))) (h0 : 0 ≤ j) (hlt : j.toNat < q.length) (hql : q.length < 2147483648) : x_S M pc L (.inr none :: .inl j :: .inr (some a) :: st) h (pc + 1) L st (h.1.set a (.inr (.inl (t, q.set j.toNat none))), h.2) := by
  intro r hf hb
  obtain ⟨hle, hw⟩ := hb
  refine ⟨by simpa using hle, fun p l e s m args below meth c H locs ls d k0 n0 hC hR hL h1 h2 hq => ?_⟩
  have hC' := hC
  obtain ⟨hx, hbt, hml, hown, hts, hret, hlk, hnm, hK⟩ := hC'
  have hla : a < h.1.length := (List.getElem?_eq_some_iff.mp ha).1
  refine va_WaastN (C := x_cn t) hx hbt (hR.2 a _ ha) ((hK.1.2 (t + 1) _ (x_tt d ht)).1 q.length (fun i => va_rf (x_r d.1 (q.getD i none)))) (fun z => by cases z) (by show ¬ (_ < 0 ∨ (arrV _ _ _).slots.size ≤ _); rw [arrV_size]; exact x_in h0 hlt hql) rfl rfl hd fun H1 e1 z1 o1 => ?_
  refine W.cs (by rw [List.length_set]) rfl (hw p l e s m args below meth c H1 (locs ++ [⟨d.1 + a, (Int32.ofInt j).toNatClampNeg⟩]) ls d k0 n0 hC (hR.set hla z1 o1 ?_) hL (by rw [List.length_set]; exact h1) h2 (t_lc hq (Nat.le_add_right _ _)))
  show H1[d.1 + a]? = some (vp_cell _ _)
  rw [e1]
  rw [vp_cell_q, vp_cell_q, arrV_store, List.length_set, x_cl h0 (by omega)]
  congr 2
  funext i
  by_cases hi : i = j.toNat
  · subst hi
    simp [updV, List.getD_eq_getElem?_getD, List.getElem?_set_self hlt, va_rf, x_r]
  · simp [updV, hi, List.getD_eq_getElem?_getD, List.getElem?_set_ne (Ne.symm hi)]
theorem xs_aast {a t v ci : Nat} {q : List (Option Nat)} {fs : List xV} {j : Int} (hd : decode M.2.1 pc = .ok (.aastore, 1)) (ht : t < 2) (ha : h.1[a]? = some (.inr (.inl (t, q)))) (hv : h.1[v]? = some (.inr (.inr (ci, fs)))) (hci : (cl_s[ci]?).map (fun z => z.1) = some (x_cn t)) (h0 : 0 ≤ j) (hlt : j.toNat < q.length) (hql : q.length < 2147483648) : x_S M pc L (.inr (some v) :: .inl j :: .inr (some a) :: st) h (pc + 1) L st (h.1.set a (.inr (.inl (t, q.set j.toNat (some v)))), h.2) := by
  intro r hf hb
  obtain ⟨hle, hw⟩ := hb
  refine ⟨by simpa using hle, fun p l e s m args below meth c H locs ls d k0 n0 hC hR hL h1 h2 hq => ?_⟩
  have hC' := hC
  obtain ⟨hx, hbt, hml, hown, hts, hret, hlk, hnm, hK⟩ := hC'
  have hla : a < h.1.length := (List.getElem?_eq_some_iff.mp ha).1
  obtain ⟨r0, g0, cellV, g1, g2, g3, -⟩ := hR.2 v _ hv
  rw [g0] at hci
  have hcn : r0.1 = x_cn t := Option.some.inj hci
  have hcls := (hK.1.1 ci r0 g0).2
  obtain ⟨kA, comp, k1, k2, k3, -⟩ := (hK.1.2 (t + 1) _ (x_tt d ht)).2
  have hcomp : comp = d.2.1.1 ci := Option.some.inj (k3.symm.trans (by rw [← hcn]; exact hcls.1))
  subst hcomp
  obtain ⟨kC, hkC, -⟩ := hcls.2
  have hin := x_in h0 hlt hql
  refine W.aast hx hbt (hR.2 a _ ha) (fun z hz => by cases hz) (fun hz => by cases hz) k1 k2 rfl hkC ⟨fun z => hin (Or.inl z), by show _ < (arrV _ _ _).slots.size; rw [arrV_size, x_cl h0 (by omega)]; exact hlt⟩ g1 (fun z hz => by rw [g3] at hz; cases hz) (by rw [g2]; exact hkC) (by rw [g2]; exact va_assign hcls) rfl rfl hd fun H1 e1 z1 o1 => ?_
  refine W.cs (by rw [List.length_set]) rfl (hw p l e s m args below meth c H1 (locs ++ [⟨d.1 + a, (Int32.ofInt j).toNatClampNeg⟩]) ls d k0 n0 hC (hR.set hla z1 o1 ?_) hL (by rw [List.length_set]; exact h1) h2 (t_lc hq (Nat.le_add_right _ _)))
  show H1[d.1 + a]? = some (vp_cell _ _)
  rw [e1]
  rw [vp_cell_q, vp_cell_q, arrV_store, List.length_set, x_cl h0 (by omega)]
  congr 2
  funext i
  by_cases hi : i = j.toNat
  · subst hi
    simp [updV, List.getD_eq_getElem?_getD, List.getElem?_set_self hlt, va_rf, x_r]
  · simp [updV, hi, List.getD_eq_getElem?_getD, List.getElem?_set_ne (Ne.symm hi)]
/-! ends -/
theorem xb_i {x : Int} (hd : decode M.2.1 pc = .ok (.ireturn, 1)) (hr : M.2.2.2.1 = some .int) : x_B M pc L [.inl x] h (some (.inl x)) h := by
  refine ⟨⟨Nat.le_refl _, Nat.le_refl _⟩, fun p l e s m args below meth c H locs ls d k0 n0 hC hR hL h1 h2 hq => ?_⟩
  obtain ⟨hx, hbt, hml, hown, hts, hret, hlk, hnm, hK⟩ := hC
  exact W.iret hx hbt (hret.trans hr) (fun t ht _ => ⟨rfl, by rw [ht]; exact hR⟩) hq hd hlk
theorem xb_z {x : Int} (hd : decode M.2.1 pc = .ok (.ireturn, 1)) (hr : M.2.2.2.1 = some .boolean) (hx01 : x = 0 ∨ x = 1) : x_B M pc L [.inl x] h (some (.inl x)) h := by
  refine ⟨⟨Nat.le_refl _, Nat.le_refl _⟩, fun p l e s m args below meth c H locs ls d k0 n0 hC hR hL h1 h2 hq => ?_⟩
  obtain ⟨hx, hbt, hml, hown, hts, hret, hlk, hnm, hK⟩ := hC
  exact W.zret hx hbt (hret.trans hr) (by rcases hx01 with rfl | rfl <;> decide +kernel) (fun t ht _ => ⟨rfl, by rw [ht]; exact hR⟩) hq hd hlk
theorem xb_v (hd : decode M.2.1 pc = .ok (.return_, 1)) (hr : M.2.2.2.1 = none) : x_B M pc L [] h none h := by
  refine ⟨⟨Nat.le_refl _, Nat.le_refl _⟩, fun p l e s m args below meth c H locs ls d k0 n0 hC hR hL h1 h2 hq => ?_⟩
  obtain ⟨hx, hbt, hml, hown, hts, hret, hlk, hnm, hK⟩ := hC
  exact W.vret hx hbt (hret.trans hr) (fun t ht _ => ⟨rfl, by rw [ht]; exact hR⟩) hq hd hlk
theorem xb_a {x : Option Nat} {ty : FieldType} (hd : decode M.2.1 pc = .ok (.areturn, 1)) (hr : M.2.2.2.1 = some ty) (hty : (∃ n, ty = .object n) ∨ ∃ t, ty = .array t) : x_B M pc L [.inr x] h (some (.inr x)) h := by
  refine ⟨⟨Nat.le_refl _, Nat.le_refl _⟩, fun p l e s m args below meth c H locs ls d k0 n0 hC hR hL h1 h2 hq => ?_⟩
  obtain ⟨hx, hbt, hml, hown, hts, hret, hlk, hnm, hK⟩ := hC
  exact W.aret hx hbt (hret.trans hr) hty (va_rf_or _) (fun t ht _ => ⟨rfl, by rw [ht]; exact hR⟩) hq hd hlk
end XC
end
section
/-! calls -/
theorem x_N_warm {s U : State} (hW : s.WarmedH U.vm) (h : ∀ w ∈ x_N, va_Nw w s) : ∀ w ∈ x_N, va_Nw w U := by
  intro w hw
  have hz := h w hw
  unfold x_N at hw
  rcases List.mem_append.mp hw with h1 | h1
  · obtain ⟨q, -, rfl⟩ := List.mem_map.mp h1
    exact va_Nw.warmF hW hz
  · obtain ⟨q, -, rfl⟩ := List.mem_map.mp h1
    exact va_Nw.warmM hW hz
theorem x_N_same {s U : State} (hv : s.vm = U.vm) (h : ∀ w ∈ x_N, va_Nw w s) : ∀ w ∈ x_N, va_Nw w U := by
  intro w hw
  have hz := h w hw
  unfold x_N at hw
  rcases List.mem_append.mp hw with h1 | h1
  · obtain ⟨q, -, rfl⟩ := List.mem_map.mp h1
    exact va_Nw.same rfl hv hz
  · obtain ⟨q, -, rfl⟩ := List.mem_map.mp h1
    exact va_Nw.same rfl hv hz
theorem x_K_warm {d : xD} {s U : State} (hW : s.WarmedH U.vm) (h : x_K d s) : x_K d U :=
  ⟨va_K.moved hW.alike h.1, x_N_warm hW h.2.1, va_AO.moved hW.alike h.2.2.1, va_AO.moved hW.alike h.2.2.2⟩
theorem x_K_same {d : xD} {s U : State} (hv : s.vm = U.vm) (h : x_K d s) : x_K d U := by
  have ha : s.vm.Alike U.vm := by rw [← hv]; exact Vm.Alike.refl _
  exact ⟨va_K.moved ha h.1, x_N_same hv h.2.1, va_AO.moved ha h.2.2.1, va_AO.moved ha h.2.2.2⟩
theorem x_sum (b : Nat) (l : List xV) : ((l.map (x_v b)).map (fun v => v.category)).sum = l.length := by
  induction l with
  | nil => rfl
  | cons v l ih => simp only [List.map_cons, List.sum_cons, List.length_cons, x_cat] at ih ⊢; omega
def x_cd (M' : xM) (n : Nat) : Prop := Cond.code M'.1 M'.2.1 M'.2.2.1 M'.2.2.2.1 ∈ x_ws ∧ Cond.initialized M'.1.cls ∈ x_ws ∧ (M'.1.cls ≠ "java/lang/invoke/MethodHandle" ∧ M'.1.cls ≠ "java/lang/invoke/VarHandle" ∧ (parseMethodDescriptor M'.1.desc).map (fun d => d.parameters.length) = some n)
def x_ml (own : String) (idx : Nat) (y : MethodName) : Prop := Cond.methodLink own idx y ∈ x_ws ∨ ∃ host, Cond.methodLinkNest own idx y host ∈ x_N
def x_rr (M M' : xM) : Prop := M'.2.2.2.2.1 + 1 ≤ M.2.2.2.2.1 ∧ 8 + (M'.2.2.1 + 11) + M'.2.2.2.2.2 ≤ M.2.2.2.2.2
theorem x_gi {M M' : xM} {n : Nat} (hc : x_cd M' n) : GoodIn (x_wM M) (x_wM M') := by
  intro w hw
  unfold x_wM at hw
  rcases List.mem_cons.mp hw with h | h
  · subst h
    exact ⟨List.mem_cons_of_mem _ hc.1, x_good _ hc.1⟩
  · exact ⟨List.mem_cons_of_mem _ h, x_good _ h⟩
section XA
variable {p : Program} {l : Launch} {e : Env} {R : Room} {s : State} {m : MethodId} {args : Array Value} {below : List Frame} {meth : Method} {c : Code} {H : Heap} {locs : List Loc} {cells slots : Nat} {Q : State → Prop}
theorem x_after {pc mc ms : Nat} {ls : Array Slot} {st0 rest : List Value} {d : xD} {r : Option xV} {h1 : xH} (hq : ∀ q ∈ locs, d.1 ≤ q.base)
    (hr : ∀ T : State, T.heap = H → Stand p l e R s m args below meth c T locs cells slots → ∃ (v : Option Value) (t T' : State) (L : List Loc), Stand p l e R s m args below meth c T' (locs ++ L) (cells + mc) (slots + ms) ∧ (∀ q ∈ L, d.1 ≤ q.base) ∧ T'.heap = t.heap ∧ (Outcome.returned v = .returned (r.map (x_v d.1)) ∧ x_R d h1 t.heap) ∧ Goes p e below T (F0 m pc ls st0) T' (F0 m (pc + 3) ls (v.toList ++ rest)))
    (kk : ∀ (H1 : Heap) (locs1 : List Loc), x_R d h1 H1 → (∀ q ∈ locs1, d.1 ≤ q.base) → W p l e R s m args below meth c H1 locs1 (cells + mc) (slots + ms) Q (F0 m (pc + 3) ls ((r.map (x_v d.1)).toList ++ rest))) : W p l e R s m args below meth c H locs cells slots Q (F0 m pc ls st0) := by
  intro T hT X
  obtain ⟨v, t, T', L, X', hL, e1, ⟨hv, hR1⟩, st1⟩ := hr T hT X
  have hv := Outcome.returned.inj hv
  subst hv
  obtain ⟨t2, a1, b1⟩ := kk T'.heap (locs ++ L) (by rw [e1]; exact hR1) (t_lL hq hL) T' rfl X'
  exact ⟨t2, st1 t2 a1, b1⟩
end XA
section XD
variable {M : xM} {pc : Nat} {L : List (Option xV)} {st : List xV} {h : xH}
theorem xs_callV {M' : xM} {idx n a ci : Nat} {as rest fs : List xV} {r : Option xV} {h1 : xH} (hd : decode M.2.1 pc = .ok (.invokevirtual idx, 3)) (hcd : x_cd M' n) (hml : x_ml M.1.cls idx M'.1) (hin : Cond.instanceMethod M'.1 ∈ x_ws ∧ Cond.selects M'.1.cls M'.1 M'.1 ∈ x_ws) (hrr : x_rr M M') (hn : as.length = n) (hst : st = as.reverse ++ .inr (some a) :: rest) (ha : h.1[a]? = some (.inr (.inr (ci, fs)))) (hci : (cl_s[ci]?).map (fun z => z.1) = some M'.1.cls) (hrest : rest.length ≤ 8) (hM : x_M M' (.inr (some a) :: as) h r h1) : x_S M pc L st h (pc + 3) L (r.toList ++ rest) h1 := by
  intro r' hf hb
  obtain ⟨hle, hw⟩ := hb
  obtain ⟨hle1, hm⟩ := hM
  refine ⟨by omega, fun p l e s m args below meth c H locs ls d k0 n0 hC hR hL h1' h2 hq => ?_⟩
  have hC' := hC
  obtain ⟨hx, hbt, hmx, hown, hts, hret, hlk, hnm, hK⟩ := hC'
  obtain ⟨r0, g0, -⟩ := hR.2 a _ ha
  have hcn : r0.1 = M'.1.cls := by
    have g0' : cl_s[ci]? = some r0 := g0
    rw [g0'] at hci
    exact Option.some.inj hci
  have hrec := va_recv hK.1 (hR.sing ha) g0 (q0 := 0) rfl
  rw [hcn] at hrec
  have hp : PreV s H M'.1.cls (d.1 + a) (va_Pc ((.inr (some a) :: as).map (x_v d.1)) (fun U => x_R d h U.heap ∧ x_K d U)) (as.map (x_v d.1)) :=
    ⟨fun aa U g mk q => ⟨q.1, q.2.1, x_K_same (s := U) (U := U.calling g mk aa) rfl q.2.2⟩, hrec, fun U hU hW => ⟨rfl, by rw [hU]; exact hR, x_K_warm hW hK⟩⟩
  have hstk : st.map (x_v d.1) = (as.map (x_v d.1)).reverse ++ .ref (d.1 + a) :: rest.map (x_v d.1) := by
    rw [hst]; simp [x_v, x_r, va_rf]
  have hroom : 2 * (F0 m pc ls (st.map (x_v d.1))).monitorRoom + ((rest.map (x_v d.1)).map fun v => v.category).sum ≤ 8 := lv_room (rest := st.map (x_v d.1)) (by rw [x_sum]; exact hrest)
  have hlen : (as.map (x_v d.1)).length = n := by rw [List.length_map]; exact hn
  have hcs : (h.1.length - k0) + (h1.1.length - h.1.length) ≤ (x_rm M (hf.1.length - k0) (hf.2 - n0)).cells ∧ (h.2 - n0) + (h1.2 - h.2) ≤ (x_rm M (hf.1.length - k0) (hf.2 - n0)).slots := ⟨by show _ ≤ hf.1.length - k0; omega, by show _ ≤ hf.2 - n0; omega⟩
  refine x_after (mc := h1.1.length - h.1.length) (ms := h1.2 - h.2) (rest := rest.map (x_v d.1)) (d := d) (r := r) (h1 := h1) hq ?_ (fun H1 locs1 hR1 hq1 => ?_)
  · rcases hml with hml | ⟨host, hml⟩
    · have cb := callB_of (R := x_rm M (hf.1.length - k0) (hf.2 - n0)) (rm := x_rm M' (h1.1.length - h.1.length) (h1.2 - h.2)) n hts (x_gi hcd) rfl rfl rfl (hts _ (List.mem_cons_of_mem _ hcd.2.1)) (hts _ (List.mem_cons_of_mem _ hml)) hcd.2.2 hrr
      have hr := va_runV (l := l) (e := e) (below := below) (meth := meth) (locs := locs) (cells := h.1.length - k0) (slots := h.2 - n0) (Ts := x_wM M) ⟨hx, hbt, hmx, hown, hts⟩ (hm l d) ⟨cb, hts _ (List.mem_cons_of_mem _ hin.1), hts _ (List.mem_cons_of_mem _ hin.2)⟩ hp (g := F0 m pc ls (st.map (x_v d.1))) rfl hlen hL.1 hstk hroom hd hcs
      intro T hT X
      obtain ⟨v, st₀, t, T', L', -, X', hL', e1, -, hq1, st1⟩ := hr T hT X
      exact ⟨v, t, T', L', X', hL', e1, hq1, st1⟩
    · have cb := va_cnB (R := x_rm M (hf.1.length - k0) (hf.2 - n0)) (rm := x_rm M' (h1.1.length - h.1.length) (h1.2 - h.2)) n hts (x_gi hcd) rfl rfl rfl (hK.2.1 _ hml) (hts _ (List.mem_cons_of_mem _ hcd.2.1)) hcd.2.2 hrr
      have hr := va_runVN (l := l) (e := e) (below := below) (meth := meth) (locs := locs) (cells := h.1.length - k0) (slots := h.2 - n0) (Ts := x_wM M) ⟨hx, hbt, hmx, hown, hts⟩ (hm l d) ⟨cb, hts _ (List.mem_cons_of_mem _ hin.1), hts _ (List.mem_cons_of_mem _ hin.2)⟩ hp (g := F0 m pc ls (st.map (x_v d.1))) rfl hlen hL.1 hstk hroom hd hcs
      intro T hT X
      obtain ⟨v, st₀, t, T', L', -, X', hL', e1, -, hq1, st1⟩ := hr T hT X
      exact ⟨v, t, T', L', X', hL', e1, hq1, st1⟩
  · have k := hw p l e s m args below meth c H1 locs1 ls d k0 n0 hC hR1 hL (by omega) (by omega) hq1
    refine W.cs (cells' := h1.1.length - k0) (slots' := h1.2 - n0) (by omega) (by omega) ?_
    cases r <;> exact k
theorem xs_callI {M' : xM} {idx n a : Nat} {as rest : List xV} {h1 : xH} (hd : decode M.2.1 pc = .ok (.invokespecial idx, 3)) (hcd : x_cd M' n) (hml : x_ml M.1.cls idx M'.1) (hin : Cond.instanceMethod M'.1 ∈ x_ws ∧ M'.1.name = "<init>" ∧ M'.2.2.2.1 = none) (hrr : x_rr M M') (hn : as.length = n) (hst : st = as.reverse ++ .inr (some a) :: rest) (hrest : rest.length ≤ 8) (hM : x_M M' (.inr (some a) :: as) h none h1) : x_S M pc L st h (pc + 3) L rest h1 := by
  intro r' hf hb
  obtain ⟨hle, hw⟩ := hb
  obtain ⟨hle1, hm⟩ := hM
  refine ⟨by omega, fun p l e s m args below meth c H locs ls d k0 n0 hC hR hL h1' h2 hq => ?_⟩
  have hC' := hC
  obtain ⟨hx, hbt, hmx, hown, hts, hret, hlk, hnm, hK⟩ := hC'
  have hp : PreS s H (va_Pc ((.inr (some a) :: as).map (x_v d.1)) (fun U => x_R d h U.heap ∧ x_K d U)) (.ref (d.1 + a) :: as.map (x_v d.1)) :=
    ⟨fun aa U g mk q => ⟨q.1, q.2.1, x_K_same (s := U) (U := U.calling g mk aa) rfl q.2.2⟩, fun U hU hW => ⟨rfl, by rw [hU]; exact hR, x_K_warm hW hK⟩⟩
  have hstk : st.map (x_v d.1) = (as.map (x_v d.1)).reverse ++ .ref (d.1 + a) :: rest.map (x_v d.1) := by
    rw [hst]; simp [x_v, x_r, va_rf]
  have hroom : 2 * (F0 m pc ls (st.map (x_v d.1))).monitorRoom + ((rest.map (x_v d.1)).map fun v => v.category).sum ≤ 8 := lv_room (rest := st.map (x_v d.1)) (by rw [x_sum]; exact hrest)
  have hlen : (as.map (x_v d.1)).length = n := by rw [List.length_map]; exact hn
  have hcs : (h.1.length - k0) + (h1.1.length - h.1.length) ≤ (x_rm M (hf.1.length - k0) (hf.2 - n0)).cells ∧ (h.2 - n0) + (h1.2 - h.2) ≤ (x_rm M (hf.1.length - k0) (hf.2 - n0)).slots := ⟨by show _ ≤ hf.1.length - k0; omega, by show _ ≤ hf.2 - n0; omega⟩
  have hwM : x_wM M' = Cond.code M'.1 M'.2.1 M'.2.2.1 none :: x_ws := by unfold x_wM; rw [hin.2.2]
  refine x_after (mc := h1.1.length - h.1.length) (ms := h1.2 - h.2) (rest := rest.map (x_v d.1)) (d := d) (r := none) (h1 := h1) hq ?_ (fun H1 locs1 hR1 hq1 => ?_)
  · rcases hml with hml | ⟨host, hml⟩
    · have cb := callB_of (R := x_rm M (hf.1.length - k0) (hf.2 - n0)) (rm := x_rm M' (h1.1.length - h.1.length) (h1.2 - h.2)) n hts (x_gi hcd) hwM rfl rfl (hts _ (List.mem_cons_of_mem _ hcd.2.1)) (hts _ (List.mem_cons_of_mem _ hml)) hcd.2.2 hrr
      have hr := va_runI (l := l) (e := e) (below := below) (meth := meth) (locs := locs) (cells := h.1.length - k0) (slots := h.2 - n0) (Ts := x_wM M) ⟨hx, hbt, hmx, hown, hts⟩ (hm l d) ⟨cb, hin.2.1, hts _ (List.mem_cons_of_mem _ hin.1)⟩ hp (g := F0 m pc ls (st.map (x_v d.1))) rfl hlen hL.1 hstk hroom hd hcs
      intro T hT X
      obtain ⟨v, st₀, t, T', L', -, X', hL', e1, -, hq1, st1⟩ := hr T hT X
      exact ⟨v, t, T', L', X', hL', e1, hq1, st1⟩
    · have cb := va_cnB (R := x_rm M (hf.1.length - k0) (hf.2 - n0)) (rm := x_rm M' (h1.1.length - h.1.length) (h1.2 - h.2)) n hts (x_gi hcd) hwM rfl rfl (hK.2.1 _ hml) (hts _ (List.mem_cons_of_mem _ hcd.2.1)) hcd.2.2 hrr
      have hr := va_runIN (l := l) (e := e) (below := below) (meth := meth) (locs := locs) (cells := h.1.length - k0) (slots := h.2 - n0) (Ts := x_wM M) ⟨hx, hbt, hmx, hown, hts⟩ (hm l d) ⟨cb, hin.2.1, hts _ (List.mem_cons_of_mem _ hin.1)⟩ hp (g := F0 m pc ls (st.map (x_v d.1))) rfl hlen hL.1 hstk hroom hd hcs
      intro T hT X
      obtain ⟨v, st₀, t, T', L', -, X', hL', e1, -, hq1, st1⟩ := hr T hT X
      exact ⟨v, t, T', L', X', hL', e1, hq1, st1⟩
  · have k := hw p l e s m args below meth c H1 locs1 ls d k0 n0 hC hR1 hL (by omega) (by omega) hq1
    exact W.cs (cells' := h1.1.length - k0) (slots' := h1.2 - n0) (by omega) (by omega) k
theorem xs_callS {M' : xM} {idx n : Nat} {as rest : List xV} {r : Option xV} {h1 : xH} (hd : decode M.2.1 pc = .ok (.invokestatic idx, 3)) (hcd : x_cd M' n) (hml : x_ml M.1.cls idx M'.1) (hin : Cond.static M'.1 ∈ x_ws) (hrr : x_rr M M') (hn : as.length = n) (hst : st = as.reverse ++ rest) (hrest : rest.length ≤ 8) (hM : x_M M' as h r h1) : x_S M pc L st h (pc + 3) L (r.toList ++ rest) h1 := by
  intro r' hf hb
  obtain ⟨hle, hw⟩ := hb
  obtain ⟨hle1, hm⟩ := hM
  refine ⟨by omega, fun p l e s m args below meth c H locs ls d k0 n0 hC hR hL h1' h2 hq => ?_⟩
  have hC' := hC
  obtain ⟨hx, hbt, hmx, hown, hts, hret, hlk, hnm, hK⟩ := hC'
  have hp : PreS s H (va_Pc (as.map (x_v d.1)) (fun U => x_R d h U.heap ∧ x_K d U)) (as.map (x_v d.1)) :=
    ⟨fun aa U g mk q => ⟨q.1, q.2.1, x_K_same (s := U) (U := U.calling g mk aa) rfl q.2.2⟩, fun U hU hW => ⟨rfl, by rw [hU]; exact hR, x_K_warm hW hK⟩⟩
  have hstk : st.map (x_v d.1) = (as.map (x_v d.1)).reverse ++ rest.map (x_v d.1) := by
    rw [hst]; simp
  have hroom : 2 * (F0 m pc ls (st.map (x_v d.1))).monitorRoom + ((rest.map (x_v d.1)).map fun v => v.category).sum ≤ 8 := lv_room (rest := st.map (x_v d.1)) (by rw [x_sum]; exact hrest)
  have hlen : (as.map (x_v d.1)).length = n := by rw [List.length_map]; exact hn
  have hcs : (h.1.length - k0) + (h1.1.length - h.1.length) ≤ (x_rm M (hf.1.length - k0) (hf.2 - n0)).cells ∧ (h.2 - n0) + (h1.2 - h.2) ≤ (x_rm M (hf.1.length - k0) (hf.2 - n0)).slots := ⟨by show _ ≤ hf.1.length - k0; omega, by show _ ≤ hf.2 - n0; omega⟩
  refine x_after (mc := h1.1.length - h.1.length) (ms := h1.2 - h.2) (rest := rest.map (x_v d.1)) (d := d) (r := r) (h1 := h1) hq ?_ (fun H1 locs1 hR1 hq1 => ?_)
  · rcases hml with hml | ⟨host, hml⟩
    · have cb := callB_of (R := x_rm M (hf.1.length - k0) (hf.2 - n0)) (rm := x_rm M' (h1.1.length - h.1.length) (h1.2 - h.2)) n hts (x_gi hcd) rfl rfl rfl (hts _ (List.mem_cons_of_mem _ hcd.2.1)) (hts _ (List.mem_cons_of_mem _ hml)) hcd.2.2 hrr
      have hr := va_runS (l := l) (e := e) (below := below) (meth := meth) (locs := locs) (cells := h.1.length - k0) (slots := h.2 - n0) (Ts := x_wM M) ⟨hx, hbt, hmx, hown, hts⟩ (hm l d) ⟨cb, hts _ (List.mem_cons_of_mem _ hin)⟩ hp (g := F0 m pc ls (st.map (x_v d.1))) rfl hlen hL.1 hstk hroom hd hcs
      intro T hT X
      obtain ⟨v, st₀, t, T', L', -, X', hL', e1, -, hq1, st1⟩ := hr T hT X
      exact ⟨v, t, T', L', X', hL', e1, hq1, st1⟩
    · have cb := va_cnB (R := x_rm M (hf.1.length - k0) (hf.2 - n0)) (rm := x_rm M' (h1.1.length - h.1.length) (h1.2 - h.2)) n hts (x_gi hcd) rfl rfl rfl (hK.2.1 _ hml) (hts _ (List.mem_cons_of_mem _ hcd.2.1)) hcd.2.2 hrr
      have hr := va_runSN (l := l) (e := e) (below := below) (meth := meth) (locs := locs) (cells := h.1.length - k0) (slots := h.2 - n0) (Ts := x_wM M) ⟨hx, hbt, hmx, hown, hts⟩ (hm l d) ⟨cb, hts _ (List.mem_cons_of_mem _ hin), trivial⟩ hp (g := F0 m pc ls (st.map (x_v d.1))) rfl hlen hL.1 hstk hroom hd hcs
      intro T hT X
      obtain ⟨v, st₀, t, T', L', -, X', hL', e1, -, hq1, st1⟩ := hr T hT X
      exact ⟨v, t, T', L', X', hL', e1, hq1, st1⟩
  · have k := hw p l e s m args below meth c H1 locs1 ls d k0 n0 hC hR1 hL (by omega) (by omega) hq1
    refine W.cs (cells' := h1.1.length - k0) (slots' := h1.2 - n0) (by omega) (by omega) ?_
    cases r <;> exact k
theorem xs_obj {idx a : Nat} {rest : List xV} (hd : decode M.2.1 pc = .ok (.invokespecial idx, 3)) (hl : Cond.methodLink M.1.cls idx objectInit ∈ x_ws ∧ Cond.instanceMethod objectInit ∈ x_ws ∧ Cond.code objectInit ⟨#[0xb1]⟩ 1 none ∈ x_ws) (hrr : 1 ≤ M.2.2.2.2.1 ∧ rest.length + 12 ≤ M.2.2.2.2.2) : x_S M pc L (.inr (some a) :: rest) h (pc + 3) L rest h := by
  intro r hf hb
  obtain ⟨hle, hw⟩ := hb
  refine ⟨hle, fun p l e s m args below meth c H locs ls d k0 n0 hC hR hL h1 h2 hq => ?_⟩
  have hC' := hC
  obtain ⟨hx, hbt, hml, hown, hts, hret, hlk, hnm, hK⟩ := hC'
  exact W.objInit hx hbt hown (hts _ (List.mem_cons_of_mem _ hl.1)) (hts _ (List.mem_cons_of_mem _ hl.2.1)) (hts _ (List.mem_cons_of_mem _ hl.2.2)) rfl (by rw [hml]; exact hL.1) rfl hd hrr.1 (by rw [x_sum]; show 2 * 0 + rest.length + 12 ≤ _; have := hrr.2; show _ ≤ M.2.2.2.2.2; omega) (hw p l e s m args below meth c H locs ls d k0 n0 hC hR hL h1 h2 hq)
end XD
/-! a method's contract out of its walk -/
theorem x_ent {b : Nat} : ∀ (as : List xV) (k i : Nat) (v : xV), as[i]? = some v → (k + i, x_v b v) ∈ lv_args k (as.map (x_v b)) := by
  intro as
  induction as with
  | nil => intro k i v h; simp at h
  | cons a as ih =>
    intro k i v h
    have hc : ¬ (x_v b a).category = 2 := by rw [x_cat]; decide
    simp only [List.map_cons, lv_args, if_neg hc]
    cases i with
    | zero => simp at h; subst h; exact List.mem_cons_self
    | succ i =>
      simp at h
      refine List.mem_cons_of_mem _ ?_
      have := ih (k + 1) i v h
      rw [show k + (i + 1) = k + 1 + i by omega]
      exact this
theorem x_sl (b : Nat) (as : List xV) : (lg_sl (as.map (x_v b))).length = as.length := by
  induction as with
  | nil => rfl
  | cons a as ih =>
    have hc : ¬ (x_v b a).category = 2 := by rw [x_cat]; decide
    unfold lg_sl at ih ⊢
    simp only [List.map_cons, List.flatMap_cons, if_neg hc, List.length_append, List.length_cons, List.length_nil] at ih ⊢
    omega
def x_en (M : xM) (as : List xV) : List (Option xV) := as.map some ++ List.replicate (M.2.2.1 - as.length) none
theorem xm {M : xM} {as : List xV} {h : xH} {r : Option xV} {hf : xH} (hpl : plainName M.1.cls = true) (hn : as.length ≤ M.2.2.1) (hb : x_B M 0 (x_en M as) [] h r hf) : x_M M as h r hf := by
  obtain ⟨hle, hw⟩ := hb
  refine ⟨hle, fun l d => ?_⟩
  refine Met.ofW (cc := M.2.1) (maxL := M.2.2.1) (ret := M.2.2.2.1) hpl rfl ?_
  intro p e s m args below meth c s₁ B hml hv
  obtain ⟨rfl, hR, hK⟩ := hv
  have hl0 := lv_entry (as.map (x_v d.1)) (n := M.2.2.1) (by rw [x_sl]; exact hn)
  rw [lg_entry_eq]
  generalize (lg_sl (as.map (x_v d.1)) ++ List.replicate (M.2.2.1 - (lg_sl (as.map (x_v d.1))).length) Slot.unset).toArray = ls at hl0 ⊢
  have hL : x_L d.1 ls M.2.2.1 (x_en M as) := by
    refine ⟨hl0.1, hl0.2.1, fun q hq => hl0.2.2 q ?_⟩
    obtain ⟨v, h1, h2⟩ := x_ll_mem.mp hq
    obtain ⟨j, w0⟩ := q
    dsimp only at h1 h2
    subst h2
    unfold x_en at h1
    by_cases hj : j < as.length
    · rw [List.getElem?_append_left (by simpa using hj), List.getElem?_map] at h1
      cases ha : as[j]? with
      | none => rw [ha] at h1; simp at h1
      | some u =>
        rw [ha] at h1
        simp at h1
        subst h1
        have := x_ent (b := d.1) as 0 j u ha
        rw [Nat.zero_add] at this
        exact this
    · rw [List.getElem?_append_right (by simpa using hj), List.getElem?_replicate] at h1
      split at h1 <;> simp at h1
  have k := hw p l e s m (as.map (x_v d.1)).toArray below meth c s.heap [] ls d h.1.length h.2 ⟨B.exec, B.bytes, hml, findClass_of_methodNamed B.named, atoms_spec (ws := x_wM M) B.pre, B.returns, B.notSynchronized, (name_of_methodNamed B.named B.method).1, hK⟩ hR hL (Nat.le_refl _) (Nat.le_refl _) (fun q hq => by cases hq)
  rw [Nat.sub_self, Nat.sub_self] at k
  exact k
def x_Mx (M : xM) (as : List xV) (h : xH) (Q : Option xV → xH → Prop) : Prop := ∃ r hf, x_M M as h r hf ∧ Q r hf
theorem xmx {M : xM} {as : List xV} {h : xH} {Q : Option xV → xH → Prop} (hpl : plainName M.1.cls = true) (hn : as.length ≤ M.2.2.1) (hb : x_X M 0 (x_en M as) [] h Q) : x_Mx M as h Q := by
  obtain ⟨r, hf, hb, hq⟩ := hb
  exact ⟨r, hf, xm hpl hn hb, hq⟩
end
section
/-! methods, and what a call of each wants of the tables -/
abbrev mm_Ma_init : xM := (⟨"SequentMachine", "<init>", "()V"⟩, prog_1_method_1_code, 1, none, 3, 60)
abbrev mm_Ma_type : xM := (⟨"SequentMachine", "type", "(I)I"⟩, prog_1_method_2_code, 4, some .int, 5, 185)
abbrev mm_Ma_var : xM := (⟨"SequentMachine", "var", "(I)I"⟩, prog_1_method_3_code, 3, some .int, 5, 186)
abbrev mm_Ma_constant : xM := (⟨"SequentMachine", "constant", "(I)I"⟩, prog_1_method_4_code, 3, some .int, 5, 186)
abbrev mm_Ma_app : xM := (⟨"SequentMachine", "app", "()I"⟩, prog_1_method_5_code, 3, some .int, 5, 188)
abbrev mm_Ma_abs : xM := (⟨"SequentMachine", "abs", "()I"⟩, prog_1_method_6_code, 3, some .int, 5, 187)
abbrev mm_Ma_theorem : xM := (⟨"SequentMachine", "theorem", "(I)I"⟩, prog_1_method_7_code, 3, some .int, 6, 214)
abbrev mm_Ma_join : xM := (⟨"SequentMachine", "join", "(I)I"⟩, prog_1_method_8_code, 4, some .int, 7, 213)
abbrev mm_Ma_absThm : xM := (⟨"SequentMachine", "absThm", "()I"⟩, prog_1_method_9_code, 7, some .int, 5, 188)
abbrev mm_Ma_inst : xM := (⟨"SequentMachine", "inst", "()I"⟩, prog_1_method_10_code, 6, some .int, 5, 188)
abbrev mm_Ma_instType : xM := (⟨"SequentMachine", "instType", "(I)I"⟩, prog_1_method_11_code, 6, some .int, 5, 187)
abbrev mm_Ma_keep : xM := (⟨"SequentMachine", "keep", "(I)I"⟩, prog_1_method_12_code, 4, some .int, 4, 86)
abbrev mm_Ma_fetch : xM := (⟨"SequentMachine", "fetch", "(I)I"⟩, prog_1_method_13_code, 3, some .int, 4, 86)
abbrev mm_Ma_pop : xM := (⟨"SequentMachine", "pop", "()I"⟩, prog_1_method_14_code, 1, some .int, 3, 63)
abbrev mm_Ma_export : xM := (⟨"SequentMachine", "export", "()I"⟩, prog_1_method_15_code, 3, some .int, 3, 63)
abbrev mm_Ma_count : xM := (⟨"SequentMachine", "count", "(I)I"⟩, prog_1_method_16_code, 2, some .int, 0, 0)
abbrev mm_Ma_kind : xM := (⟨"SequentMachine", "kind", "(I)I"⟩, prog_1_method_17_code, 3, some .int, 2, 42)
abbrev mm_Ma_hypotheses : xM := (⟨"SequentMachine", "hypotheses", "(I)I"⟩, prog_1_method_18_code, 3, some .int, 2, 42)
abbrev mm_Ma_length : xM := (⟨"SequentMachine", "length", "(II)I"⟩, prog_1_method_19_code, 4, some .int, 3, 65)
abbrev mm_Ma_symbol : xM := (⟨"SequentMachine", "symbol", "(III)I"⟩, prog_1_method_20_code, 5, some .int, 3, 65)
abbrev mm_Ma_assume : xM := (⟨"SequentMachine", "assume", "(LSequentMachine$Row;)I"⟩, prog_1_method_21_code, 3, some .int, 5, 188)
abbrev mm_Ma_reduce : xM := (⟨"SequentMachine", "reduce", "(LSequentMachine$Row;)I"⟩, prog_1_method_22_code, 7, some .int, 5, 188)
abbrev mm_Ma_addAxiom : xM := (⟨"SequentMachine", "addAxiom", "(LSequentMachine$Row;)I"⟩, prog_1_method_23_code, 4, some .int, 5, 188)
abbrev mm_Ma_define : xM := (⟨"SequentMachine", "define", "(LSequentMachine$Row;)I"⟩, prog_1_method_24_code, 5, some .int, 5, 188)
abbrev mm_Ma_followEquation : xM := (⟨"SequentMachine", "followEquation", "(LSequentMachine$Item;LSequentMachine$Item;)I"⟩, prog_1_method_25_code, 4, some .int, 6, 133)
abbrev mm_Ma_applyEquations : xM := (⟨"SequentMachine", "applyEquations", "(LSequentMachine$Item;LSequentMachine$Item;)I"⟩, prog_1_method_26_code, 8, some .int, 6, 186)
abbrev mm_Ma_deduct : xM := (⟨"SequentMachine", "deduct", "(LSequentMachine$Item;LSequentMachine$Item;)I"⟩, prog_1_method_27_code, 5, some .int, 5, 186)
abbrev mm_Ma_hypothesesOfBoth : xM := (⟨"SequentMachine", "hypothesesOfBoth", "(LSequentMachine$Item;LSequentMachine$Item;)LSequentMachine$Hypotheses;"⟩, prog_1_method_28_code, 4, some (.object "SequentMachine$Hypotheses"), 5, 110)
abbrev mm_Ma_equationIn : xM := (⟨"SequentMachine", "equationIn", "(LSequentMachine$Row;)LSequentMachine$Equation;"⟩, prog_1_method_29_code, 3, some (.object "SequentMachine$Equation"), 4, 89)
abbrev mm_Ma_takesArgument : xM := (⟨"SequentMachine", "takesArgument", "(LSequentMachine$Row;LSequentMachine$Row;)Z"⟩, prog_1_method_30_code, 3, some .boolean, 4, 85)
abbrev mm_Ma_finishType : xM := (⟨"SequentMachine", "finishType", "(ILSequentMachine$Row;)I"⟩, prog_1_method_31_code, 3, some .int, 4, 86)
abbrev mm_Ma_finishTerm : xM := (⟨"SequentMachine", "finishTerm", "(ILSequentMachine$Row;)I"⟩, prog_1_method_32_code, 3, some .int, 4, 86)
abbrev mm_Ma_finishTheorem : xM := (⟨"SequentMachine", "finishTheorem", "(ILSequentMachine$Hypotheses;LSequentMachine$Row;)I"⟩, prog_1_method_33_code, 4, some .int, 4, 86)
abbrev mm_Ma_finish : xM := (⟨"SequentMachine", "finish", "(ILSequentMachine$Item;)I"⟩, prog_1_method_34_code, 4, some .int, 3, 63)
abbrev mm_Ma_finishEmptyHanded : xM := (⟨"SequentMachine", "finishEmptyHanded", "(I)I"⟩, prog_1_method_35_code, 2, some .int, 2, 42)
abbrev mm_Ma_itemBelow : xM := (⟨"SequentMachine", "itemBelow", "(II)LSequentMachine$Item;"⟩, prog_1_method_36_code, 4, some (.object "SequentMachine$Item"), 1, 21)
abbrev mm_Ma_rowBelow : xM := (⟨"SequentMachine", "rowBelow", "(II)LSequentMachine$Row;"⟩, prog_1_method_37_code, 4, some (.object "SequentMachine$Row"), 2, 44)
abbrev mm_Ma_variableBelow : xM := (⟨"SequentMachine", "variableBelow", "(I)LSequentMachine$Row;"⟩, prog_1_method_38_code, 3, some (.object "SequentMachine$Row"), 3, 67)
abbrev mm_Ma_keptFor : xM := (⟨"SequentMachine", "keptFor", "(I)LSequentMachine$Item;"⟩, prog_1_method_39_code, 2, some (.object "SequentMachine$Item"), 0, 0)
abbrev mm_Ma_itemAt : xM := (⟨"SequentMachine", "itemAt", "(I)LSequentMachine$Item;"⟩, prog_1_method_40_code, 2, some (.object "SequentMachine$Item"), 1, 21)
abbrev mm_Ma_partAt : xM := (⟨"SequentMachine", "partAt", "(II)LSequentMachine$Row;"⟩, prog_1_method_41_code, 4, some (.object "SequentMachine$Row"), 2, 42)
abbrev mm_Re_init : xM := (⟨"SequentMachineModel", "<init>", "()V"⟩, prog_10_method_1_code, 2, none, 1, 20)
abbrev mm_Re_base : xM := (⟨"SequentMachineModel", "base", "(II)I"⟩, prog_10_method_2_code, 2, some .int, 0, 0)
abbrev mm_Re_emit : xM := (⟨"SequentMachineModel", "emit", "(I)V"⟩, prog_10_method_3_code, 2, none, 0, 0)
abbrev mm_Re_emitRow : xM := (⟨"SequentMachineModel", "emitRow", "(II)V"⟩, prog_10_method_4_code, 4, none, 1, 21)
abbrev mm_Re_sameRow : xM := (⟨"SequentMachineModel", "sameRow", "(IIII)Z"⟩, prog_10_method_5_code, 7, some .boolean, 0, 0)
abbrev mm_Re_skipType : xM := (⟨"SequentMachineModel", "skipType", "(I)I"⟩, prog_10_method_6_code, 4, some .int, 0, 0)
abbrev mm_Re_skipTerm : xM := (⟨"SequentMachineModel", "skipTerm", "(I)I"⟩, prog_10_method_7_code, 5, some .int, 1, 23)
abbrev mm_Re_depth : xM := (⟨"SequentMachineModel", "depth", "(II)I"⟩, prog_10_method_8_code, 5, some .int, 2, 47)
abbrev mm_Re_typeOf : xM := (⟨"SequentMachineModel", "typeOf", "(I)I"⟩, prog_10_method_9_code, 8, some .int, 3, 68)
abbrev mm_Re_equalAt : xM := (⟨"SequentMachineModel", "equalAt", "(II)V"⟩, prog_10_method_10_code, 5, none, 2, 44)
abbrev mm_Re_isEquation : xM := (⟨"SequentMachineModel", "isEquation", "(I)Z"⟩, prog_10_method_11_code, 2, some .boolean, 0, 0)
abbrev mm_Re_left : xM := (⟨"SequentMachineModel", "left", "(I)I"⟩, prog_10_method_12_code, 2, some .int, 1, 23)
abbrev mm_Re_begin : xM := (⟨"SequentMachineModel", "begin", "()V"⟩, prog_10_method_13_code, 1, none, 0, 0)
abbrev mm_Re_part : xM := (⟨"SequentMachineModel", "part", "(II)V"⟩, prog_10_method_14_code, 6, none, 1, 21)
abbrev mm_Re_compare : xM := (⟨"SequentMachineModel", "compare", "(IIII)I"⟩, prog_10_method_15_code, 6, some .int, 0, 0)
abbrev mm_Re_hypothesis : xM := (⟨"SequentMachineModel", "hypothesis", "(I)V"⟩, prog_10_method_16_code, 5, none, 2, 49)
abbrev mm_Re_movePart : xM := (⟨"SequentMachineModel", "movePart", "(IIII)V"⟩, prog_10_method_17_code, 9, none, 1, 21)
abbrev mm_Re_copyObject : xM := (⟨"SequentMachineModel", "copyObject", "(II)V"⟩, prog_10_method_18_code, 4, none, 2, 49)
abbrev mm_Re_bring : xM := (⟨"SequentMachineModel", "bring", "(III)V"⟩, prog_10_method_19_code, 8, none, 3, 73)
abbrev mm_Re_beginEquation : xM := (⟨"SequentMachineModel", "beginEquation", "(II)V"⟩, prog_10_method_20_code, 3, none, 2, 44)
abbrev mm_Re_done : xM := (⟨"SequentMachineModel", "done", "(I)I"⟩, prog_10_method_21_code, 2, some .int, 3, 72)
abbrev mm_Re_top : xM := (⟨"SequentMachineModel", "top", "(I)I"⟩, prog_10_method_22_code, 2, some .int, 0, 0)
abbrev mm_Re_variable : xM := (⟨"SequentMachineModel", "variable", "(I)Z"⟩, prog_10_method_23_code, 2, some .boolean, 1, 21)
abbrev mm_Re_rowOf : xM := (⟨"SequentMachineModel", "rowOf", "(I)I"⟩, prog_10_method_24_code, 2, some .int, 1, 21)
abbrev mm_Re_rowEnd : xM := (⟨"SequentMachineModel", "rowEnd", "(I)I"⟩, prog_10_method_25_code, 2, some .int, 1, 21)
abbrev mm_Re_type : xM := (⟨"SequentMachineModel", "type", "(I)I"⟩, prog_10_method_26_code, 2, some .int, 4, 93)
abbrev mm_Re_leaf : xM := (⟨"SequentMachineModel", "leaf", "(II)I"⟩, prog_10_method_27_code, 3, some .int, 4, 93)
abbrev mm_Re_var : xM := (⟨"SequentMachineModel", "var", "(I)I"⟩, prog_10_method_28_code, 2, some .int, 5, 115)
abbrev mm_Re_constant : xM := (⟨"SequentMachineModel", "constant", "(I)I"⟩, prog_10_method_29_code, 2, some .int, 5, 115)
abbrev mm_Re_fits : xM := (⟨"SequentMachineModel", "fits", "(II)Z"⟩, prog_10_method_30_code, 9, some .boolean, 4, 95)
abbrev mm_Re_app : xM := (⟨"SequentMachineModel", "app", "()I"⟩, prog_10_method_31_code, 2, some .int, 5, 123)
abbrev mm_Re_stands : xM := (⟨"SequentMachineModel", "stands", "(III)Z"⟩, prog_10_method_32_code, 4, some .boolean, 1, 26)
abbrev mm_Re_emitAbs : xM := (⟨"SequentMachineModel", "emitAbs", "(IIII)V"⟩, prog_10_method_33_code, 6, none, 3, 71)
abbrev mm_Re_abs : xM := (⟨"SequentMachineModel", "abs", "()I"⟩, prog_10_method_34_code, 1, some .int, 4, 96)
abbrev mm_Re_isBool : xM := (⟨"SequentMachineModel", "isBool", "(II)Z"⟩, prog_10_method_35_code, 3, some .boolean, 0, 0)
abbrev mm_Re_theorem : xM := (⟨"SequentMachineModel", "theorem", "(I)I"⟩, prog_10_method_36_code, 7, some .int, 5, 117)
abbrev mm_Re_claim : xM := (⟨"SequentMachineModel", "claim", "(III)I"⟩, prog_10_method_37_code, 5, some .int, 4, 93)
abbrev mm_Re_define : xM := (⟨"SequentMachineModel", "define", "(II)I"⟩, prog_10_method_38_code, 4, some .int, 4, 93)
abbrev mm_Re_reduce : xM := (⟨"SequentMachineModel", "reduce", "(II)V"⟩, prog_10_method_39_code, 5, none, 3, 71)
abbrev mm_Re_closed : xM := (⟨"SequentMachineModel", "closed", "(IIII)Z"⟩, prog_10_method_40_code, 9, some .boolean, 1, 25)
abbrev mm_Re_occurs : xM := (⟨"SequentMachineModel", "occurs", "(III)Z"⟩, prog_10_method_41_code, 6, some .boolean, 0, 0)
abbrev mm_Re_join : xM := (⟨"SequentMachineModel", "join", "(I)I"⟩, prog_10_method_42_code, 9, some .int, 5, 123)
abbrev mm_Re_applied : xM := (⟨"SequentMachineModel", "applied", "(IIIII)V"⟩, prog_10_method_43_code, 7, none, 3, 66)
abbrev mm_Re_free : xM := (⟨"SequentMachineModel", "free", "(IIII)Z"⟩, prog_10_method_44_code, 6, some .boolean, 2, 49)
abbrev mm_Re_absThm : xM := (⟨"SequentMachineModel", "absThm", "()I"⟩, prog_10_method_45_code, 8, some .int, 4, 100)
abbrev mm_Re_replaced : xM := (⟨"SequentMachineModel", "replaced", "(IIIIII)V"⟩, prog_10_method_46_code, 8, none, 2, 49)
abbrev mm_Re_inst : xM := (⟨"SequentMachineModel", "inst", "()I"⟩, prog_10_method_47_code, 8, some .int, 4, 95)
abbrev mm_Re_retyped : xM := (⟨"SequentMachineModel", "retyped", "(IIIII)V"⟩, prog_10_method_48_code, 11, none, 2, 44)
abbrev mm_Re_instType : xM := (⟨"SequentMachineModel", "instType", "(I)I"⟩, prog_10_method_49_code, 6, some .int, 4, 93)
abbrev mm_Re_keep : xM := (⟨"SequentMachineModel", "keep", "(I)I"⟩, prog_10_method_50_code, 2, some .int, 3, 72)
abbrev mm_Re_fetch : xM := (⟨"SequentMachineModel", "fetch", "(I)I"⟩, prog_10_method_51_code, 2, some .int, 3, 72)
abbrev mm_Re_pop : xM := (⟨"SequentMachineModel", "pop", "()I"⟩, prog_10_method_52_code, 1, some .int, 0, 0)
abbrev mm_Re_export : xM := (⟨"SequentMachineModel", "export", "()I"⟩, prog_10_method_53_code, 1, some .int, 3, 72)
abbrev mm_Re_count : xM := (⟨"SequentMachineModel", "count", "(I)I"⟩, prog_10_method_54_code, 2, some .int, 0, 0)
abbrev mm_Re_at : xM := (⟨"SequentMachineModel", "at", "(I)I"⟩, prog_10_method_55_code, 2, some .int, 0, 0)
abbrev mm_Re_kind : xM := (⟨"SequentMachineModel", "kind", "(I)I"⟩, prog_10_method_56_code, 3, some .int, 1, 21)
abbrev mm_Re_hypotheses : xM := (⟨"SequentMachineModel", "hypotheses", "(I)I"⟩, prog_10_method_57_code, 3, some .int, 1, 21)
abbrev mm_Re_length : xM := (⟨"SequentMachineModel", "length", "(II)I"⟩, prog_10_method_58_code, 4, some .int, 1, 21)
abbrev mm_Re_symbol : xM := (⟨"SequentMachineModel", "symbol", "(III)I"⟩, prog_10_method_59_code, 6, some .int, 2, 44)
abbrev mm_De_init : xM := (⟨"SequentMachine$Depth", "<init>", "()V"⟩, prog_2_method_1_code, 1, none, 1, 20)
abbrev mm_De_begin : xM := (⟨"SequentMachine$Depth", "begin", "()V"⟩, prog_2_method_2_code, 1, none, 0, 0)
abbrev mm_De_pass : xM := (⟨"SequentMachine$Depth", "pass", "(I)V"⟩, prog_2_method_3_code, 2, none, 1, 20)
abbrev mm_Eq_init : xM := (⟨"SequentMachine$Equation", "<init>", "(LSequentMachine$Row;)V"⟩, prog_3_method_1_code, 4, none, 3, 66)
abbrev mm_Hy_init : xM := (⟨"SequentMachine$Hypotheses", "<init>", "()V"⟩, prog_4_method_1_code, 1, none, 1, 20)
abbrev mm_Hy_get : xM := (⟨"SequentMachine$Hypotheses", "get", "(I)LSequentMachine$Row;"⟩, prog_4_method_2_code, 2, some (.object "SequentMachine$Row"), 0, 0)
abbrev mm_Hy_add : xM := (⟨"SequentMachine$Hypotheses", "add", "(LSequentMachine$Row;)V"⟩, prog_4_method_3_code, 4, none, 3, 65)
abbrev mm_Hy_addAll : xM := (⟨"SequentMachine$Hypotheses", "addAll", "(LSequentMachine$Hypotheses;)V"⟩, prog_4_method_4_code, 3, none, 4, 88)
abbrev mm_Hy_addAllBut : xM := (⟨"SequentMachine$Hypotheses", "addAllBut", "(LSequentMachine$Hypotheses;LSequentMachine$Row;)V"⟩, prog_4_method_5_code, 4, none, 4, 88)
abbrev mm_Hy_haveFree : xM := (⟨"SequentMachine$Hypotheses", "haveFree", "(LSequentMachine$Row;)Z"⟩, prog_4_method_6_code, 3, some .boolean, 3, 66)
abbrev mm_Hy_areSmallEnough : xM := (⟨"SequentMachine$Hypotheses", "areSmallEnough", "()Z"⟩, prog_4_method_7_code, 2, some .boolean, 0, 0)
abbrev mm_It_init : xM := (⟨"SequentMachine$Item", "<init>", "(ILSequentMachine$Row;LSequentMachine$Hypotheses;)V"⟩, prog_5_method_1_code, 4, none, 1, 20)
abbrev mm_It_isSmallEnough : xM := (⟨"SequentMachine$Item", "isSmallEnough", "()Z"⟩, prog_5_method_2_code, 2, some .boolean, 1, 21)
abbrev mm_Ro_init : xM := (⟨"SequentMachine$Row", "<init>", "([III)V"⟩, prog_6_method_1_code, 5, none, 1, 20)
abbrev mm_Ro_at : xM := (⟨"SequentMachine$Row", "at", "(I)I"⟩, prog_6_method_2_code, 2, some .int, 0, 0)
abbrev mm_Ro_part : xM := (⟨"SequentMachine$Row", "part", "(II)LSequentMachine$Row;"⟩, prog_6_method_3_code, 3, some (.object "SequentMachine$Row"), 2, 44)
abbrev mm_Ro_typeEnd : xM := (⟨"SequentMachine$Row", "typeEnd", "(I)I"⟩, prog_6_method_4_code, 4, some .int, 1, 21)
abbrev mm_Ro_termEnd : xM := (⟨"SequentMachine$Row", "termEnd", "(I)I"⟩, prog_6_method_5_code, 5, some .int, 1, 21)
abbrev mm_Ro_typeAt : xM := (⟨"SequentMachine$Row", "typeAt", "(I)LSequentMachine$Row;"⟩, prog_6_method_6_code, 2, some (.object "SequentMachine$Row"), 2, 44)
abbrev mm_Ro_functionArgument : xM := (⟨"SequentMachine$Row", "functionArgument", "()LSequentMachine$Row;"⟩, prog_6_method_7_code, 1, some (.object "SequentMachine$Row"), 3, 65)
abbrev mm_Ro_functionResult : xM := (⟨"SequentMachine$Row", "functionResult", "()LSequentMachine$Row;"⟩, prog_6_method_8_code, 1, some (.object "SequentMachine$Row"), 2, 44)
abbrev mm_Ro_same : xM := (⟨"SequentMachine$Row", "same", "(LSequentMachine$Row;)Z"⟩, prog_6_method_9_code, 2, some .boolean, 2, 44)
abbrev mm_Ro_holdsAt : xM := (⟨"SequentMachine$Row", "holdsAt", "(ILSequentMachine$Row;)Z"⟩, prog_6_method_10_code, 4, some .boolean, 1, 21)
abbrev mm_Ro_comesBefore : xM := (⟨"SequentMachine$Row", "comesBefore", "(LSequentMachine$Row;)Z"⟩, prog_6_method_11_code, 3, some .boolean, 1, 21)
abbrev mm_Ro_hasFree : xM := (⟨"SequentMachine$Row", "hasFree", "(LSequentMachine$Row;)Z"⟩, prog_6_method_12_code, 3, some .boolean, 2, 44)
abbrev mm_Ro_hasFreeVariable : xM := (⟨"SequentMachine$Row", "hasFreeVariable", "()Z"⟩, prog_6_method_13_code, 1, some .boolean, 2, 43)
abbrev mm_Ro_has : xM := (⟨"SequentMachine$Row", "has", "(I)Z"⟩, prog_6_method_14_code, 3, some .boolean, 1, 21)
abbrev mm_Ro_typeVariablesStandIn : xM := (⟨"SequentMachine$Row", "typeVariablesStandIn", "(LSequentMachine$Row;)Z"⟩, prog_6_method_15_code, 3, some .boolean, 2, 43)
abbrev mm_Ro_isOfType : xM := (⟨"SequentMachine$Row", "isOfType", "(I)Z"⟩, prog_6_method_16_code, 3, some .boolean, 1, 21)
abbrev mm_Ro_termsWithin : xM := (⟨"SequentMachine$Row", "termsWithin", "(I)I"⟩, prog_6_method_17_code, 1, some .int, 0, 0)
abbrev mm_Sc_init : xM := (⟨"SequentMachine$Scribe", "<init>", "()V"⟩, prog_7_method_1_code, 1, none, 2, 40)
abbrev mm_Sc_simpleType : xM := (⟨"SequentMachine$Scribe", "simpleType", "(I)LSequentMachine$Row;"⟩, prog_7_method_2_code, 2, some (.object "SequentMachine$Row"), 4, 163)
abbrev mm_Sc_functionType : xM := (⟨"SequentMachine$Scribe", "functionType", "(LSequentMachine$Row;LSequentMachine$Row;)LSequentMachine$Row;"⟩, prog_7_method_3_code, 3, some (.object "SequentMachine$Row"), 4, 163)
abbrev mm_Sc_leaf : xM := (⟨"SequentMachine$Scribe", "leaf", "(IILSequentMachine$Row;)LSequentMachine$Row;"⟩, prog_7_method_4_code, 4, some (.object "SequentMachine$Row"), 4, 163)
abbrev mm_Sc_application : xM := (⟨"SequentMachine$Scribe", "application", "(LSequentMachine$Row;LSequentMachine$Row;)LSequentMachine$Row;"⟩, prog_7_method_5_code, 3, some (.object "SequentMachine$Row"), 4, 163)
abbrev mm_Sc_equation : xM := (⟨"SequentMachine$Scribe", "equation", "(LSequentMachine$Row;LSequentMachine$Row;LSequentMachine$Row;)LSequentMachine$Row;"⟩, prog_7_method_6_code, 4, some (.object "SequentMachine$Row"), 4, 163)
abbrev mm_Sc_abstraction : xM := (⟨"SequentMachine$Scribe", "abstraction", "(LSequentMachine$Row;LSequentMachine$Row;)LSequentMachine$Row;"⟩, prog_7_method_7_code, 5, some (.object "SequentMachine$Row"), 4, 163)
abbrev mm_Sc_replaceVariable : xM := (⟨"SequentMachine$Scribe", "replaceVariable", "(LSequentMachine$Row;LSequentMachine$Row;LSequentMachine$Row;)LSequentMachine$Row;"⟩, prog_7_method_8_code, 6, some (.object "SequentMachine$Row"), 4, 163)
abbrev mm_Sc_replaceOutermost : xM := (⟨"SequentMachine$Scribe", "replaceOutermost", "(LSequentMachine$Row;LSequentMachine$Row;)LSequentMachine$Row;"⟩, prog_7_method_9_code, 4, some (.object "SequentMachine$Row"), 4, 163)
abbrev mm_Sc_replaceTypeVariable : xM := (⟨"SequentMachine$Scribe", "replaceTypeVariable", "(LSequentMachine$Row;ILSequentMachine$Row;)LSequentMachine$Row;"⟩, prog_7_method_10_code, 5, some (.object "SequentMachine$Row"), 4, 163)
abbrev mm_Sc_typeOf : xM := (⟨"SequentMachine$Scribe", "typeOf", "(LSequentMachine$Row;)LSequentMachine$Row;"⟩, prog_7_method_11_code, 6, some (.object "SequentMachine$Row"), 4, 163)
abbrev mm_Sc_putLeafType : xM := (⟨"SequentMachine$Scribe", "putLeafType", "(LSequentMachine$Row;III)V"⟩, prog_7_method_12_code, 10, none, 3, 66)
abbrev mm_Sc_putEqualType : xM := (⟨"SequentMachine$Scribe", "putEqualType", "(LSequentMachine$Row;I)V"⟩, prog_7_method_13_code, 4, none, 2, 43)
abbrev mm_Sc_put : xM := (⟨"SequentMachine$Scribe", "put", "(I)V"⟩, prog_7_method_14_code, 2, none, 0, 0)
abbrev mm_Sc_putRow : xM := (⟨"SequentMachine$Scribe", "putRow", "(LSequentMachine$Row;)V"⟩, prog_7_method_15_code, 3, none, 1, 21)
abbrev mm_Sc_finishedRow : xM := (⟨"SequentMachine$Scribe", "finishedRow", "()LSequentMachine$Row;"⟩, prog_7_method_16_code, 2, some (.object "SequentMachine$Row"), 3, 142)
abbrev mm_Sh_init : xM := (⟨"SequentMachine$Shelf", "<init>", "(I)V"⟩, prog_8_method_1_code, 2, none, 1, 20)
abbrev mm_Sh_isFull : xM := (⟨"SequentMachine$Shelf", "isFull", "()Z"⟩, prog_8_method_2_code, 1, some .boolean, 0, 0)
abbrev mm_Sh_get : xM := (⟨"SequentMachine$Shelf", "get", "(I)LSequentMachine$Item;"⟩, prog_8_method_3_code, 2, some (.object "SequentMachine$Item"), 0, 0)
abbrev mm_Sh_below : xM := (⟨"SequentMachine$Shelf", "below", "(I)LSequentMachine$Item;"⟩, prog_8_method_4_code, 2, some (.object "SequentMachine$Item"), 0, 0)
abbrev mm_Sh_add : xM := (⟨"SequentMachine$Shelf", "add", "(LSequentMachine$Item;)V"⟩, prog_8_method_5_code, 2, none, 0, 0)
abbrev mm_Sh_drop : xM := (⟨"SequentMachine$Shelf", "drop", "(I)V"⟩, prog_8_method_6_code, 2, none, 1, 21)
abbrev mm_Ar_copyOf : xM := (⟨"java/util/Arrays", "copyOf", "([II)[I"⟩, prog_14_method_123_code, 3, some (.array .int), 2, 120)
abbrev mm_Mt_min : xM := (⟨"java/lang/Math", "min", "(II)I"⟩, prog_12_method_69_code, 2, some .int, 0, 0)
abbrev mm_Mt_max : xM := (⟨"java/lang/Math", "max", "(II)I"⟩, prog_12_method_65_code, 2, some .int, 0, 0)
theorem lc_Ma_init : x_cd mm_Ma_init 0 := ⟨x_at 17 (by decide +kernel) rfl, x_at 1 (by decide +kernel) rfl, by decide +kernel, by decide +kernel, by decide +kernel⟩
theorem li_Ma_init : Cond.instanceMethod mm_Ma_init.1 ∈ x_ws ∧ mm_Ma_init.1.name = "<init>" ∧ mm_Ma_init.2.2.2.1 = none := ⟨x_at 16 (by decide +kernel) rfl, rfl, rfl⟩
theorem lc_Ma_type : x_cd mm_Ma_type 1 := ⟨x_at 125 (by decide +kernel) rfl, x_at 1 (by decide +kernel) rfl, by decide +kernel, by decide +kernel, by decide +kernel⟩
theorem li_Ma_type : Cond.instanceMethod mm_Ma_type.1 ∈ x_ws ∧ Cond.selects mm_Ma_type.1.cls mm_Ma_type.1 mm_Ma_type.1 ∈ x_ws := ⟨x_at 123 (by decide +kernel) rfl, x_at 124 (by decide +kernel) rfl⟩
theorem lc_Ma_var : x_cd mm_Ma_var 1 := ⟨x_at 250 (by decide +kernel) rfl, x_at 1 (by decide +kernel) rfl, by decide +kernel, by decide +kernel, by decide +kernel⟩
theorem li_Ma_var : Cond.instanceMethod mm_Ma_var.1 ∈ x_ws ∧ Cond.selects mm_Ma_var.1.cls mm_Ma_var.1 mm_Ma_var.1 ∈ x_ws := ⟨x_at 248 (by decide +kernel) rfl, x_at 249 (by decide +kernel) rfl⟩
theorem lc_Ma_constant : x_cd mm_Ma_constant 1 := ⟨x_at 262 (by decide +kernel) rfl, x_at 1 (by decide +kernel) rfl, by decide +kernel, by decide +kernel, by decide +kernel⟩
theorem li_Ma_constant : Cond.instanceMethod mm_Ma_constant.1 ∈ x_ws ∧ Cond.selects mm_Ma_constant.1.cls mm_Ma_constant.1 mm_Ma_constant.1 ∈ x_ws := ⟨x_at 260 (by decide +kernel) rfl, x_at 261 (by decide +kernel) rfl⟩
theorem lc_Ma_app : x_cd mm_Ma_app 0 := ⟨x_at 266 (by decide +kernel) rfl, x_at 1 (by decide +kernel) rfl, by decide +kernel, by decide +kernel, by decide +kernel⟩
theorem li_Ma_app : Cond.instanceMethod mm_Ma_app.1 ∈ x_ws ∧ Cond.selects mm_Ma_app.1.cls mm_Ma_app.1 mm_Ma_app.1 ∈ x_ws := ⟨x_at 264 (by decide +kernel) rfl, x_at 265 (by decide +kernel) rfl⟩
theorem lc_Ma_abs : x_cd mm_Ma_abs 0 := ⟨x_at 319 (by decide +kernel) rfl, x_at 1 (by decide +kernel) rfl, by decide +kernel, by decide +kernel, by decide +kernel⟩
theorem li_Ma_abs : Cond.instanceMethod mm_Ma_abs.1 ∈ x_ws ∧ Cond.selects mm_Ma_abs.1.cls mm_Ma_abs.1 mm_Ma_abs.1 ∈ x_ws := ⟨x_at 317 (by decide +kernel) rfl, x_at 318 (by decide +kernel) rfl⟩
theorem lc_Ma_theorem : x_cd mm_Ma_theorem 1 := ⟨x_at 343 (by decide +kernel) rfl, x_at 1 (by decide +kernel) rfl, by decide +kernel, by decide +kernel, by decide +kernel⟩
theorem li_Ma_theorem : Cond.instanceMethod mm_Ma_theorem.1 ∈ x_ws ∧ Cond.selects mm_Ma_theorem.1.cls mm_Ma_theorem.1 mm_Ma_theorem.1 ∈ x_ws := ⟨x_at 341 (by decide +kernel) rfl, x_at 342 (by decide +kernel) rfl⟩
theorem lc_Ma_join : x_cd mm_Ma_join 1 := ⟨x_at 414 (by decide +kernel) rfl, x_at 1 (by decide +kernel) rfl, by decide +kernel, by decide +kernel, by decide +kernel⟩
theorem li_Ma_join : Cond.instanceMethod mm_Ma_join.1 ∈ x_ws ∧ Cond.selects mm_Ma_join.1.cls mm_Ma_join.1 mm_Ma_join.1 ∈ x_ws := ⟨x_at 412 (by decide +kernel) rfl, x_at 413 (by decide +kernel) rfl⟩
theorem lc_Ma_absThm : x_cd mm_Ma_absThm 0 := ⟨x_at 470 (by decide +kernel) rfl, x_at 1 (by decide +kernel) rfl, by decide +kernel, by decide +kernel, by decide +kernel⟩
theorem li_Ma_absThm : Cond.instanceMethod mm_Ma_absThm.1 ∈ x_ws ∧ Cond.selects mm_Ma_absThm.1.cls mm_Ma_absThm.1 mm_Ma_absThm.1 ∈ x_ws := ⟨x_at 468 (by decide +kernel) rfl, x_at 469 (by decide +kernel) rfl⟩
theorem lc_Ma_inst : x_cd mm_Ma_inst 0 := ⟨x_at 482 (by decide +kernel) rfl, x_at 1 (by decide +kernel) rfl, by decide +kernel, by decide +kernel, by decide +kernel⟩
theorem li_Ma_inst : Cond.instanceMethod mm_Ma_inst.1 ∈ x_ws ∧ Cond.selects mm_Ma_inst.1.cls mm_Ma_inst.1 mm_Ma_inst.1 ∈ x_ws := ⟨x_at 480 (by decide +kernel) rfl, x_at 481 (by decide +kernel) rfl⟩
theorem lc_Ma_instType : x_cd mm_Ma_instType 1 := ⟨x_at 490 (by decide +kernel) rfl, x_at 1 (by decide +kernel) rfl, by decide +kernel, by decide +kernel, by decide +kernel⟩
theorem li_Ma_instType : Cond.instanceMethod mm_Ma_instType.1 ∈ x_ws ∧ Cond.selects mm_Ma_instType.1.cls mm_Ma_instType.1 mm_Ma_instType.1 ∈ x_ws := ⟨x_at 488 (by decide +kernel) rfl, x_at 489 (by decide +kernel) rfl⟩
theorem lc_Ma_keep : x_cd mm_Ma_keep 1 := ⟨x_at 499 (by decide +kernel) rfl, x_at 1 (by decide +kernel) rfl, by decide +kernel, by decide +kernel, by decide +kernel⟩
theorem li_Ma_keep : Cond.instanceMethod mm_Ma_keep.1 ∈ x_ws ∧ Cond.selects mm_Ma_keep.1.cls mm_Ma_keep.1 mm_Ma_keep.1 ∈ x_ws := ⟨x_at 497 (by decide +kernel) rfl, x_at 498 (by decide +kernel) rfl⟩
theorem lc_Ma_fetch : x_cd mm_Ma_fetch 1 := ⟨x_at 503 (by decide +kernel) rfl, x_at 1 (by decide +kernel) rfl, by decide +kernel, by decide +kernel, by decide +kernel⟩
theorem li_Ma_fetch : Cond.instanceMethod mm_Ma_fetch.1 ∈ x_ws ∧ Cond.selects mm_Ma_fetch.1.cls mm_Ma_fetch.1 mm_Ma_fetch.1 ∈ x_ws := ⟨x_at 501 (by decide +kernel) rfl, x_at 502 (by decide +kernel) rfl⟩
theorem lc_Ma_pop : x_cd mm_Ma_pop 0 := ⟨x_at 511 (by decide +kernel) rfl, x_at 1 (by decide +kernel) rfl, by decide +kernel, by decide +kernel, by decide +kernel⟩
theorem li_Ma_pop : Cond.instanceMethod mm_Ma_pop.1 ∈ x_ws ∧ Cond.selects mm_Ma_pop.1.cls mm_Ma_pop.1 mm_Ma_pop.1 ∈ x_ws := ⟨x_at 509 (by decide +kernel) rfl, x_at 510 (by decide +kernel) rfl⟩
theorem lc_Ma_export : x_cd mm_Ma_export 0 := ⟨x_at 515 (by decide +kernel) rfl, x_at 1 (by decide +kernel) rfl, by decide +kernel, by decide +kernel, by decide +kernel⟩
theorem li_Ma_export : Cond.instanceMethod mm_Ma_export.1 ∈ x_ws ∧ Cond.selects mm_Ma_export.1.cls mm_Ma_export.1 mm_Ma_export.1 ∈ x_ws := ⟨x_at 513 (by decide +kernel) rfl, x_at 514 (by decide +kernel) rfl⟩
theorem lc_Ma_count : x_cd mm_Ma_count 1 := ⟨x_at 519 (by decide +kernel) rfl, x_at 1 (by decide +kernel) rfl, by decide +kernel, by decide +kernel, by decide +kernel⟩
theorem li_Ma_count : Cond.instanceMethod mm_Ma_count.1 ∈ x_ws ∧ Cond.selects mm_Ma_count.1.cls mm_Ma_count.1 mm_Ma_count.1 ∈ x_ws := ⟨x_at 517 (by decide +kernel) rfl, x_at 518 (by decide +kernel) rfl⟩
theorem lc_Ma_kind : x_cd mm_Ma_kind 1 := ⟨x_at 523 (by decide +kernel) rfl, x_at 1 (by decide +kernel) rfl, by decide +kernel, by decide +kernel, by decide +kernel⟩
theorem li_Ma_kind : Cond.instanceMethod mm_Ma_kind.1 ∈ x_ws ∧ Cond.selects mm_Ma_kind.1.cls mm_Ma_kind.1 mm_Ma_kind.1 ∈ x_ws := ⟨x_at 521 (by decide +kernel) rfl, x_at 522 (by decide +kernel) rfl⟩
theorem lc_Ma_hypotheses : x_cd mm_Ma_hypotheses 1 := ⟨x_at 535 (by decide +kernel) rfl, x_at 1 (by decide +kernel) rfl, by decide +kernel, by decide +kernel, by decide +kernel⟩
theorem li_Ma_hypotheses : Cond.instanceMethod mm_Ma_hypotheses.1 ∈ x_ws ∧ Cond.selects mm_Ma_hypotheses.1.cls mm_Ma_hypotheses.1 mm_Ma_hypotheses.1 ∈ x_ws := ⟨x_at 533 (by decide +kernel) rfl, x_at 534 (by decide +kernel) rfl⟩
theorem lc_Ma_length : x_cd mm_Ma_length 2 := ⟨x_at 539 (by decide +kernel) rfl, x_at 1 (by decide +kernel) rfl, by decide +kernel, by decide +kernel, by decide +kernel⟩
theorem li_Ma_length : Cond.instanceMethod mm_Ma_length.1 ∈ x_ws ∧ Cond.selects mm_Ma_length.1.cls mm_Ma_length.1 mm_Ma_length.1 ∈ x_ws := ⟨x_at 537 (by decide +kernel) rfl, x_at 538 (by decide +kernel) rfl⟩
theorem lc_Ma_symbol : x_cd mm_Ma_symbol 3 := ⟨x_at 551 (by decide +kernel) rfl, x_at 1 (by decide +kernel) rfl, by decide +kernel, by decide +kernel, by decide +kernel⟩
theorem li_Ma_symbol : Cond.instanceMethod mm_Ma_symbol.1 ∈ x_ws ∧ Cond.selects mm_Ma_symbol.1.cls mm_Ma_symbol.1 mm_Ma_symbol.1 ∈ x_ws := ⟨x_at 549 (by decide +kernel) rfl, x_at 550 (by decide +kernel) rfl⟩
theorem lc_Ma_assume : x_cd mm_Ma_assume 1 := ⟨x_at 355 (by decide +kernel) rfl, x_at 1 (by decide +kernel) rfl, by decide +kernel, by decide +kernel, by decide +kernel⟩
theorem li_Ma_assume : Cond.instanceMethod mm_Ma_assume.1 ∈ x_ws ∧ Cond.selects mm_Ma_assume.1.cls mm_Ma_assume.1 mm_Ma_assume.1 ∈ x_ws := ⟨x_at 354 (by decide +kernel) rfl, x_sel (q := (mm_Ma_assume.1, 9)) 14 (by decide +kernel)⟩
theorem lc_Ma_reduce : x_cd mm_Ma_reduce 1 := ⟨x_at 368 (by decide +kernel) rfl, x_at 1 (by decide +kernel) rfl, by decide +kernel, by decide +kernel, by decide +kernel⟩
theorem li_Ma_reduce : Cond.instanceMethod mm_Ma_reduce.1 ∈ x_ws ∧ Cond.selects mm_Ma_reduce.1.cls mm_Ma_reduce.1 mm_Ma_reduce.1 ∈ x_ws := ⟨x_at 367 (by decide +kernel) rfl, x_sel (q := (mm_Ma_reduce.1, 9)) 15 (by decide +kernel)⟩
theorem lc_Ma_addAxiom : x_cd mm_Ma_addAxiom 1 := ⟨x_at 386 (by decide +kernel) rfl, x_at 1 (by decide +kernel) rfl, by decide +kernel, by decide +kernel, by decide +kernel⟩
theorem li_Ma_addAxiom : Cond.instanceMethod mm_Ma_addAxiom.1 ∈ x_ws ∧ Cond.selects mm_Ma_addAxiom.1.cls mm_Ma_addAxiom.1 mm_Ma_addAxiom.1 ∈ x_ws := ⟨x_at 385 (by decide +kernel) rfl, x_sel (q := (mm_Ma_addAxiom.1, 9)) 16 (by decide +kernel)⟩
theorem lc_Ma_define : x_cd mm_Ma_define 1 := ⟨x_at 394 (by decide +kernel) rfl, x_at 1 (by decide +kernel) rfl, by decide +kernel, by decide +kernel, by decide +kernel⟩
theorem li_Ma_define : Cond.instanceMethod mm_Ma_define.1 ∈ x_ws ∧ Cond.selects mm_Ma_define.1.cls mm_Ma_define.1 mm_Ma_define.1 ∈ x_ws := ⟨x_at 393 (by decide +kernel) rfl, x_sel (q := (mm_Ma_define.1, 9)) 17 (by decide +kernel)⟩
theorem lc_Ma_followEquation : x_cd mm_Ma_followEquation 2 := ⟨x_at 418 (by decide +kernel) rfl, x_at 1 (by decide +kernel) rfl, by decide +kernel, by decide +kernel, by decide +kernel⟩
theorem li_Ma_followEquation : Cond.instanceMethod mm_Ma_followEquation.1 ∈ x_ws ∧ Cond.selects mm_Ma_followEquation.1.cls mm_Ma_followEquation.1 mm_Ma_followEquation.1 ∈ x_ws := ⟨x_at 417 (by decide +kernel) rfl, x_sel (q := (mm_Ma_followEquation.1, 9)) 18 (by decide +kernel)⟩
theorem lc_Ma_applyEquations : x_cd mm_Ma_applyEquations 2 := ⟨x_at 457 (by decide +kernel) rfl, x_at 1 (by decide +kernel) rfl, by decide +kernel, by decide +kernel, by decide +kernel⟩
theorem li_Ma_applyEquations : Cond.instanceMethod mm_Ma_applyEquations.1 ∈ x_ws ∧ Cond.selects mm_Ma_applyEquations.1.cls mm_Ma_applyEquations.1 mm_Ma_applyEquations.1 ∈ x_ws := ⟨x_at 456 (by decide +kernel) rfl, x_sel (q := (mm_Ma_applyEquations.1, 9)) 21 (by decide +kernel)⟩
theorem lc_Ma_deduct : x_cd mm_Ma_deduct 2 := ⟨x_at 462 (by decide +kernel) rfl, x_at 1 (by decide +kernel) rfl, by decide +kernel, by decide +kernel, by decide +kernel⟩
theorem li_Ma_deduct : Cond.instanceMethod mm_Ma_deduct.1 ∈ x_ws ∧ Cond.selects mm_Ma_deduct.1.cls mm_Ma_deduct.1 mm_Ma_deduct.1 ∈ x_ws := ⟨x_at 461 (by decide +kernel) rfl, x_sel (q := (mm_Ma_deduct.1, 9)) 22 (by decide +kernel)⟩
theorem lc_Ma_hypothesesOfBoth : x_cd mm_Ma_hypothesesOfBoth 2 := ⟨x_at 448 (by decide +kernel) rfl, x_at 1 (by decide +kernel) rfl, by decide +kernel, by decide +kernel, by decide +kernel⟩
theorem li_Ma_hypothesesOfBoth : Cond.instanceMethod mm_Ma_hypothesesOfBoth.1 ∈ x_ws ∧ Cond.selects mm_Ma_hypothesesOfBoth.1.cls mm_Ma_hypothesesOfBoth.1 mm_Ma_hypothesesOfBoth.1 ∈ x_ws := ⟨x_at 447 (by decide +kernel) rfl, x_sel (q := (mm_Ma_hypothesesOfBoth.1, 9)) 20 (by decide +kernel)⟩
theorem lc_Ma_equationIn : x_cd mm_Ma_equationIn 1 := ⟨x_at 422 (by decide +kernel) rfl, x_at 1 (by decide +kernel) rfl, by decide +kernel, by decide +kernel, by decide +kernel⟩
theorem li_Ma_equationIn : Cond.instanceMethod mm_Ma_equationIn.1 ∈ x_ws ∧ Cond.selects mm_Ma_equationIn.1.cls mm_Ma_equationIn.1 mm_Ma_equationIn.1 ∈ x_ws := ⟨x_at 421 (by decide +kernel) rfl, x_sel (q := (mm_Ma_equationIn.1, 9)) 19 (by decide +kernel)⟩
theorem lc_Ma_takesArgument : x_cd mm_Ma_takesArgument 2 := ⟨x_at 297 (by decide +kernel) rfl, x_at 1 (by decide +kernel) rfl, by decide +kernel, by decide +kernel, by decide +kernel⟩
theorem li_Ma_takesArgument : Cond.instanceMethod mm_Ma_takesArgument.1 ∈ x_ws ∧ Cond.selects mm_Ma_takesArgument.1.cls mm_Ma_takesArgument.1 mm_Ma_takesArgument.1 ∈ x_ws := ⟨x_at 296 (by decide +kernel) rfl, x_sel (q := (mm_Ma_takesArgument.1, 9)) 11 (by decide +kernel)⟩
theorem lc_Ma_finishType : x_cd mm_Ma_finishType 2 := ⟨x_at 177 (by decide +kernel) rfl, x_at 1 (by decide +kernel) rfl, by decide +kernel, by decide +kernel, by decide +kernel⟩
theorem li_Ma_finishType : Cond.instanceMethod mm_Ma_finishType.1 ∈ x_ws ∧ Cond.selects mm_Ma_finishType.1.cls mm_Ma_finishType.1 mm_Ma_finishType.1 ∈ x_ws := ⟨x_at 176 (by decide +kernel) rfl, x_sel (q := (mm_Ma_finishType.1, 9)) 2 (by decide +kernel)⟩
theorem lc_Ma_finishTerm : x_cd mm_Ma_finishTerm 2 := ⟨x_at 258 (by decide +kernel) rfl, x_at 1 (by decide +kernel) rfl, by decide +kernel, by decide +kernel, by decide +kernel⟩
theorem li_Ma_finishTerm : Cond.instanceMethod mm_Ma_finishTerm.1 ∈ x_ws ∧ Cond.selects mm_Ma_finishTerm.1.cls mm_Ma_finishTerm.1 mm_Ma_finishTerm.1 ∈ x_ws := ⟨x_at 257 (by decide +kernel) rfl, x_sel (q := (mm_Ma_finishTerm.1, 9)) 8 (by decide +kernel)⟩
theorem lc_Ma_finishTheorem : x_cd mm_Ma_finishTheorem 3 := ⟨x_at 351 (by decide +kernel) rfl, x_at 1 (by decide +kernel) rfl, by decide +kernel, by decide +kernel, by decide +kernel⟩
theorem li_Ma_finishTheorem : Cond.instanceMethod mm_Ma_finishTheorem.1 ∈ x_ws ∧ Cond.selects mm_Ma_finishTheorem.1.cls mm_Ma_finishTheorem.1 mm_Ma_finishTheorem.1 ∈ x_ws := ⟨x_at 350 (by decide +kernel) rfl, x_sel (q := (mm_Ma_finishTheorem.1, 9)) 13 (by decide +kernel)⟩
theorem lc_Ma_finish : x_cd mm_Ma_finish 2 := ⟨x_at 199 (by decide +kernel) rfl, x_at 1 (by decide +kernel) rfl, by decide +kernel, by decide +kernel, by decide +kernel⟩
theorem li_Ma_finish : Cond.instanceMethod mm_Ma_finish.1 ∈ x_ws ∧ Cond.selects mm_Ma_finish.1.cls mm_Ma_finish.1 mm_Ma_finish.1 ∈ x_ws := ⟨x_at 198 (by decide +kernel) rfl, x_sel (q := (mm_Ma_finish.1, 9)) 3 (by decide +kernel)⟩
theorem lc_Ma_finishEmptyHanded : x_cd mm_Ma_finishEmptyHanded 1 := ⟨x_at 211 (by decide +kernel) rfl, x_at 1 (by decide +kernel) rfl, by decide +kernel, by decide +kernel, by decide +kernel⟩
theorem li_Ma_finishEmptyHanded : Cond.instanceMethod mm_Ma_finishEmptyHanded.1 ∈ x_ws ∧ Cond.selects mm_Ma_finishEmptyHanded.1.cls mm_Ma_finishEmptyHanded.1 mm_Ma_finishEmptyHanded.1 ∈ x_ws := ⟨x_at 210 (by decide +kernel) rfl, x_sel (q := (mm_Ma_finishEmptyHanded.1, 9)) 4 (by decide +kernel)⟩
theorem lc_Ma_itemBelow : x_cd mm_Ma_itemBelow 2 := ⟨x_at 230 (by decide +kernel) rfl, x_at 1 (by decide +kernel) rfl, by decide +kernel, by decide +kernel, by decide +kernel⟩
theorem li_Ma_itemBelow : Cond.instanceMethod mm_Ma_itemBelow.1 ∈ x_ws ∧ Cond.selects mm_Ma_itemBelow.1.cls mm_Ma_itemBelow.1 mm_Ma_itemBelow.1 ∈ x_ws := ⟨x_at 229 (by decide +kernel) rfl, x_sel (q := (mm_Ma_itemBelow.1, 9)) 6 (by decide +kernel)⟩
theorem lc_Ma_rowBelow : x_cd mm_Ma_rowBelow 2 := ⟨x_at 226 (by decide +kernel) rfl, x_at 1 (by decide +kernel) rfl, by decide +kernel, by decide +kernel, by decide +kernel⟩
theorem li_Ma_rowBelow : Cond.instanceMethod mm_Ma_rowBelow.1 ∈ x_ws ∧ Cond.selects mm_Ma_rowBelow.1.cls mm_Ma_rowBelow.1 mm_Ma_rowBelow.1 ∈ x_ws := ⟨x_at 225 (by decide +kernel) rfl, x_sel (q := (mm_Ma_rowBelow.1, 9)) 5 (by decide +kernel)⟩
theorem lc_Ma_variableBelow : x_cd mm_Ma_variableBelow 1 := ⟨x_at 323 (by decide +kernel) rfl, x_at 1 (by decide +kernel) rfl, by decide +kernel, by decide +kernel, by decide +kernel⟩
theorem li_Ma_variableBelow : Cond.instanceMethod mm_Ma_variableBelow.1 ∈ x_ws ∧ Cond.selects mm_Ma_variableBelow.1.cls mm_Ma_variableBelow.1 mm_Ma_variableBelow.1 ∈ x_ws := ⟨x_at 322 (by decide +kernel) rfl, x_sel (q := (mm_Ma_variableBelow.1, 9)) 12 (by decide +kernel)⟩
theorem lc_Ma_keptFor : x_cd mm_Ma_keptFor 1 := ⟨x_at 507 (by decide +kernel) rfl, x_at 1 (by decide +kernel) rfl, by decide +kernel, by decide +kernel, by decide +kernel⟩
theorem li_Ma_keptFor : Cond.instanceMethod mm_Ma_keptFor.1 ∈ x_ws ∧ Cond.selects mm_Ma_keptFor.1.cls mm_Ma_keptFor.1 mm_Ma_keptFor.1 ∈ x_ws := ⟨x_at 506 (by decide +kernel) rfl, x_sel (q := (mm_Ma_keptFor.1, 9)) 23 (by decide +kernel)⟩
theorem lc_Ma_itemAt : x_cd mm_Ma_itemAt 1 := ⟨x_at 527 (by decide +kernel) rfl, x_at 1 (by decide +kernel) rfl, by decide +kernel, by decide +kernel, by decide +kernel⟩
theorem li_Ma_itemAt : Cond.instanceMethod mm_Ma_itemAt.1 ∈ x_ws ∧ Cond.selects mm_Ma_itemAt.1.cls mm_Ma_itemAt.1 mm_Ma_itemAt.1 ∈ x_ws := ⟨x_at 526 (by decide +kernel) rfl, x_sel (q := (mm_Ma_itemAt.1, 9)) 24 (by decide +kernel)⟩
theorem lc_Ma_partAt : x_cd mm_Ma_partAt 2 := ⟨x_at 543 (by decide +kernel) rfl, x_at 1 (by decide +kernel) rfl, by decide +kernel, by decide +kernel, by decide +kernel⟩
theorem li_Ma_partAt : Cond.instanceMethod mm_Ma_partAt.1 ∈ x_ws ∧ Cond.selects mm_Ma_partAt.1.cls mm_Ma_partAt.1 mm_Ma_partAt.1 ∈ x_ws := ⟨x_at 542 (by decide +kernel) rfl, x_sel (q := (mm_Ma_partAt.1, 9)) 25 (by decide +kernel)⟩
theorem lc_Re_init : x_cd mm_Re_init 0 := ⟨x_at 556 (by decide +kernel) rfl, x_at 6 (by decide +kernel) rfl, by decide +kernel, by decide +kernel, by decide +kernel⟩
theorem li_Re_init : Cond.instanceMethod mm_Re_init.1 ∈ x_ws ∧ mm_Re_init.1.name = "<init>" ∧ mm_Re_init.2.2.2.1 = none := ⟨x_at 555 (by decide +kernel) rfl, rfl, rfl⟩
theorem lc_Re_base : x_cd mm_Re_base 2 := ⟨x_at 626 (by decide +kernel) rfl, x_at 6 (by decide +kernel) rfl, by decide +kernel, by decide +kernel, by decide +kernel⟩
theorem li_Re_base : Cond.static mm_Re_base.1 ∈ x_ws := x_at 625 (by decide +kernel) rfl
theorem lc_Re_emit : x_cd mm_Re_emit 1 := ⟨x_at 619 (by decide +kernel) rfl, x_at 6 (by decide +kernel) rfl, by decide +kernel, by decide +kernel, by decide +kernel⟩
theorem li_Re_emit : Cond.instanceMethod mm_Re_emit.1 ∈ x_ws ∧ Cond.selects mm_Re_emit.1.cls mm_Re_emit.1 mm_Re_emit.1 ∈ x_ws := ⟨x_at 618 (by decide +kernel) rfl, x_sel (q := (mm_Re_emit.1, 15)) 28 (by decide +kernel)⟩
theorem lc_Re_emitRow : x_cd mm_Re_emitRow 2 := ⟨x_at 650 (by decide +kernel) rfl, x_at 6 (by decide +kernel) rfl, by decide +kernel, by decide +kernel, by decide +kernel⟩
theorem li_Re_emitRow : Cond.instanceMethod mm_Re_emitRow.1 ∈ x_ws ∧ Cond.selects mm_Re_emitRow.1.cls mm_Re_emitRow.1 mm_Re_emitRow.1 ∈ x_ws := ⟨x_at 649 (by decide +kernel) rfl, x_sel (q := (mm_Re_emitRow.1, 15)) 35 (by decide +kernel)⟩
theorem lc_Re_sameRow : x_cd mm_Re_sameRow 4 := ⟨x_at 686 (by decide +kernel) rfl, x_at 6 (by decide +kernel) rfl, by decide +kernel, by decide +kernel, by decide +kernel⟩
theorem li_Re_sameRow : Cond.instanceMethod mm_Re_sameRow.1 ∈ x_ws ∧ Cond.selects mm_Re_sameRow.1.cls mm_Re_sameRow.1 mm_Re_sameRow.1 ∈ x_ws := ⟨x_at 685 (by decide +kernel) rfl, x_sel (q := (mm_Re_sameRow.1, 15)) 41 (by decide +kernel)⟩
theorem lc_Re_skipType : x_cd mm_Re_skipType 1 := ⟨x_at 678 (by decide +kernel) rfl, x_at 6 (by decide +kernel) rfl, by decide +kernel, by decide +kernel, by decide +kernel⟩
theorem li_Re_skipType : Cond.instanceMethod mm_Re_skipType.1 ∈ x_ws ∧ Cond.selects mm_Re_skipType.1.cls mm_Re_skipType.1 mm_Re_skipType.1 ∈ x_ws := ⟨x_at 677 (by decide +kernel) rfl, x_sel (q := (mm_Re_skipType.1, 15)) 39 (by decide +kernel)⟩
theorem lc_Re_skipTerm : x_cd mm_Re_skipTerm 1 := ⟨x_at 710 (by decide +kernel) rfl, x_at 6 (by decide +kernel) rfl, by decide +kernel, by decide +kernel, by decide +kernel⟩
theorem li_Re_skipTerm : Cond.instanceMethod mm_Re_skipTerm.1 ∈ x_ws ∧ Cond.selects mm_Re_skipTerm.1.cls mm_Re_skipTerm.1 mm_Re_skipTerm.1 ∈ x_ws := ⟨x_at 709 (by decide +kernel) rfl, x_sel (q := (mm_Re_skipTerm.1, 15)) 46 (by decide +kernel)⟩
theorem lc_Re_depth : x_cd mm_Re_depth 2 := ⟨x_at 706 (by decide +kernel) rfl, x_at 6 (by decide +kernel) rfl, by decide +kernel, by decide +kernel, by decide +kernel⟩
theorem li_Re_depth : Cond.instanceMethod mm_Re_depth.1 ∈ x_ws ∧ Cond.selects mm_Re_depth.1.cls mm_Re_depth.1 mm_Re_depth.1 ∈ x_ws := ⟨x_at 705 (by decide +kernel) rfl, x_sel (q := (mm_Re_depth.1, 15)) 45 (by decide +kernel)⟩
theorem lc_Re_typeOf : x_cd mm_Re_typeOf 1 := ⟨x_at 674 (by decide +kernel) rfl, x_at 6 (by decide +kernel) rfl, by decide +kernel, by decide +kernel, by decide +kernel⟩
theorem li_Re_typeOf : Cond.instanceMethod mm_Re_typeOf.1 ∈ x_ws ∧ Cond.selects mm_Re_typeOf.1.cls mm_Re_typeOf.1 mm_Re_typeOf.1 ∈ x_ws := ⟨x_at 673 (by decide +kernel) rfl, x_sel (q := (mm_Re_typeOf.1, 15)) 38 (by decide +kernel)⟩
theorem lc_Re_equalAt : x_cd mm_Re_equalAt 2 := ⟨x_at 682 (by decide +kernel) rfl, x_at 6 (by decide +kernel) rfl, by decide +kernel, by decide +kernel, by decide +kernel⟩
theorem li_Re_equalAt : Cond.instanceMethod mm_Re_equalAt.1 ∈ x_ws ∧ Cond.selects mm_Re_equalAt.1.cls mm_Re_equalAt.1 mm_Re_equalAt.1 ∈ x_ws := ⟨x_at 681 (by decide +kernel) rfl, x_sel (q := (mm_Re_equalAt.1, 15)) 40 (by decide +kernel)⟩
theorem lc_Re_isEquation : x_cd mm_Re_isEquation 1 := ⟨x_at 762 (by decide +kernel) rfl, x_at 6 (by decide +kernel) rfl, by decide +kernel, by decide +kernel, by decide +kernel⟩
theorem li_Re_isEquation : Cond.instanceMethod mm_Re_isEquation.1 ∈ x_ws ∧ Cond.selects mm_Re_isEquation.1.cls mm_Re_isEquation.1 mm_Re_isEquation.1 ∈ x_ws := ⟨x_at 761 (by decide +kernel) rfl, x_sel (q := (mm_Re_isEquation.1, 15)) 57 (by decide +kernel)⟩
theorem lc_Re_left : x_cd mm_Re_left 1 := ⟨x_at 766 (by decide +kernel) rfl, x_at 6 (by decide +kernel) rfl, by decide +kernel, by decide +kernel, by decide +kernel⟩
theorem li_Re_left : Cond.instanceMethod mm_Re_left.1 ∈ x_ws ∧ Cond.selects mm_Re_left.1.cls mm_Re_left.1 mm_Re_left.1 ∈ x_ws := ⟨x_at 765 (by decide +kernel) rfl, x_sel (q := (mm_Re_left.1, 15)) 58 (by decide +kernel)⟩
theorem lc_Re_begin : x_cd mm_Re_begin 0 := ⟨x_at 615 (by decide +kernel) rfl, x_at 6 (by decide +kernel) rfl, by decide +kernel, by decide +kernel, by decide +kernel⟩
theorem li_Re_begin : Cond.instanceMethod mm_Re_begin.1 ∈ x_ws ∧ Cond.selects mm_Re_begin.1.cls mm_Re_begin.1 mm_Re_begin.1 ∈ x_ws := ⟨x_at 614 (by decide +kernel) rfl, x_sel (q := (mm_Re_begin.1, 15)) 27 (by decide +kernel)⟩
theorem lc_Re_part : x_cd mm_Re_part 2 := ⟨x_at 623 (by decide +kernel) rfl, x_at 6 (by decide +kernel) rfl, by decide +kernel, by decide +kernel, by decide +kernel⟩
theorem li_Re_part : Cond.instanceMethod mm_Re_part.1 ∈ x_ws ∧ Cond.selects mm_Re_part.1.cls mm_Re_part.1 mm_Re_part.1 ∈ x_ws := ⟨x_at 622 (by decide +kernel) rfl, x_sel (q := (mm_Re_part.1, 15)) 29 (by decide +kernel)⟩
theorem lc_Re_compare : x_cd mm_Re_compare 4 := ⟨x_at 730 (by decide +kernel) rfl, x_at 6 (by decide +kernel) rfl, by decide +kernel, by decide +kernel, by decide +kernel⟩
theorem li_Re_compare : Cond.instanceMethod mm_Re_compare.1 ∈ x_ws ∧ Cond.selects mm_Re_compare.1.cls mm_Re_compare.1 mm_Re_compare.1 ∈ x_ws := ⟨x_at 729 (by decide +kernel) rfl, x_sel (q := (mm_Re_compare.1, 15)) 50 (by decide +kernel)⟩
theorem lc_Re_hypothesis : x_cd mm_Re_hypothesis 1 := ⟨x_at 726 (by decide +kernel) rfl, x_at 6 (by decide +kernel) rfl, by decide +kernel, by decide +kernel, by decide +kernel⟩
theorem li_Re_hypothesis : Cond.instanceMethod mm_Re_hypothesis.1 ∈ x_ws ∧ Cond.selects mm_Re_hypothesis.1.cls mm_Re_hypothesis.1 mm_Re_hypothesis.1 ∈ x_ws := ⟨x_at 725 (by decide +kernel) rfl, x_sel (q := (mm_Re_hypothesis.1, 15)) 49 (by decide +kernel)⟩
theorem lc_Re_movePart : x_cd mm_Re_movePart 4 := ⟨x_at 638 (by decide +kernel) rfl, x_at 6 (by decide +kernel) rfl, by decide +kernel, by decide +kernel, by decide +kernel⟩
theorem li_Re_movePart : Cond.instanceMethod mm_Re_movePart.1 ∈ x_ws ∧ Cond.selects mm_Re_movePart.1.cls mm_Re_movePart.1 mm_Re_movePart.1 ∈ x_ws := ⟨x_at 637 (by decide +kernel) rfl, x_sel (q := (mm_Re_movePart.1, 15)) 32 (by decide +kernel)⟩
theorem lc_Re_copyObject : x_cd mm_Re_copyObject 2 := ⟨x_at 634 (by decide +kernel) rfl, x_at 6 (by decide +kernel) rfl, by decide +kernel, by decide +kernel, by decide +kernel⟩
theorem li_Re_copyObject : Cond.instanceMethod mm_Re_copyObject.1 ∈ x_ws ∧ Cond.selects mm_Re_copyObject.1.cls mm_Re_copyObject.1 mm_Re_copyObject.1 ∈ x_ws := ⟨x_at 633 (by decide +kernel) rfl, x_sel (q := (mm_Re_copyObject.1, 15)) 31 (by decide +kernel)⟩
theorem lc_Re_bring : x_cd mm_Re_bring 3 := ⟨x_at 758 (by decide +kernel) rfl, x_at 6 (by decide +kernel) rfl, by decide +kernel, by decide +kernel, by decide +kernel⟩
theorem li_Re_bring : Cond.instanceMethod mm_Re_bring.1 ∈ x_ws ∧ Cond.selects mm_Re_bring.1.cls mm_Re_bring.1 mm_Re_bring.1 ∈ x_ws := ⟨x_at 757 (by decide +kernel) rfl, x_sel (q := (mm_Re_bring.1, 15)) 56 (by decide +kernel)⟩
theorem lc_Re_beginEquation : x_cd mm_Re_beginEquation 2 := ⟨x_at 742 (by decide +kernel) rfl, x_at 6 (by decide +kernel) rfl, by decide +kernel, by decide +kernel, by decide +kernel⟩
theorem li_Re_beginEquation : Cond.instanceMethod mm_Re_beginEquation.1 ∈ x_ws ∧ Cond.selects mm_Re_beginEquation.1.cls mm_Re_beginEquation.1 mm_Re_beginEquation.1 ∈ x_ws := ⟨x_at 741 (by decide +kernel) rfl, x_sel (q := (mm_Re_beginEquation.1, 15)) 53 (by decide +kernel)⟩
theorem lc_Re_done : x_cd mm_Re_done 1 := ⟨x_at 630 (by decide +kernel) rfl, x_at 6 (by decide +kernel) rfl, by decide +kernel, by decide +kernel, by decide +kernel⟩
theorem li_Re_done : Cond.instanceMethod mm_Re_done.1 ∈ x_ws ∧ Cond.selects mm_Re_done.1.cls mm_Re_done.1 mm_Re_done.1 ∈ x_ws := ⟨x_at 629 (by decide +kernel) rfl, x_sel (q := (mm_Re_done.1, 15)) 30 (by decide +kernel)⟩
theorem lc_Re_top : x_cd mm_Re_top 1 := ⟨x_at 611 (by decide +kernel) rfl, x_at 6 (by decide +kernel) rfl, by decide +kernel, by decide +kernel, by decide +kernel⟩
theorem li_Re_top : Cond.instanceMethod mm_Re_top.1 ∈ x_ws ∧ Cond.selects mm_Re_top.1.cls mm_Re_top.1 mm_Re_top.1 ∈ x_ws := ⟨x_at 610 (by decide +kernel) rfl, x_sel (q := (mm_Re_top.1, 15)) 26 (by decide +kernel)⟩
theorem lc_Re_variable : x_cd mm_Re_variable 1 := ⟨x_at 694 (by decide +kernel) rfl, x_at 6 (by decide +kernel) rfl, by decide +kernel, by decide +kernel, by decide +kernel⟩
theorem li_Re_variable : Cond.instanceMethod mm_Re_variable.1 ∈ x_ws ∧ Cond.selects mm_Re_variable.1.cls mm_Re_variable.1 mm_Re_variable.1 ∈ x_ws := ⟨x_at 693 (by decide +kernel) rfl, x_sel (q := (mm_Re_variable.1, 15)) 42 (by decide +kernel)⟩
theorem lc_Re_rowOf : x_cd mm_Re_rowOf 1 := ⟨x_at 642 (by decide +kernel) rfl, x_at 6 (by decide +kernel) rfl, by decide +kernel, by decide +kernel, by decide +kernel⟩
theorem li_Re_rowOf : Cond.instanceMethod mm_Re_rowOf.1 ∈ x_ws ∧ Cond.selects mm_Re_rowOf.1.cls mm_Re_rowOf.1 mm_Re_rowOf.1 ∈ x_ws := ⟨x_at 641 (by decide +kernel) rfl, x_sel (q := (mm_Re_rowOf.1, 15)) 33 (by decide +kernel)⟩
theorem lc_Re_rowEnd : x_cd mm_Re_rowEnd 1 := ⟨x_at 646 (by decide +kernel) rfl, x_at 6 (by decide +kernel) rfl, by decide +kernel, by decide +kernel, by decide +kernel⟩
theorem li_Re_rowEnd : Cond.instanceMethod mm_Re_rowEnd.1 ∈ x_ws ∧ Cond.selects mm_Re_rowEnd.1.cls mm_Re_rowEnd.1 mm_Re_rowEnd.1 ∈ x_ws := ⟨x_at 645 (by decide +kernel) rfl, x_sel (q := (mm_Re_rowEnd.1, 15)) 34 (by decide +kernel)⟩
theorem lc_Re_type : x_cd mm_Re_type 1 := ⟨x_at 607 (by decide +kernel) rfl, x_at 6 (by decide +kernel) rfl, by decide +kernel, by decide +kernel, by decide +kernel⟩
theorem li_Re_type : Cond.instanceMethod mm_Re_type.1 ∈ x_ws ∧ Cond.selects mm_Re_type.1.cls mm_Re_type.1 mm_Re_type.1 ∈ x_ws := ⟨x_at 605 (by decide +kernel) rfl, x_at 606 (by decide +kernel) rfl⟩
theorem lc_Re_leaf : x_cd mm_Re_leaf 2 := ⟨x_at 658 (by decide +kernel) rfl, x_at 6 (by decide +kernel) rfl, by decide +kernel, by decide +kernel, by decide +kernel⟩
theorem li_Re_leaf : Cond.instanceMethod mm_Re_leaf.1 ∈ x_ws ∧ Cond.selects mm_Re_leaf.1.cls mm_Re_leaf.1 mm_Re_leaf.1 ∈ x_ws := ⟨x_at 657 (by decide +kernel) rfl, x_sel (q := (mm_Re_leaf.1, 15)) 36 (by decide +kernel)⟩
theorem lc_Re_var : x_cd mm_Re_var 1 := ⟨x_at 654 (by decide +kernel) rfl, x_at 6 (by decide +kernel) rfl, by decide +kernel, by decide +kernel, by decide +kernel⟩
theorem li_Re_var : Cond.instanceMethod mm_Re_var.1 ∈ x_ws ∧ Cond.selects mm_Re_var.1.cls mm_Re_var.1 mm_Re_var.1 ∈ x_ws := ⟨x_at 652 (by decide +kernel) rfl, x_at 653 (by decide +kernel) rfl⟩
theorem lc_Re_constant : x_cd mm_Re_constant 1 := ⟨x_at 662 (by decide +kernel) rfl, x_at 6 (by decide +kernel) rfl, by decide +kernel, by decide +kernel, by decide +kernel⟩
theorem li_Re_constant : Cond.instanceMethod mm_Re_constant.1 ∈ x_ws ∧ Cond.selects mm_Re_constant.1.cls mm_Re_constant.1 mm_Re_constant.1 ∈ x_ws := ⟨x_at 660 (by decide +kernel) rfl, x_at 661 (by decide +kernel) rfl⟩
theorem lc_Re_fits : x_cd mm_Re_fits 2 := ⟨x_at 670 (by decide +kernel) rfl, x_at 6 (by decide +kernel) rfl, by decide +kernel, by decide +kernel, by decide +kernel⟩
theorem li_Re_fits : Cond.instanceMethod mm_Re_fits.1 ∈ x_ws ∧ Cond.selects mm_Re_fits.1.cls mm_Re_fits.1 mm_Re_fits.1 ∈ x_ws := ⟨x_at 669 (by decide +kernel) rfl, x_sel (q := (mm_Re_fits.1, 15)) 37 (by decide +kernel)⟩
theorem lc_Re_app : x_cd mm_Re_app 0 := ⟨x_at 666 (by decide +kernel) rfl, x_at 6 (by decide +kernel) rfl, by decide +kernel, by decide +kernel, by decide +kernel⟩
theorem li_Re_app : Cond.instanceMethod mm_Re_app.1 ∈ x_ws ∧ Cond.selects mm_Re_app.1.cls mm_Re_app.1 mm_Re_app.1 ∈ x_ws := ⟨x_at 664 (by decide +kernel) rfl, x_at 665 (by decide +kernel) rfl⟩
theorem lc_Re_stands : x_cd mm_Re_stands 3 := ⟨x_at 702 (by decide +kernel) rfl, x_at 6 (by decide +kernel) rfl, by decide +kernel, by decide +kernel, by decide +kernel⟩
theorem li_Re_stands : Cond.instanceMethod mm_Re_stands.1 ∈ x_ws ∧ Cond.selects mm_Re_stands.1.cls mm_Re_stands.1 mm_Re_stands.1 ∈ x_ws := ⟨x_at 701 (by decide +kernel) rfl, x_sel (q := (mm_Re_stands.1, 15)) 44 (by decide +kernel)⟩
theorem lc_Re_emitAbs : x_cd mm_Re_emitAbs 4 := ⟨x_at 698 (by decide +kernel) rfl, x_at 6 (by decide +kernel) rfl, by decide +kernel, by decide +kernel, by decide +kernel⟩
theorem li_Re_emitAbs : Cond.instanceMethod mm_Re_emitAbs.1 ∈ x_ws ∧ Cond.selects mm_Re_emitAbs.1.cls mm_Re_emitAbs.1 mm_Re_emitAbs.1 ∈ x_ws := ⟨x_at 697 (by decide +kernel) rfl, x_sel (q := (mm_Re_emitAbs.1, 15)) 43 (by decide +kernel)⟩
theorem lc_Re_abs : x_cd mm_Re_abs 0 := ⟨x_at 690 (by decide +kernel) rfl, x_at 6 (by decide +kernel) rfl, by decide +kernel, by decide +kernel, by decide +kernel⟩
theorem li_Re_abs : Cond.instanceMethod mm_Re_abs.1 ∈ x_ws ∧ Cond.selects mm_Re_abs.1.cls mm_Re_abs.1 mm_Re_abs.1 ∈ x_ws := ⟨x_at 688 (by decide +kernel) rfl, x_at 689 (by decide +kernel) rfl⟩
theorem lc_Re_isBool : x_cd mm_Re_isBool 2 := ⟨x_at 718 (by decide +kernel) rfl, x_at 6 (by decide +kernel) rfl, by decide +kernel, by decide +kernel, by decide +kernel⟩
theorem li_Re_isBool : Cond.instanceMethod mm_Re_isBool.1 ∈ x_ws ∧ Cond.selects mm_Re_isBool.1.cls mm_Re_isBool.1 mm_Re_isBool.1 ∈ x_ws := ⟨x_at 717 (by decide +kernel) rfl, x_sel (q := (mm_Re_isBool.1, 15)) 47 (by decide +kernel)⟩
theorem lc_Re_theorem : x_cd mm_Re_theorem 1 := ⟨x_at 714 (by decide +kernel) rfl, x_at 6 (by decide +kernel) rfl, by decide +kernel, by decide +kernel, by decide +kernel⟩
theorem li_Re_theorem : Cond.instanceMethod mm_Re_theorem.1 ∈ x_ws ∧ Cond.selects mm_Re_theorem.1.cls mm_Re_theorem.1 mm_Re_theorem.1 ∈ x_ws := ⟨x_at 712 (by decide +kernel) rfl, x_at 713 (by decide +kernel) rfl⟩
theorem lc_Re_claim : x_cd mm_Re_claim 3 := ⟨x_at 722 (by decide +kernel) rfl, x_at 6 (by decide +kernel) rfl, by decide +kernel, by decide +kernel, by decide +kernel⟩
theorem li_Re_claim : Cond.instanceMethod mm_Re_claim.1 ∈ x_ws ∧ Cond.selects mm_Re_claim.1.cls mm_Re_claim.1 mm_Re_claim.1 ∈ x_ws := ⟨x_at 721 (by decide +kernel) rfl, x_sel (q := (mm_Re_claim.1, 15)) 48 (by decide +kernel)⟩
theorem lc_Re_define : x_cd mm_Re_define 2 := ⟨x_at 750 (by decide +kernel) rfl, x_at 6 (by decide +kernel) rfl, by decide +kernel, by decide +kernel, by decide +kernel⟩
theorem li_Re_define : Cond.instanceMethod mm_Re_define.1 ∈ x_ws ∧ Cond.selects mm_Re_define.1.cls mm_Re_define.1 mm_Re_define.1 ∈ x_ws := ⟨x_at 749 (by decide +kernel) rfl, x_sel (q := (mm_Re_define.1, 15)) 55 (by decide +kernel)⟩
theorem lc_Re_reduce : x_cd mm_Re_reduce 2 := ⟨x_at 746 (by decide +kernel) rfl, x_at 6 (by decide +kernel) rfl, by decide +kernel, by decide +kernel, by decide +kernel⟩
theorem li_Re_reduce : Cond.instanceMethod mm_Re_reduce.1 ∈ x_ws ∧ Cond.selects mm_Re_reduce.1.cls mm_Re_reduce.1 mm_Re_reduce.1 ∈ x_ws := ⟨x_at 745 (by decide +kernel) rfl, x_sel (q := (mm_Re_reduce.1, 15)) 54 (by decide +kernel)⟩
theorem lc_Re_closed : x_cd mm_Re_closed 4 := ⟨x_at 734 (by decide +kernel) rfl, x_at 6 (by decide +kernel) rfl, by decide +kernel, by decide +kernel, by decide +kernel⟩
theorem li_Re_closed : Cond.instanceMethod mm_Re_closed.1 ∈ x_ws ∧ Cond.selects mm_Re_closed.1.cls mm_Re_closed.1 mm_Re_closed.1 ∈ x_ws := ⟨x_at 733 (by decide +kernel) rfl, x_sel (q := (mm_Re_closed.1, 15)) 51 (by decide +kernel)⟩
theorem lc_Re_occurs : x_cd mm_Re_occurs 3 := ⟨x_at 738 (by decide +kernel) rfl, x_at 6 (by decide +kernel) rfl, by decide +kernel, by decide +kernel, by decide +kernel⟩
theorem li_Re_occurs : Cond.instanceMethod mm_Re_occurs.1 ∈ x_ws ∧ Cond.selects mm_Re_occurs.1.cls mm_Re_occurs.1 mm_Re_occurs.1 ∈ x_ws := ⟨x_at 737 (by decide +kernel) rfl, x_sel (q := (mm_Re_occurs.1, 15)) 52 (by decide +kernel)⟩
theorem lc_Re_join : x_cd mm_Re_join 1 := ⟨x_at 754 (by decide +kernel) rfl, x_at 6 (by decide +kernel) rfl, by decide +kernel, by decide +kernel, by decide +kernel⟩
theorem li_Re_join : Cond.instanceMethod mm_Re_join.1 ∈ x_ws ∧ Cond.selects mm_Re_join.1.cls mm_Re_join.1 mm_Re_join.1 ∈ x_ws := ⟨x_at 752 (by decide +kernel) rfl, x_at 753 (by decide +kernel) rfl⟩
theorem lc_Re_applied : x_cd mm_Re_applied 5 := ⟨x_at 770 (by decide +kernel) rfl, x_at 6 (by decide +kernel) rfl, by decide +kernel, by decide +kernel, by decide +kernel⟩
theorem li_Re_applied : Cond.instanceMethod mm_Re_applied.1 ∈ x_ws ∧ Cond.selects mm_Re_applied.1.cls mm_Re_applied.1 mm_Re_applied.1 ∈ x_ws := ⟨x_at 769 (by decide +kernel) rfl, x_sel (q := (mm_Re_applied.1, 15)) 59 (by decide +kernel)⟩
theorem lc_Re_free : x_cd mm_Re_free 4 := ⟨x_at 778 (by decide +kernel) rfl, x_at 6 (by decide +kernel) rfl, by decide +kernel, by decide +kernel, by decide +kernel⟩
theorem li_Re_free : Cond.instanceMethod mm_Re_free.1 ∈ x_ws ∧ Cond.selects mm_Re_free.1.cls mm_Re_free.1 mm_Re_free.1 ∈ x_ws := ⟨x_at 777 (by decide +kernel) rfl, x_sel (q := (mm_Re_free.1, 15)) 60 (by decide +kernel)⟩
theorem lc_Re_absThm : x_cd mm_Re_absThm 0 := ⟨x_at 774 (by decide +kernel) rfl, x_at 6 (by decide +kernel) rfl, by decide +kernel, by decide +kernel, by decide +kernel⟩
theorem li_Re_absThm : Cond.instanceMethod mm_Re_absThm.1 ∈ x_ws ∧ Cond.selects mm_Re_absThm.1.cls mm_Re_absThm.1 mm_Re_absThm.1 ∈ x_ws := ⟨x_at 772 (by decide +kernel) rfl, x_at 773 (by decide +kernel) rfl⟩
theorem lc_Re_replaced : x_cd mm_Re_replaced 6 := ⟨x_at 786 (by decide +kernel) rfl, x_at 6 (by decide +kernel) rfl, by decide +kernel, by decide +kernel, by decide +kernel⟩
theorem li_Re_replaced : Cond.instanceMethod mm_Re_replaced.1 ∈ x_ws ∧ Cond.selects mm_Re_replaced.1.cls mm_Re_replaced.1 mm_Re_replaced.1 ∈ x_ws := ⟨x_at 785 (by decide +kernel) rfl, x_sel (q := (mm_Re_replaced.1, 15)) 61 (by decide +kernel)⟩
theorem lc_Re_inst : x_cd mm_Re_inst 0 := ⟨x_at 782 (by decide +kernel) rfl, x_at 6 (by decide +kernel) rfl, by decide +kernel, by decide +kernel, by decide +kernel⟩
theorem li_Re_inst : Cond.instanceMethod mm_Re_inst.1 ∈ x_ws ∧ Cond.selects mm_Re_inst.1.cls mm_Re_inst.1 mm_Re_inst.1 ∈ x_ws := ⟨x_at 780 (by decide +kernel) rfl, x_at 781 (by decide +kernel) rfl⟩
theorem lc_Re_retyped : x_cd mm_Re_retyped 5 := ⟨x_at 794 (by decide +kernel) rfl, x_at 6 (by decide +kernel) rfl, by decide +kernel, by decide +kernel, by decide +kernel⟩
theorem li_Re_retyped : Cond.instanceMethod mm_Re_retyped.1 ∈ x_ws ∧ Cond.selects mm_Re_retyped.1.cls mm_Re_retyped.1 mm_Re_retyped.1 ∈ x_ws := ⟨x_at 793 (by decide +kernel) rfl, x_sel (q := (mm_Re_retyped.1, 15)) 62 (by decide +kernel)⟩
theorem lc_Re_instType : x_cd mm_Re_instType 1 := ⟨x_at 790 (by decide +kernel) rfl, x_at 6 (by decide +kernel) rfl, by decide +kernel, by decide +kernel, by decide +kernel⟩
theorem li_Re_instType : Cond.instanceMethod mm_Re_instType.1 ∈ x_ws ∧ Cond.selects mm_Re_instType.1.cls mm_Re_instType.1 mm_Re_instType.1 ∈ x_ws := ⟨x_at 788 (by decide +kernel) rfl, x_at 789 (by decide +kernel) rfl⟩
theorem lc_Re_keep : x_cd mm_Re_keep 1 := ⟨x_at 798 (by decide +kernel) rfl, x_at 6 (by decide +kernel) rfl, by decide +kernel, by decide +kernel, by decide +kernel⟩
theorem li_Re_keep : Cond.instanceMethod mm_Re_keep.1 ∈ x_ws ∧ Cond.selects mm_Re_keep.1.cls mm_Re_keep.1 mm_Re_keep.1 ∈ x_ws := ⟨x_at 796 (by decide +kernel) rfl, x_at 797 (by decide +kernel) rfl⟩
theorem lc_Re_fetch : x_cd mm_Re_fetch 1 := ⟨x_at 802 (by decide +kernel) rfl, x_at 6 (by decide +kernel) rfl, by decide +kernel, by decide +kernel, by decide +kernel⟩
theorem li_Re_fetch : Cond.instanceMethod mm_Re_fetch.1 ∈ x_ws ∧ Cond.selects mm_Re_fetch.1.cls mm_Re_fetch.1 mm_Re_fetch.1 ∈ x_ws := ⟨x_at 800 (by decide +kernel) rfl, x_at 801 (by decide +kernel) rfl⟩
theorem lc_Re_pop : x_cd mm_Re_pop 0 := ⟨x_at 806 (by decide +kernel) rfl, x_at 6 (by decide +kernel) rfl, by decide +kernel, by decide +kernel, by decide +kernel⟩
theorem li_Re_pop : Cond.instanceMethod mm_Re_pop.1 ∈ x_ws ∧ Cond.selects mm_Re_pop.1.cls mm_Re_pop.1 mm_Re_pop.1 ∈ x_ws := ⟨x_at 804 (by decide +kernel) rfl, x_at 805 (by decide +kernel) rfl⟩
theorem lc_Re_export : x_cd mm_Re_export 0 := ⟨x_at 810 (by decide +kernel) rfl, x_at 6 (by decide +kernel) rfl, by decide +kernel, by decide +kernel, by decide +kernel⟩
theorem li_Re_export : Cond.instanceMethod mm_Re_export.1 ∈ x_ws ∧ Cond.selects mm_Re_export.1.cls mm_Re_export.1 mm_Re_export.1 ∈ x_ws := ⟨x_at 808 (by decide +kernel) rfl, x_at 809 (by decide +kernel) rfl⟩
theorem lc_Re_count : x_cd mm_Re_count 1 := ⟨x_at 814 (by decide +kernel) rfl, x_at 6 (by decide +kernel) rfl, by decide +kernel, by decide +kernel, by decide +kernel⟩
theorem li_Re_count : Cond.instanceMethod mm_Re_count.1 ∈ x_ws ∧ Cond.selects mm_Re_count.1.cls mm_Re_count.1 mm_Re_count.1 ∈ x_ws := ⟨x_at 812 (by decide +kernel) rfl, x_at 813 (by decide +kernel) rfl⟩
theorem lc_Re_at : x_cd mm_Re_at 1 := ⟨x_at 822 (by decide +kernel) rfl, x_at 6 (by decide +kernel) rfl, by decide +kernel, by decide +kernel, by decide +kernel⟩
theorem li_Re_at : Cond.instanceMethod mm_Re_at.1 ∈ x_ws ∧ Cond.selects mm_Re_at.1.cls mm_Re_at.1 mm_Re_at.1 ∈ x_ws := ⟨x_at 821 (by decide +kernel) rfl, x_sel (q := (mm_Re_at.1, 15)) 63 (by decide +kernel)⟩
theorem lc_Re_kind : x_cd mm_Re_kind 1 := ⟨x_at 818 (by decide +kernel) rfl, x_at 6 (by decide +kernel) rfl, by decide +kernel, by decide +kernel, by decide +kernel⟩
theorem li_Re_kind : Cond.instanceMethod mm_Re_kind.1 ∈ x_ws ∧ Cond.selects mm_Re_kind.1.cls mm_Re_kind.1 mm_Re_kind.1 ∈ x_ws := ⟨x_at 816 (by decide +kernel) rfl, x_at 817 (by decide +kernel) rfl⟩
theorem lc_Re_hypotheses : x_cd mm_Re_hypotheses 1 := ⟨x_at 826 (by decide +kernel) rfl, x_at 6 (by decide +kernel) rfl, by decide +kernel, by decide +kernel, by decide +kernel⟩
theorem li_Re_hypotheses : Cond.instanceMethod mm_Re_hypotheses.1 ∈ x_ws ∧ Cond.selects mm_Re_hypotheses.1.cls mm_Re_hypotheses.1 mm_Re_hypotheses.1 ∈ x_ws := ⟨x_at 824 (by decide +kernel) rfl, x_at 825 (by decide +kernel) rfl⟩
theorem lc_Re_length : x_cd mm_Re_length 2 := ⟨x_at 830 (by decide +kernel) rfl, x_at 6 (by decide +kernel) rfl, by decide +kernel, by decide +kernel, by decide +kernel⟩
theorem li_Re_length : Cond.instanceMethod mm_Re_length.1 ∈ x_ws ∧ Cond.selects mm_Re_length.1.cls mm_Re_length.1 mm_Re_length.1 ∈ x_ws := ⟨x_at 828 (by decide +kernel) rfl, x_at 829 (by decide +kernel) rfl⟩
theorem lc_Re_symbol : x_cd mm_Re_symbol 3 := ⟨x_at 834 (by decide +kernel) rfl, x_at 6 (by decide +kernel) rfl, by decide +kernel, by decide +kernel, by decide +kernel⟩
theorem li_Re_symbol : Cond.instanceMethod mm_Re_symbol.1 ∈ x_ws ∧ Cond.selects mm_Re_symbol.1.cls mm_Re_symbol.1 mm_Re_symbol.1 ∈ x_ws := ⟨x_at 832 (by decide +kernel) rfl, x_at 833 (by decide +kernel) rfl⟩
theorem lc_De_init : x_cd mm_De_init 0 := ⟨x_at 31 (by decide +kernel) rfl, x_at 3 (by decide +kernel) rfl, by decide +kernel, by decide +kernel, by decide +kernel⟩
theorem li_De_init : Cond.instanceMethod mm_De_init.1 ∈ x_ws ∧ mm_De_init.1.name = "<init>" ∧ mm_De_init.2.2.2.1 = none := ⟨x_at 30 (by decide +kernel) rfl, rfl, rfl⟩
theorem lc_De_begin : x_cd mm_De_begin 0 := ⟨x_at 331 (by decide +kernel) rfl, x_at 3 (by decide +kernel) rfl, by decide +kernel, by decide +kernel, by decide +kernel⟩
theorem li_De_begin : Cond.instanceMethod mm_De_begin.1 ∈ x_ws ∧ Cond.selects mm_De_begin.1.cls mm_De_begin.1 mm_De_begin.1 ∈ x_ws := ⟨x_at 329 (by decide +kernel) rfl, x_at 330 (by decide +kernel) rfl⟩
theorem lc_De_pass : x_cd mm_De_pass 1 := ⟨x_at 335 (by decide +kernel) rfl, x_at 3 (by decide +kernel) rfl, by decide +kernel, by decide +kernel, by decide +kernel⟩
theorem li_De_pass : Cond.instanceMethod mm_De_pass.1 ∈ x_ws ∧ Cond.selects mm_De_pass.1.cls mm_De_pass.1 mm_De_pass.1 ∈ x_ws := ⟨x_at 333 (by decide +kernel) rfl, x_at 334 (by decide +kernel) rfl⟩
theorem lc_Eq_init : x_cd mm_Eq_init 1 := ⟨x_at 427 (by decide +kernel) rfl, x_at 12 (by decide +kernel) rfl, by decide +kernel, by decide +kernel, by decide +kernel⟩
theorem li_Eq_init : Cond.instanceMethod mm_Eq_init.1 ∈ x_ws ∧ mm_Eq_init.1.name = "<init>" ∧ mm_Eq_init.2.2.2.1 = none := ⟨x_at 426 (by decide +kernel) rfl, rfl, rfl⟩
theorem lc_Hy_init : x_cd mm_Hy_init 0 := ⟨x_at 82 (by decide +kernel) rfl, x_at 5 (by decide +kernel) rfl, by decide +kernel, by decide +kernel, by decide +kernel⟩
theorem li_Hy_init : Cond.instanceMethod mm_Hy_init.1 ∈ x_ws ∧ mm_Hy_init.1.name = "<init>" ∧ mm_Hy_init.2.2.2.1 = none := ⟨x_at 81 (by decide +kernel) rfl, rfl, rfl⟩
theorem lc_Hy_get : x_cd mm_Hy_get 1 := ⟨x_at 547 (by decide +kernel) rfl, x_at 5 (by decide +kernel) rfl, by decide +kernel, by decide +kernel, by decide +kernel⟩
theorem li_Hy_get : Cond.instanceMethod mm_Hy_get.1 ∈ x_ws ∧ Cond.selects mm_Hy_get.1.cls mm_Hy_get.1 mm_Hy_get.1 ∈ x_ws := ⟨x_at 545 (by decide +kernel) rfl, x_at 546 (by decide +kernel) rfl⟩
theorem lc_Hy_add : x_cd mm_Hy_add 1 := ⟨x_at 359 (by decide +kernel) rfl, x_at 5 (by decide +kernel) rfl, by decide +kernel, by decide +kernel, by decide +kernel⟩
theorem li_Hy_add : Cond.instanceMethod mm_Hy_add.1 ∈ x_ws ∧ Cond.selects mm_Hy_add.1.cls mm_Hy_add.1 mm_Hy_add.1 ∈ x_ws := ⟨x_at 357 (by decide +kernel) rfl, x_at 358 (by decide +kernel) rfl⟩
theorem lc_Hy_addAll : x_cd mm_Hy_addAll 1 := ⟨x_at 452 (by decide +kernel) rfl, x_at 5 (by decide +kernel) rfl, by decide +kernel, by decide +kernel, by decide +kernel⟩
theorem li_Hy_addAll : Cond.instanceMethod mm_Hy_addAll.1 ∈ x_ws ∧ Cond.selects mm_Hy_addAll.1.cls mm_Hy_addAll.1 mm_Hy_addAll.1 ∈ x_ws := ⟨x_at 450 (by decide +kernel) rfl, x_at 451 (by decide +kernel) rfl⟩
theorem lc_Hy_addAllBut : x_cd mm_Hy_addAllBut 2 := ⟨x_at 466 (by decide +kernel) rfl, x_at 5 (by decide +kernel) rfl, by decide +kernel, by decide +kernel, by decide +kernel⟩
theorem li_Hy_addAllBut : Cond.instanceMethod mm_Hy_addAllBut.1 ∈ x_ws ∧ Cond.selects mm_Hy_addAllBut.1.cls mm_Hy_addAllBut.1 mm_Hy_addAllBut.1 ∈ x_ws := ⟨x_at 464 (by decide +kernel) rfl, x_at 465 (by decide +kernel) rfl⟩
theorem lc_Hy_haveFree : x_cd mm_Hy_haveFree 1 := ⟨x_at 474 (by decide +kernel) rfl, x_at 5 (by decide +kernel) rfl, by decide +kernel, by decide +kernel, by decide +kernel⟩
theorem li_Hy_haveFree : Cond.instanceMethod mm_Hy_haveFree.1 ∈ x_ws ∧ Cond.selects mm_Hy_haveFree.1.cls mm_Hy_haveFree.1 mm_Hy_haveFree.1 ∈ x_ws := ⟨x_at 472 (by decide +kernel) rfl, x_at 473 (by decide +kernel) rfl⟩
theorem lc_Hy_areSmallEnough : x_cd mm_Hy_areSmallEnough 0 := ⟨x_at 207 (by decide +kernel) rfl, x_at 5 (by decide +kernel) rfl, by decide +kernel, by decide +kernel, by decide +kernel⟩
theorem li_Hy_areSmallEnough : Cond.instanceMethod mm_Hy_areSmallEnough.1 ∈ x_ws ∧ Cond.selects mm_Hy_areSmallEnough.1.cls mm_Hy_areSmallEnough.1 mm_Hy_areSmallEnough.1 ∈ x_ws := ⟨x_at 205 (by decide +kernel) rfl, x_at 206 (by decide +kernel) rfl⟩
theorem lc_It_init : x_cd mm_It_init 3 := ⟨x_at 181 (by decide +kernel) rfl, x_at 11 (by decide +kernel) rfl, by decide +kernel, by decide +kernel, by decide +kernel⟩
theorem li_It_init : Cond.instanceMethod mm_It_init.1 ∈ x_ws ∧ mm_It_init.1.name = "<init>" ∧ mm_It_init.2.2.2.1 = none := ⟨x_at 180 (by decide +kernel) rfl, rfl, rfl⟩
theorem lc_It_isSmallEnough : x_cd mm_It_isSmallEnough 0 := ⟨x_at 203 (by decide +kernel) rfl, x_at 11 (by decide +kernel) rfl, by decide +kernel, by decide +kernel, by decide +kernel⟩
theorem li_It_isSmallEnough : Cond.instanceMethod mm_It_isSmallEnough.1 ∈ x_ws ∧ Cond.selects mm_It_isSmallEnough.1.cls mm_It_isSmallEnough.1 mm_It_isSmallEnough.1 ∈ x_ws := ⟨x_at 201 (by decide +kernel) rfl, x_at 202 (by decide +kernel) rfl⟩
theorem lc_Ro_init : x_cd mm_Ro_init 3 := ⟨x_at 157 (by decide +kernel) rfl, x_at 7 (by decide +kernel) rfl, by decide +kernel, by decide +kernel, by decide +kernel⟩
theorem li_Ro_init : Cond.instanceMethod mm_Ro_init.1 ∈ x_ws ∧ mm_Ro_init.1.name = "<init>" ∧ mm_Ro_init.2.2.2.1 = none := ⟨x_at 156 (by decide +kernel) rfl, rfl, rfl⟩
theorem lc_Ro_at : x_cd mm_Ro_at 1 := ⟨x_at 246 (by decide +kernel) rfl, x_at 7 (by decide +kernel) rfl, by decide +kernel, by decide +kernel, by decide +kernel⟩
theorem li_Ro_at : Cond.instanceMethod mm_Ro_at.1 ∈ x_ws ∧ Cond.selects mm_Ro_at.1.cls mm_Ro_at.1 mm_Ro_at.1 ∈ x_ws := ⟨x_at 244 (by decide +kernel) rfl, x_at 245 (by decide +kernel) rfl⟩
theorem lc_Ro_part : x_cd mm_Ro_part 2 := ⟨x_at 378 (by decide +kernel) rfl, x_at 7 (by decide +kernel) rfl, by decide +kernel, by decide +kernel, by decide +kernel⟩
theorem li_Ro_part : Cond.instanceMethod mm_Ro_part.1 ∈ x_ws ∧ Cond.selects mm_Ro_part.1.cls mm_Ro_part.1 mm_Ro_part.1 ∈ x_ws := ⟨x_at 376 (by decide +kernel) rfl, x_at 377 (by decide +kernel) rfl⟩
theorem lc_Ro_typeEnd : x_cd mm_Ro_typeEnd 1 := ⟨x_at 279 (by decide +kernel) rfl, x_at 7 (by decide +kernel) rfl, by decide +kernel, by decide +kernel, by decide +kernel⟩
theorem li_Ro_typeEnd : Cond.instanceMethod mm_Ro_typeEnd.1 ∈ x_ws ∧ Cond.selects mm_Ro_typeEnd.1.cls mm_Ro_typeEnd.1 mm_Ro_typeEnd.1 ∈ x_ws := ⟨x_at 277 (by decide +kernel) rfl, x_at 278 (by decide +kernel) rfl⟩
theorem lc_Ro_termEnd : x_cd mm_Ro_termEnd 1 := ⟨x_at 373 (by decide +kernel) rfl, x_at 7 (by decide +kernel) rfl, by decide +kernel, by decide +kernel, by decide +kernel⟩
theorem li_Ro_termEnd : Cond.instanceMethod mm_Ro_termEnd.1 ∈ x_ws ∧ Cond.selects mm_Ro_termEnd.1.cls mm_Ro_termEnd.1 mm_Ro_termEnd.1 ∈ x_ws := ⟨x_at 371 (by decide +kernel) rfl, x_at 372 (by decide +kernel) rfl⟩
theorem lc_Ro_typeAt : x_cd mm_Ro_typeAt 1 := ⟨x_at 274 (by decide +kernel) rfl, x_at 7 (by decide +kernel) rfl, by decide +kernel, by decide +kernel, by decide +kernel⟩
theorem li_Ro_typeAt : Cond.instanceMethod mm_Ro_typeAt.1 ∈ x_ws ∧ Cond.selects mm_Ro_typeAt.1.cls mm_Ro_typeAt.1 mm_Ro_typeAt.1 ∈ x_ws := ⟨x_at 272 (by decide +kernel) rfl, x_at 273 (by decide +kernel) rfl⟩
theorem lc_Ro_functionArgument : x_cd mm_Ro_functionArgument 0 := ⟨x_at 302 (by decide +kernel) rfl, x_at 7 (by decide +kernel) rfl, by decide +kernel, by decide +kernel, by decide +kernel⟩
theorem li_Ro_functionArgument : Cond.instanceMethod mm_Ro_functionArgument.1 ∈ x_ws ∧ Cond.selects mm_Ro_functionArgument.1.cls mm_Ro_functionArgument.1 mm_Ro_functionArgument.1 ∈ x_ws := ⟨x_at 300 (by decide +kernel) rfl, x_at 301 (by decide +kernel) rfl⟩
theorem lc_Ro_functionResult : x_cd mm_Ro_functionResult 0 := ⟨x_at 293 (by decide +kernel) rfl, x_at 7 (by decide +kernel) rfl, by decide +kernel, by decide +kernel, by decide +kernel⟩
theorem li_Ro_functionResult : Cond.instanceMethod mm_Ro_functionResult.1 ∈ x_ws ∧ Cond.selects mm_Ro_functionResult.1.cls mm_Ro_functionResult.1 mm_Ro_functionResult.1 ∈ x_ws := ⟨x_at 291 (by decide +kernel) rfl, x_at 292 (by decide +kernel) rfl⟩
theorem lc_Ro_same : x_cd mm_Ro_same 1 := ⟨x_at 307 (by decide +kernel) rfl, x_at 7 (by decide +kernel) rfl, by decide +kernel, by decide +kernel, by decide +kernel⟩
theorem li_Ro_same : Cond.instanceMethod mm_Ro_same.1 ∈ x_ws ∧ Cond.selects mm_Ro_same.1.cls mm_Ro_same.1 mm_Ro_same.1 ∈ x_ws := ⟨x_at 305 (by decide +kernel) rfl, x_at 306 (by decide +kernel) rfl⟩
theorem lc_Ro_holdsAt : x_cd mm_Ro_holdsAt 2 := ⟨x_at 311 (by decide +kernel) rfl, x_at 7 (by decide +kernel) rfl, by decide +kernel, by decide +kernel, by decide +kernel⟩
theorem li_Ro_holdsAt : Cond.instanceMethod mm_Ro_holdsAt.1 ∈ x_ws ∧ Cond.selects mm_Ro_holdsAt.1.cls mm_Ro_holdsAt.1 mm_Ro_holdsAt.1 ∈ x_ws := ⟨x_at 309 (by decide +kernel) rfl, x_at 310 (by decide +kernel) rfl⟩
theorem lc_Ro_comesBefore : x_cd mm_Ro_comesBefore 1 := ⟨x_at 363 (by decide +kernel) rfl, x_at 7 (by decide +kernel) rfl, by decide +kernel, by decide +kernel, by decide +kernel⟩
theorem li_Ro_comesBefore : Cond.instanceMethod mm_Ro_comesBefore.1 ∈ x_ws ∧ Cond.selects mm_Ro_comesBefore.1.cls mm_Ro_comesBefore.1 mm_Ro_comesBefore.1 ∈ x_ws := ⟨x_at 361 (by decide +kernel) rfl, x_at 362 (by decide +kernel) rfl⟩
theorem lc_Ro_hasFree : x_cd mm_Ro_hasFree 1 := ⟨x_at 478 (by decide +kernel) rfl, x_at 7 (by decide +kernel) rfl, by decide +kernel, by decide +kernel, by decide +kernel⟩
theorem li_Ro_hasFree : Cond.instanceMethod mm_Ro_hasFree.1 ∈ x_ws ∧ Cond.selects mm_Ro_hasFree.1.cls mm_Ro_hasFree.1 mm_Ro_hasFree.1 ∈ x_ws := ⟨x_at 476 (by decide +kernel) rfl, x_at 477 (by decide +kernel) rfl⟩
theorem lc_Ro_hasFreeVariable : x_cd mm_Ro_hasFreeVariable 0 := ⟨x_at 398 (by decide +kernel) rfl, x_at 7 (by decide +kernel) rfl, by decide +kernel, by decide +kernel, by decide +kernel⟩
theorem li_Ro_hasFreeVariable : Cond.instanceMethod mm_Ro_hasFreeVariable.1 ∈ x_ws ∧ Cond.selects mm_Ro_hasFreeVariable.1.cls mm_Ro_hasFreeVariable.1 mm_Ro_hasFreeVariable.1 ∈ x_ws := ⟨x_at 396 (by decide +kernel) rfl, x_at 397 (by decide +kernel) rfl⟩
theorem lc_Ro_has : x_cd mm_Ro_has 1 := ⟨x_at 402 (by decide +kernel) rfl, x_at 7 (by decide +kernel) rfl, by decide +kernel, by decide +kernel, by decide +kernel⟩
theorem li_Ro_has : Cond.instanceMethod mm_Ro_has.1 ∈ x_ws ∧ Cond.selects mm_Ro_has.1.cls mm_Ro_has.1 mm_Ro_has.1 ∈ x_ws := ⟨x_at 400 (by decide +kernel) rfl, x_at 401 (by decide +kernel) rfl⟩
theorem lc_Ro_typeVariablesStandIn : x_cd mm_Ro_typeVariablesStandIn 1 := ⟨x_at 406 (by decide +kernel) rfl, x_at 7 (by decide +kernel) rfl, by decide +kernel, by decide +kernel, by decide +kernel⟩
theorem li_Ro_typeVariablesStandIn : Cond.instanceMethod mm_Ro_typeVariablesStandIn.1 ∈ x_ws ∧ Cond.selects mm_Ro_typeVariablesStandIn.1.cls mm_Ro_typeVariablesStandIn.1 mm_Ro_typeVariablesStandIn.1 ∈ x_ws := ⟨x_at 404 (by decide +kernel) rfl, x_at 405 (by decide +kernel) rfl⟩
theorem lc_Ro_isOfType : x_cd mm_Ro_isOfType 1 := ⟨x_at 410 (by decide +kernel) rfl, x_at 7 (by decide +kernel) rfl, by decide +kernel, by decide +kernel, by decide +kernel⟩
theorem li_Ro_isOfType : Cond.instanceMethod mm_Ro_isOfType.1 ∈ x_ws ∧ Cond.selects mm_Ro_isOfType.1.cls mm_Ro_isOfType.1 mm_Ro_isOfType.1 ∈ x_ws := ⟨x_at 408 (by decide +kernel) rfl, x_at 409 (by decide +kernel) rfl⟩
theorem lc_Ro_termsWithin : x_cd mm_Ro_termsWithin 1 := ⟨x_at 338 (by decide +kernel) rfl, x_at 7 (by decide +kernel) rfl, by decide +kernel, by decide +kernel, by decide +kernel⟩
theorem li_Ro_termsWithin : Cond.static mm_Ro_termsWithin.1 ∈ x_ws := x_at 337 (by decide +kernel) rfl
theorem lc_Sc_init : x_cd mm_Sc_init 0 := ⟨x_at 25 (by decide +kernel) rfl, x_at 2 (by decide +kernel) rfl, by decide +kernel, by decide +kernel, by decide +kernel⟩
theorem li_Sc_init : Cond.instanceMethod mm_Sc_init.1 ∈ x_ws ∧ mm_Sc_init.1.name = "<init>" ∧ mm_Sc_init.2.2.2.1 = none := ⟨x_at 24 (by decide +kernel) rfl, rfl, rfl⟩
theorem lc_Sc_simpleType : x_cd mm_Sc_simpleType 1 := ⟨x_at 129 (by decide +kernel) rfl, x_at 2 (by decide +kernel) rfl, by decide +kernel, by decide +kernel, by decide +kernel⟩
theorem li_Sc_simpleType : Cond.instanceMethod mm_Sc_simpleType.1 ∈ x_ws ∧ Cond.selects mm_Sc_simpleType.1.cls mm_Sc_simpleType.1 mm_Sc_simpleType.1 ∈ x_ws := ⟨x_at 127 (by decide +kernel) rfl, x_at 128 (by decide +kernel) rfl⟩
theorem lc_Sc_functionType : x_cd mm_Sc_functionType 2 := ⟨x_at 238 (by decide +kernel) rfl, x_at 2 (by decide +kernel) rfl, by decide +kernel, by decide +kernel, by decide +kernel⟩
theorem li_Sc_functionType : Cond.instanceMethod mm_Sc_functionType.1 ∈ x_ws ∧ Cond.selects mm_Sc_functionType.1.cls mm_Sc_functionType.1 mm_Sc_functionType.1 ∈ x_ws := ⟨x_at 236 (by decide +kernel) rfl, x_at 237 (by decide +kernel) rfl⟩
theorem lc_Sc_leaf : x_cd mm_Sc_leaf 3 := ⟨x_at 254 (by decide +kernel) rfl, x_at 2 (by decide +kernel) rfl, by decide +kernel, by decide +kernel, by decide +kernel⟩
theorem li_Sc_leaf : Cond.instanceMethod mm_Sc_leaf.1 ∈ x_ws ∧ Cond.selects mm_Sc_leaf.1.cls mm_Sc_leaf.1 mm_Sc_leaf.1 ∈ x_ws := ⟨x_at 252 (by decide +kernel) rfl, x_at 253 (by decide +kernel) rfl⟩
theorem lc_Sc_application : x_cd mm_Sc_application 2 := ⟨x_at 315 (by decide +kernel) rfl, x_at 2 (by decide +kernel) rfl, by decide +kernel, by decide +kernel, by decide +kernel⟩
theorem li_Sc_application : Cond.instanceMethod mm_Sc_application.1 ∈ x_ws ∧ Cond.selects mm_Sc_application.1.cls mm_Sc_application.1 mm_Sc_application.1 ∈ x_ws := ⟨x_at 313 (by decide +kernel) rfl, x_at 314 (by decide +kernel) rfl⟩
theorem lc_Sc_equation : x_cd mm_Sc_equation 3 := ⟨x_at 347 (by decide +kernel) rfl, x_at 2 (by decide +kernel) rfl, by decide +kernel, by decide +kernel, by decide +kernel⟩
theorem li_Sc_equation : Cond.instanceMethod mm_Sc_equation.1 ∈ x_ws ∧ Cond.selects mm_Sc_equation.1.cls mm_Sc_equation.1 mm_Sc_equation.1 ∈ x_ws := ⟨x_at 345 (by decide +kernel) rfl, x_at 346 (by decide +kernel) rfl⟩
theorem lc_Sc_abstraction : x_cd mm_Sc_abstraction 2 := ⟨x_at 327 (by decide +kernel) rfl, x_at 2 (by decide +kernel) rfl, by decide +kernel, by decide +kernel, by decide +kernel⟩
theorem li_Sc_abstraction : Cond.instanceMethod mm_Sc_abstraction.1 ∈ x_ws ∧ Cond.selects mm_Sc_abstraction.1.cls mm_Sc_abstraction.1 mm_Sc_abstraction.1 ∈ x_ws := ⟨x_at 325 (by decide +kernel) rfl, x_at 326 (by decide +kernel) rfl⟩
theorem lc_Sc_replaceVariable : x_cd mm_Sc_replaceVariable 3 := ⟨x_at 486 (by decide +kernel) rfl, x_at 2 (by decide +kernel) rfl, by decide +kernel, by decide +kernel, by decide +kernel⟩
theorem li_Sc_replaceVariable : Cond.instanceMethod mm_Sc_replaceVariable.1 ∈ x_ws ∧ Cond.selects mm_Sc_replaceVariable.1.cls mm_Sc_replaceVariable.1 mm_Sc_replaceVariable.1 ∈ x_ws := ⟨x_at 484 (by decide +kernel) rfl, x_at 485 (by decide +kernel) rfl⟩
theorem lc_Sc_replaceOutermost : x_cd mm_Sc_replaceOutermost 2 := ⟨x_at 382 (by decide +kernel) rfl, x_at 2 (by decide +kernel) rfl, by decide +kernel, by decide +kernel, by decide +kernel⟩
theorem li_Sc_replaceOutermost : Cond.instanceMethod mm_Sc_replaceOutermost.1 ∈ x_ws ∧ Cond.selects mm_Sc_replaceOutermost.1.cls mm_Sc_replaceOutermost.1 mm_Sc_replaceOutermost.1 ∈ x_ws := ⟨x_at 380 (by decide +kernel) rfl, x_at 381 (by decide +kernel) rfl⟩
theorem lc_Sc_replaceTypeVariable : x_cd mm_Sc_replaceTypeVariable 3 := ⟨x_at 494 (by decide +kernel) rfl, x_at 2 (by decide +kernel) rfl, by decide +kernel, by decide +kernel, by decide +kernel⟩
theorem li_Sc_replaceTypeVariable : Cond.instanceMethod mm_Sc_replaceTypeVariable.1 ∈ x_ws ∧ Cond.selects mm_Sc_replaceTypeVariable.1.cls mm_Sc_replaceTypeVariable.1 mm_Sc_replaceTypeVariable.1 ∈ x_ws := ⟨x_at 492 (by decide +kernel) rfl, x_at 493 (by decide +kernel) rfl⟩
theorem lc_Sc_typeOf : x_cd mm_Sc_typeOf 1 := ⟨x_at 270 (by decide +kernel) rfl, x_at 2 (by decide +kernel) rfl, by decide +kernel, by decide +kernel, by decide +kernel⟩
theorem li_Sc_typeOf : Cond.instanceMethod mm_Sc_typeOf.1 ∈ x_ws ∧ Cond.selects mm_Sc_typeOf.1.cls mm_Sc_typeOf.1 mm_Sc_typeOf.1 ∈ x_ws := ⟨x_at 268 (by decide +kernel) rfl, x_at 269 (by decide +kernel) rfl⟩
theorem lc_Sc_putLeafType : x_cd mm_Sc_putLeafType 4 := ⟨x_at 285 (by decide +kernel) rfl, x_at 2 (by decide +kernel) rfl, by decide +kernel, by decide +kernel, by decide +kernel⟩
theorem li_Sc_putLeafType : Cond.instanceMethod mm_Sc_putLeafType.1 ∈ x_ws ∧ Cond.selects mm_Sc_putLeafType.1.cls mm_Sc_putLeafType.1 mm_Sc_putLeafType.1 ∈ x_ws := ⟨x_at 284 (by decide +kernel) rfl, x_sel (q := (mm_Sc_putLeafType.1, 4)) 9 (by decide +kernel)⟩
theorem lc_Sc_putEqualType : x_cd mm_Sc_putEqualType 2 := ⟨x_at 289 (by decide +kernel) rfl, x_at 2 (by decide +kernel) rfl, by decide +kernel, by decide +kernel, by decide +kernel⟩
theorem li_Sc_putEqualType : Cond.instanceMethod mm_Sc_putEqualType.1 ∈ x_ws ∧ Cond.selects mm_Sc_putEqualType.1.cls mm_Sc_putEqualType.1 mm_Sc_putEqualType.1 ∈ x_ws := ⟨x_at 288 (by decide +kernel) rfl, x_sel (q := (mm_Sc_putEqualType.1, 4)) 10 (by decide +kernel)⟩
theorem lc_Sc_put : x_cd mm_Sc_put 1 := ⟨x_at 133 (by decide +kernel) rfl, x_at 2 (by decide +kernel) rfl, by decide +kernel, by decide +kernel, by decide +kernel⟩
theorem li_Sc_put : Cond.instanceMethod mm_Sc_put.1 ∈ x_ws ∧ Cond.selects mm_Sc_put.1.cls mm_Sc_put.1 mm_Sc_put.1 ∈ x_ws := ⟨x_at 132 (by decide +kernel) rfl, x_sel (q := (mm_Sc_put.1, 4)) 0 (by decide +kernel)⟩
theorem lc_Sc_putRow : x_cd mm_Sc_putRow 1 := ⟨x_at 242 (by decide +kernel) rfl, x_at 2 (by decide +kernel) rfl, by decide +kernel, by decide +kernel, by decide +kernel⟩
theorem li_Sc_putRow : Cond.instanceMethod mm_Sc_putRow.1 ∈ x_ws ∧ Cond.selects mm_Sc_putRow.1.cls mm_Sc_putRow.1 mm_Sc_putRow.1 ∈ x_ws := ⟨x_at 241 (by decide +kernel) rfl, x_sel (q := (mm_Sc_putRow.1, 4)) 7 (by decide +kernel)⟩
theorem lc_Sc_finishedRow : x_cd mm_Sc_finishedRow 0 := ⟨x_at 137 (by decide +kernel) rfl, x_at 2 (by decide +kernel) rfl, by decide +kernel, by decide +kernel, by decide +kernel⟩
theorem li_Sc_finishedRow : Cond.instanceMethod mm_Sc_finishedRow.1 ∈ x_ws ∧ Cond.selects mm_Sc_finishedRow.1.cls mm_Sc_finishedRow.1 mm_Sc_finishedRow.1 ∈ x_ws := ⟨x_at 136 (by decide +kernel) rfl, x_sel (q := (mm_Sc_finishedRow.1, 4)) 1 (by decide +kernel)⟩
theorem lc_Sh_init : x_cd mm_Sh_init 1 := ⟨x_at 64 (by decide +kernel) rfl, x_at 4 (by decide +kernel) rfl, by decide +kernel, by decide +kernel, by decide +kernel⟩
theorem li_Sh_init : Cond.instanceMethod mm_Sh_init.1 ∈ x_ws ∧ mm_Sh_init.1.name = "<init>" ∧ mm_Sh_init.2.2.2.1 = none := ⟨x_at 63 (by decide +kernel) rfl, rfl, rfl⟩
theorem lc_Sh_isFull : x_cd mm_Sh_isFull 0 := ⟨x_at 390 (by decide +kernel) rfl, x_at 4 (by decide +kernel) rfl, by decide +kernel, by decide +kernel, by decide +kernel⟩
theorem li_Sh_isFull : Cond.instanceMethod mm_Sh_isFull.1 ∈ x_ws ∧ Cond.selects mm_Sh_isFull.1.cls mm_Sh_isFull.1 mm_Sh_isFull.1 ∈ x_ws := ⟨x_at 388 (by decide +kernel) rfl, x_at 389 (by decide +kernel) rfl⟩
theorem lc_Sh_get : x_cd mm_Sh_get 1 := ⟨x_at 531 (by decide +kernel) rfl, x_at 4 (by decide +kernel) rfl, by decide +kernel, by decide +kernel, by decide +kernel⟩
theorem li_Sh_get : Cond.instanceMethod mm_Sh_get.1 ∈ x_ws ∧ Cond.selects mm_Sh_get.1.cls mm_Sh_get.1 mm_Sh_get.1 ∈ x_ws := ⟨x_at 529 (by decide +kernel) rfl, x_at 530 (by decide +kernel) rfl⟩
theorem lc_Sh_below : x_cd mm_Sh_below 1 := ⟨x_at 234 (by decide +kernel) rfl, x_at 4 (by decide +kernel) rfl, by decide +kernel, by decide +kernel, by decide +kernel⟩
theorem li_Sh_below : Cond.instanceMethod mm_Sh_below.1 ∈ x_ws ∧ Cond.selects mm_Sh_below.1.cls mm_Sh_below.1 mm_Sh_below.1 ∈ x_ws := ⟨x_at 232 (by decide +kernel) rfl, x_at 233 (by decide +kernel) rfl⟩
theorem lc_Sh_add : x_cd mm_Sh_add 1 := ⟨x_at 222 (by decide +kernel) rfl, x_at 4 (by decide +kernel) rfl, by decide +kernel, by decide +kernel, by decide +kernel⟩
theorem li_Sh_add : Cond.instanceMethod mm_Sh_add.1 ∈ x_ws ∧ Cond.selects mm_Sh_add.1.cls mm_Sh_add.1 mm_Sh_add.1 ∈ x_ws := ⟨x_at 220 (by decide +kernel) rfl, x_at 221 (by decide +kernel) rfl⟩
theorem lc_Sh_drop : x_cd mm_Sh_drop 1 := ⟨x_at 215 (by decide +kernel) rfl, x_at 4 (by decide +kernel) rfl, by decide +kernel, by decide +kernel, by decide +kernel⟩
theorem li_Sh_drop : Cond.instanceMethod mm_Sh_drop.1 ∈ x_ws ∧ Cond.selects mm_Sh_drop.1.cls mm_Sh_drop.1 mm_Sh_drop.1 ∈ x_ws := ⟨x_at 213 (by decide +kernel) rfl, x_at 214 (by decide +kernel) rfl⟩
theorem lc_Ar_copyOf : x_cd mm_Ar_copyOf 2 := ⟨x_at 141 (by decide +kernel) rfl, x_at 8 (by decide +kernel) rfl, by decide +kernel, by decide +kernel, by decide +kernel⟩
theorem li_Ar_copyOf : Cond.static mm_Ar_copyOf.1 ∈ x_ws := x_at 140 (by decide +kernel) rfl
theorem lc_Mt_min : x_cd mm_Mt_min 2 := ⟨x_at 151 (by decide +kernel) rfl, x_at 9 (by decide +kernel) rfl, by decide +kernel, by decide +kernel, by decide +kernel⟩
theorem li_Mt_min : Cond.static mm_Mt_min.1 ∈ x_ws := x_at 150 (by decide +kernel) rfl
theorem lc_Mt_max : x_cd mm_Mt_max 2 := ⟨x_at 218 (by decide +kernel) rfl, x_at 9 (by decide +kernel) rfl, by decide +kernel, by decide +kernel, by decide +kernel⟩
theorem li_Mt_max : Cond.static mm_Mt_max.1 ∈ x_ws := x_at 217 (by decide +kernel) rfl
end
section
/-! links: fields, classes, methods by the places in the pools -/
theorem lf_De_9 : x_fl "SequentMachine$Depth" 9 0 0 := ⟨_, ct_0, 3, rfl, by decide, ck_0, rfl, Or.inl (x_at 33 (by decide +kernel) rfl)⟩
theorem lp_De_9 : x_pl "SequentMachine$Depth" "<init>" 9 0 0 (.array .int) := ⟨_, ct_0, 3, cy_0, rfl, by decide, ck_0, rfl, cp_0, rfl, cq_0, x_at 33 (by decide +kernel) rfl, Or.inr ⟨rfl, rfl, rfl⟩⟩
theorem lf_De_15 : x_fl "SequentMachine$Depth" 15 0 1 := ⟨_, ct_0, 3, rfl, by decide, ck_0, rfl, Or.inl (x_at 34 (by decide +kernel) rfl)⟩
theorem lp_De_15 {nm : String} : x_pl "SequentMachine$Depth" nm 15 0 1 (.int) := ⟨_, ct_0, 3, cy_0, rfl, by decide, ck_0, rfl, cp_0, rfl, cq_0, x_at 34 (by decide +kernel) rfl, Or.inl rfl⟩
theorem lf_Sc_62 : x_fl "SequentMachine$Scribe" 62 0 1 := ⟨_, ct_0, 3, rfl, by decide, ck_0, rfl, Or.inr ⟨"SequentMachine", by decide +kernel⟩⟩
theorem lf_De_19 : x_fl "SequentMachine$Depth" 19 0 2 := ⟨_, ct_0, 3, rfl, by decide, ck_0, rfl, Or.inl (x_at 36 (by decide +kernel) rfl)⟩
theorem lp_De_19 {nm : String} : x_pl "SequentMachine$Depth" nm 19 0 2 (.int) := ⟨_, ct_0, 3, cy_0, rfl, by decide, ck_0, rfl, cp_0, rfl, cq_0, x_at 36 (by decide +kernel) rfl, Or.inl rfl⟩
theorem lf_Sc_9 : x_fl "SequentMachine$Scribe" 9 5 0 := ⟨_, ct_5, 4, rfl, by decide, ck_5, rfl, Or.inl (x_at 47 (by decide +kernel) rfl)⟩
theorem lp_Sc_9 : x_pl "SequentMachine$Scribe" "<init>" 9 5 0 (.array .int) := ⟨_, ct_5, 4, cy_5, rfl, by decide, ck_5, rfl, cp_5, rfl, cq_5, x_at 47 (by decide +kernel) rfl, Or.inr ⟨rfl, rfl, rfl⟩⟩
theorem lf_Sc_80 : x_fl "SequentMachine$Scribe" 80 5 1 := ⟨_, ct_5, 4, rfl, by decide, ck_5, rfl, Or.inl (x_at 48 (by decide +kernel) rfl)⟩
theorem lp_Sc_80 {nm : String} : x_pl "SequentMachine$Scribe" nm 80 5 1 (.int) := ⟨_, ct_5, 4, cy_5, rfl, by decide, ck_5, rfl, cp_5, rfl, cq_5, x_at 48 (by decide +kernel) rfl, Or.inl rfl⟩
theorem lf_Sc_18 : x_fl "SequentMachine$Scribe" 18 5 2 := ⟨_, ct_5, 4, rfl, by decide, ck_5, rfl, Or.inl (x_at 49 (by decide +kernel) rfl)⟩
theorem lp_Sc_18 : x_pl "SequentMachine$Scribe" "<init>" 18 5 2 (.object "SequentMachine$Depth") := ⟨_, ct_5, 4, cy_5, rfl, by decide, ck_5, rfl, cp_5, rfl, cq_5, x_at 49 (by decide +kernel) rfl, Or.inr ⟨rfl, rfl, rfl⟩⟩
theorem lf_Sc_24 : x_fl "SequentMachine$Scribe" 24 5 3 := ⟨_, ct_5, 4, rfl, by decide, ck_5, rfl, Or.inl (x_at 50 (by decide +kernel) rfl)⟩
theorem lp_Sc_24 : x_pl "SequentMachine$Scribe" "<init>" 24 5 3 (.array (.object "SequentMachine$Row")) := ⟨_, ct_5, 4, cy_5, rfl, by decide, ck_5, rfl, cp_5, rfl, cq_5, x_at 50 (by decide +kernel) rfl, Or.inr ⟨rfl, rfl, rfl⟩⟩
theorem lf_Sh_9 : x_fl "SequentMachine$Shelf" 9 6 0 := ⟨_, ct_6, 2, rfl, by decide, ck_6, rfl, Or.inl (x_at 68 (by decide +kernel) rfl)⟩
theorem lp_Sh_9 : x_pl "SequentMachine$Shelf" "<init>" 9 6 0 (.array (.object "SequentMachine$Item")) := ⟨_, ct_6, 2, cy_6, rfl, by decide, ck_6, rfl, cp_6, rfl, cq_6, x_at 68 (by decide +kernel) rfl, Or.inr ⟨rfl, rfl, rfl⟩⟩
theorem lf_Sh_15 : x_fl "SequentMachine$Shelf" 15 6 1 := ⟨_, ct_6, 2, rfl, by decide, ck_6, rfl, Or.inl (x_at 69 (by decide +kernel) rfl)⟩
theorem lp_Sh_15 {nm : String} : x_pl "SequentMachine$Shelf" nm 15 6 1 (.int) := ⟨_, ct_6, 2, cy_6, rfl, by decide, ck_6, rfl, cp_6, rfl, cq_6, x_at 69 (by decide +kernel) rfl, Or.inl rfl⟩
theorem lf_Ma_200 : x_fl "SequentMachine" 200 6 1 := ⟨_, ct_6, 2, rfl, by decide, ck_6, rfl, Or.inr ⟨"SequentMachine", by decide +kernel⟩⟩
theorem lf_Hy_11 : x_fl "SequentMachine$Hypotheses" 11 2 0 := ⟨_, ct_2, 2, rfl, by decide, ck_2, rfl, Or.inl (x_at 85 (by decide +kernel) rfl)⟩
theorem lp_Hy_11 : x_pl "SequentMachine$Hypotheses" "<init>" 11 2 0 (.array (.object "SequentMachine$Row")) := ⟨_, ct_2, 2, cy_2, rfl, by decide, ck_2, rfl, cp_2, rfl, cq_2, x_at 85 (by decide +kernel) rfl, Or.inr ⟨rfl, rfl, rfl⟩⟩
theorem lf_Ma_164 : x_fl "SequentMachine" 164 2 0 := ⟨_, ct_2, 2, rfl, by decide, ck_2, rfl, Or.inr ⟨"SequentMachine", by decide +kernel⟩⟩
theorem lf_Hy_17 : x_fl "SequentMachine$Hypotheses" 17 2 1 := ⟨_, ct_2, 2, rfl, by decide, ck_2, rfl, Or.inl (x_at 87 (by decide +kernel) rfl)⟩
theorem lp_Hy_17 {nm : String} : x_pl "SequentMachine$Hypotheses" nm 17 2 1 (.int) := ⟨_, ct_2, 2, cy_2, rfl, by decide, ck_2, rfl, cp_2, rfl, cq_2, x_at 87 (by decide +kernel) rfl, Or.inl rfl⟩
theorem lf_Ma_161 : x_fl "SequentMachine" 161 2 1 := ⟨_, ct_2, 2, rfl, by decide, ck_2, rfl, Or.inr ⟨"SequentMachine", by decide +kernel⟩⟩
theorem lf_Ma_10 : x_fl "SequentMachine" 10 7 0 := ⟨_, ct_7, 9, rfl, by decide, ck_7, rfl, Or.inl (x_at 94 (by decide +kernel) rfl)⟩
theorem lp_Ma_10 : x_pl "SequentMachine" "<init>" 10 7 0 (.object "SequentMachine$Scribe") := ⟨_, ct_7, 9, cy_7, rfl, by decide, ck_7, rfl, cp_7, rfl, cq_7, x_at 94 (by decide +kernel) rfl, Or.inr ⟨rfl, rfl, rfl⟩⟩
theorem lf_Ma_21 : x_fl "SequentMachine" 21 7 1 := ⟨_, ct_7, 9, rfl, by decide, ck_7, rfl, Or.inl (x_at 95 (by decide +kernel) rfl)⟩
theorem lp_Ma_21 : x_pl "SequentMachine" "<init>" 21 7 1 (.object "SequentMachine$Shelf") := ⟨_, ct_7, 9, cy_7, rfl, by decide, ck_7, rfl, cp_7, rfl, cq_7, x_at 95 (by decide +kernel) rfl, Or.inr ⟨rfl, rfl, rfl⟩⟩
theorem lf_Ma_25 : x_fl "SequentMachine" 25 7 2 := ⟨_, ct_7, 9, rfl, by decide, ck_7, rfl, Or.inl (x_at 96 (by decide +kernel) rfl)⟩
theorem lp_Ma_25 : x_pl "SequentMachine" "<init>" 25 7 2 (.object "SequentMachine$Shelf") := ⟨_, ct_7, 9, cy_7, rfl, by decide, ck_7, rfl, cp_7, rfl, cq_7, x_at 96 (by decide +kernel) rfl, Or.inr ⟨rfl, rfl, rfl⟩⟩
theorem lf_Ma_28 : x_fl "SequentMachine" 28 7 3 := ⟨_, ct_7, 9, rfl, by decide, ck_7, rfl, Or.inl (x_at 97 (by decide +kernel) rfl)⟩
theorem lp_Ma_28 : x_pl "SequentMachine" "<init>" 28 7 3 (.object "SequentMachine$Shelf") := ⟨_, ct_7, 9, cy_7, rfl, by decide, ck_7, rfl, cp_7, rfl, cq_7, x_at 97 (by decide +kernel) rfl, Or.inr ⟨rfl, rfl, rfl⟩⟩
theorem lf_Ma_33 : x_fl "SequentMachine" 33 7 4 := ⟨_, ct_7, 9, rfl, by decide, ck_7, rfl, Or.inl (x_at 98 (by decide +kernel) rfl)⟩
theorem lp_Ma_33 : x_pl "SequentMachine" "<init>" 33 7 4 (.array (.object "SequentMachine$Item")) := ⟨_, ct_7, 9, cy_7, rfl, by decide, ck_7, rfl, cp_7, rfl, cq_7, x_at 98 (by decide +kernel) rfl, Or.inr ⟨rfl, rfl, rfl⟩⟩
theorem lf_Ma_39 : x_fl "SequentMachine" 39 7 5 := ⟨_, ct_7, 9, rfl, by decide, ck_7, rfl, Or.inl (x_at 99 (by decide +kernel) rfl)⟩
theorem lp_Ma_39 : x_pl "SequentMachine" "<init>" 39 7 5 (.array (.object "SequentMachine$Row")) := ⟨_, ct_7, 9, cy_7, rfl, by decide, ck_7, rfl, cp_7, rfl, cq_7, x_at 99 (by decide +kernel) rfl, Or.inr ⟨rfl, rfl, rfl⟩⟩
theorem lf_Ma_46 : x_fl "SequentMachine" 46 7 6 := ⟨_, ct_7, 9, rfl, by decide, ck_7, rfl, Or.inl (x_at 100 (by decide +kernel) rfl)⟩
theorem lp_Ma_46 : x_pl "SequentMachine" "<init>" 46 7 6 (.object "SequentMachine$Hypotheses") := ⟨_, ct_7, 9, cy_7, rfl, by decide, ck_7, rfl, cp_7, rfl, cq_7, x_at 100 (by decide +kernel) rfl, Or.inr ⟨rfl, rfl, rfl⟩⟩
theorem lf_Ma_50 : x_fl "SequentMachine" 50 7 7 := ⟨_, ct_7, 9, rfl, by decide, ck_7, rfl, Or.inl (x_at 101 (by decide +kernel) rfl)⟩
theorem lp_Ma_50 {nm : String} : x_pl "SequentMachine" nm 50 7 7 (.int) := ⟨_, ct_7, 9, cy_7, rfl, by decide, ck_7, rfl, cp_7, rfl, cq_7, x_at 101 (by decide +kernel) rfl, Or.inl rfl⟩
theorem lf_Ma_54 : x_fl "SequentMachine" 54 7 8 := ⟨_, ct_7, 9, rfl, by decide, ck_7, rfl, Or.inl (x_at 102 (by decide +kernel) rfl)⟩
theorem lp_Ma_54 {nm : String} : x_pl "SequentMachine" nm 54 7 8 (.int) := ⟨_, ct_7, 9, cy_7, rfl, by decide, ck_7, rfl, cp_7, rfl, cq_7, x_at 102 (by decide +kernel) rfl, Or.inl rfl⟩
theorem lf_Ro_9 : x_fl "SequentMachine$Row" 9 4 0 := ⟨_, ct_4, 3, rfl, by decide, ck_4, rfl, Or.inl (x_at 159 (by decide +kernel) rfl)⟩
theorem lp_Ro_9 : x_pl "SequentMachine$Row" "<init>" 9 4 0 (.array .int) := ⟨_, ct_4, 3, cy_4, rfl, by decide, ck_4, rfl, cp_4, rfl, cq_4, x_at 159 (by decide +kernel) rfl, Or.inr ⟨rfl, rfl, rfl⟩⟩
theorem lf_Ro_15 : x_fl "SequentMachine$Row" 15 4 1 := ⟨_, ct_4, 3, rfl, by decide, ck_4, rfl, Or.inl (x_at 160 (by decide +kernel) rfl)⟩
theorem lp_Ro_15 : x_pl "SequentMachine$Row" "<init>" 15 4 1 (.int) := ⟨_, ct_4, 3, cy_4, rfl, by decide, ck_4, rfl, cp_4, rfl, cq_4, x_at 160 (by decide +kernel) rfl, Or.inr ⟨rfl, rfl, rfl⟩⟩
theorem lf_Eq_29 : x_fl "SequentMachine$Equation" 29 4 2 := ⟨_, ct_4, 3, rfl, by decide, ck_4, rfl, Or.inr ⟨"SequentMachine", by decide +kernel⟩⟩
theorem lf_Ro_19 : x_fl "SequentMachine$Row" 19 4 2 := ⟨_, ct_4, 3, rfl, by decide, ck_4, rfl, Or.inl (x_at 162 (by decide +kernel) rfl)⟩
theorem lp_Ro_19 : x_pl "SequentMachine$Row" "<init>" 19 4 2 (.int) := ⟨_, ct_4, 3, cy_4, rfl, by decide, ck_4, rfl, cp_4, rfl, cq_4, x_at 162 (by decide +kernel) rfl, Or.inr ⟨rfl, rfl, rfl⟩⟩
theorem lf_It_23 : x_fl "SequentMachine$Item" 23 4 2 := ⟨_, ct_4, 3, rfl, by decide, ck_4, rfl, Or.inr ⟨"SequentMachine", by decide +kernel⟩⟩
theorem lf_Hy_35 : x_fl "SequentMachine$Hypotheses" 35 4 2 := ⟨_, ct_4, 3, rfl, by decide, ck_4, rfl, Or.inr ⟨"SequentMachine", by decide +kernel⟩⟩
theorem lf_Sc_47 : x_fl "SequentMachine$Scribe" 47 4 2 := ⟨_, ct_4, 3, rfl, by decide, ck_4, rfl, Or.inr ⟨"SequentMachine", by decide +kernel⟩⟩
theorem lf_Ma_210 : x_fl "SequentMachine" 210 4 2 := ⟨_, ct_4, 3, rfl, by decide, ck_4, rfl, Or.inr ⟨"SequentMachine", by decide +kernel⟩⟩
theorem lf_It_9 : x_fl "SequentMachine$Item" 9 3 0 := ⟨_, ct_3, 3, rfl, by decide, ck_3, rfl, Or.inl (x_at 183 (by decide +kernel) rfl)⟩
theorem lp_It_9 : x_pl "SequentMachine$Item" "<init>" 9 3 0 (.int) := ⟨_, ct_3, 3, cy_3, rfl, by decide, ck_3, rfl, cp_3, rfl, cq_3, x_at 183 (by decide +kernel) rfl, Or.inr ⟨rfl, rfl, rfl⟩⟩
theorem lf_Ma_204 : x_fl "SequentMachine" 204 3 0 := ⟨_, ct_3, 3, rfl, by decide, ck_3, rfl, Or.inr ⟨"SequentMachine", by decide +kernel⟩⟩
theorem lf_It_15 : x_fl "SequentMachine$Item" 15 3 1 := ⟨_, ct_3, 3, rfl, by decide, ck_3, rfl, Or.inl (x_at 185 (by decide +kernel) rfl)⟩
theorem lp_It_15 : x_pl "SequentMachine$Item" "<init>" 15 3 1 (.object "SequentMachine$Row") := ⟨_, ct_3, 3, cy_3, rfl, by decide, ck_3, rfl, cp_3, rfl, cq_3, x_at 185 (by decide +kernel) rfl, Or.inr ⟨rfl, rfl, rfl⟩⟩
theorem lf_Ma_132 : x_fl "SequentMachine" 132 3 1 := ⟨_, ct_3, 3, rfl, by decide, ck_3, rfl, Or.inr ⟨"SequentMachine", by decide +kernel⟩⟩
theorem lf_It_19 : x_fl "SequentMachine$Item" 19 3 2 := ⟨_, ct_3, 3, rfl, by decide, ck_3, rfl, Or.inl (x_at 187 (by decide +kernel) rfl)⟩
theorem lp_It_19 : x_pl "SequentMachine$Item" "<init>" 19 3 2 (.object "SequentMachine$Hypotheses") := ⟨_, ct_3, 3, cy_3, rfl, by decide, ck_3, rfl, cp_3, rfl, cq_3, x_at 187 (by decide +kernel) rfl, Or.inr ⟨rfl, rfl, rfl⟩⟩
theorem lf_Ma_140 : x_fl "SequentMachine" 140 3 2 := ⟨_, ct_3, 3, rfl, by decide, ck_3, rfl, Or.inr ⟨"SequentMachine", by decide +kernel⟩⟩
theorem lf_Eq_20 : x_fl "SequentMachine$Equation" 20 1 0 := ⟨_, ct_1, 3, rfl, by decide, ck_1, rfl, Or.inl (x_at 432 (by decide +kernel) rfl)⟩
theorem lp_Eq_20 : x_pl "SequentMachine$Equation" "<init>" 20 1 0 (.object "SequentMachine$Row") := ⟨_, ct_1, 3, cy_1, rfl, by decide, ck_1, rfl, cp_1, rfl, cq_1, x_at 432 (by decide +kernel) rfl, Or.inr ⟨rfl, rfl, rfl⟩⟩
theorem lf_Ma_155 : x_fl "SequentMachine" 155 1 0 := ⟨_, ct_1, 3, rfl, by decide, ck_1, rfl, Or.inr ⟨"SequentMachine", by decide +kernel⟩⟩
theorem lf_Eq_26 : x_fl "SequentMachine$Equation" 26 1 1 := ⟨_, ct_1, 3, rfl, by decide, ck_1, rfl, Or.inl (x_at 434 (by decide +kernel) rfl)⟩
theorem lp_Eq_26 : x_pl "SequentMachine$Equation" "<init>" 26 1 1 (.object "SequentMachine$Row") := ⟨_, ct_1, 3, cy_1, rfl, by decide, ck_1, rfl, cp_1, rfl, cq_1, x_at 434 (by decide +kernel) rfl, Or.inr ⟨rfl, rfl, rfl⟩⟩
theorem lf_Ma_147 : x_fl "SequentMachine" 147 1 1 := ⟨_, ct_1, 3, rfl, by decide, ck_1, rfl, Or.inr ⟨"SequentMachine", by decide +kernel⟩⟩
theorem lf_Eq_33 : x_fl "SequentMachine$Equation" 33 1 2 := ⟨_, ct_1, 3, rfl, by decide, ck_1, rfl, Or.inl (x_at 436 (by decide +kernel) rfl)⟩
theorem lp_Eq_33 : x_pl "SequentMachine$Equation" "<init>" 33 1 2 (.object "SequentMachine$Row") := ⟨_, ct_1, 3, cy_1, rfl, by decide, ck_1, rfl, cp_1, rfl, cq_1, x_at 436 (by decide +kernel) rfl, Or.inr ⟨rfl, rfl, rfl⟩⟩
theorem lf_Ma_152 : x_fl "SequentMachine" 152 1 2 := ⟨_, ct_1, 3, rfl, by decide, ck_1, rfl, Or.inr ⟨"SequentMachine", by decide +kernel⟩⟩
theorem lf_Re_7 : x_fl "SequentMachineModel" 7 8 0 := ⟨_, ct_8, 15, rfl, by decide, ck_8, rfl, Or.inl (x_at 558 (by decide +kernel) rfl)⟩
theorem lp_Re_7 : x_pl "SequentMachineModel" "<init>" 7 8 0 (.array .int) := ⟨_, ct_8, 15, cy_8, rfl, by decide, ck_8, rfl, cp_8, rfl, cq_8, x_at 558 (by decide +kernel) rfl, Or.inr ⟨rfl, rfl, rfl⟩⟩
theorem lf_Re_13 : x_fl "SequentMachineModel" 13 8 1 := ⟨_, ct_8, 15, rfl, by decide, ck_8, rfl, Or.inl (x_at 559 (by decide +kernel) rfl)⟩
theorem lp_Re_13 : x_pl "SequentMachineModel" "<init>" 13 8 1 (.array .int) := ⟨_, ct_8, 15, cy_8, rfl, by decide, ck_8, rfl, cp_8, rfl, cq_8, x_at 559 (by decide +kernel) rfl, Or.inr ⟨rfl, rfl, rfl⟩⟩
theorem lf_Re_16 : x_fl "SequentMachineModel" 16 8 2 := ⟨_, ct_8, 15, rfl, by decide, ck_8, rfl, Or.inl (x_at 560 (by decide +kernel) rfl)⟩
theorem lp_Re_16 : x_pl "SequentMachineModel" "<init>" 16 8 2 (.array .int) := ⟨_, ct_8, 15, cy_8, rfl, by decide, ck_8, rfl, cp_8, rfl, cq_8, x_at 560 (by decide +kernel) rfl, Or.inr ⟨rfl, rfl, rfl⟩⟩
theorem lf_Re_19 : x_fl "SequentMachineModel" 19 8 3 := ⟨_, ct_8, 15, rfl, by decide, ck_8, rfl, Or.inl (x_at 561 (by decide +kernel) rfl)⟩
theorem lp_Re_19 : x_pl "SequentMachineModel" "<init>" 19 8 3 (.array .int) := ⟨_, ct_8, 15, cy_8, rfl, by decide, ck_8, rfl, cp_8, rfl, cq_8, x_at 561 (by decide +kernel) rfl, Or.inr ⟨rfl, rfl, rfl⟩⟩
theorem lf_Re_79 : x_fl "SequentMachineModel" 79 8 4 := ⟨_, ct_8, 15, rfl, by decide, ck_8, rfl, Or.inl (x_at 562 (by decide +kernel) rfl)⟩
theorem lp_Re_79 {nm : String} : x_pl "SequentMachineModel" nm 79 8 4 (.int) := ⟨_, ct_8, 15, cy_8, rfl, by decide, ck_8, rfl, cp_8, rfl, cq_8, x_at 562 (by decide +kernel) rfl, Or.inl rfl⟩
theorem lf_Re_152 : x_fl "SequentMachineModel" 152 8 5 := ⟨_, ct_8, 15, rfl, by decide, ck_8, rfl, Or.inl (x_at 563 (by decide +kernel) rfl)⟩
theorem lp_Re_152 {nm : String} : x_pl "SequentMachineModel" nm 152 8 5 (.int) := ⟨_, ct_8, 15, cy_8, rfl, by decide, ck_8, rfl, cp_8, rfl, cq_8, x_at 563 (by decide +kernel) rfl, Or.inl rfl⟩
theorem lf_Re_182 : x_fl "SequentMachineModel" 182 8 6 := ⟨_, ct_8, 15, rfl, by decide, ck_8, rfl, Or.inl (x_at 564 (by decide +kernel) rfl)⟩
theorem lp_Re_182 {nm : String} : x_pl "SequentMachineModel" nm 182 8 6 (.int) := ⟨_, ct_8, 15, cy_8, rfl, by decide, ck_8, rfl, cp_8, rfl, cq_8, x_at 564 (by decide +kernel) rfl, Or.inl rfl⟩
theorem lf_Re_103 : x_fl "SequentMachineModel" 103 8 7 := ⟨_, ct_8, 15, rfl, by decide, ck_8, rfl, Or.inl (x_at 565 (by decide +kernel) rfl)⟩
theorem lp_Re_103 {nm : String} : x_pl "SequentMachineModel" nm 103 8 7 (.int) := ⟨_, ct_8, 15, cy_8, rfl, by decide, ck_8, rfl, cp_8, rfl, cq_8, x_at 565 (by decide +kernel) rfl, Or.inl rfl⟩
theorem lf_Re_76 : x_fl "SequentMachineModel" 76 8 8 := ⟨_, ct_8, 15, rfl, by decide, ck_8, rfl, Or.inl (x_at 566 (by decide +kernel) rfl)⟩
theorem lp_Re_76 {nm : String} : x_pl "SequentMachineModel" nm 76 8 8 (.int) := ⟨_, ct_8, 15, cy_8, rfl, by decide, ck_8, rfl, cp_8, rfl, cq_8, x_at 566 (by decide +kernel) rfl, Or.inl rfl⟩
theorem lf_Re_22 : x_fl "SequentMachineModel" 22 8 9 := ⟨_, ct_8, 15, rfl, by decide, ck_8, rfl, Or.inl (x_at 567 (by decide +kernel) rfl)⟩
theorem lp_Re_22 : x_pl "SequentMachineModel" "<init>" 22 8 9 (.array .int) := ⟨_, ct_8, 15, cy_8, rfl, by decide, ck_8, rfl, cp_8, rfl, cq_8, x_at 567 (by decide +kernel) rfl, Or.inr ⟨rfl, rfl, rfl⟩⟩
theorem lf_Re_25 : x_fl "SequentMachineModel" 25 8 10 := ⟨_, ct_8, 15, rfl, by decide, ck_8, rfl, Or.inl (x_at 568 (by decide +kernel) rfl)⟩
theorem lp_Re_25 : x_pl "SequentMachineModel" "<init>" 25 8 10 (.array .int) := ⟨_, ct_8, 15, cy_8, rfl, by decide, ck_8, rfl, cp_8, rfl, cq_8, x_at 568 (by decide +kernel) rfl, Or.inr ⟨rfl, rfl, rfl⟩⟩
theorem lf_Re_28 : x_fl "SequentMachineModel" 28 8 11 := ⟨_, ct_8, 15, rfl, by decide, ck_8, rfl, Or.inl (x_at 569 (by decide +kernel) rfl)⟩
theorem lp_Re_28 {nm : String} : x_pl "SequentMachineModel" nm 28 8 11 (.int) := ⟨_, ct_8, 15, cy_8, rfl, by decide, ck_8, rfl, cp_8, rfl, cq_8, x_at 569 (by decide +kernel) rfl, Or.inl rfl⟩
theorem lf_Re_50 : x_fl "SequentMachineModel" 50 8 12 := ⟨_, ct_8, 15, rfl, by decide, ck_8, rfl, Or.inl (x_at 570 (by decide +kernel) rfl)⟩
theorem lp_Re_50 {nm : String} : x_pl "SequentMachineModel" nm 50 8 12 (.boolean) := ⟨_, ct_8, 15, cy_8, rfl, by decide, ck_8, rfl, cp_8, rfl, cq_8, x_at 570 (by decide +kernel) rfl, Or.inl rfl⟩
theorem lf_Re_109 : x_fl "SequentMachineModel" 109 8 13 := ⟨_, ct_8, 15, rfl, by decide, ck_8, rfl, Or.inl (x_at 571 (by decide +kernel) rfl)⟩
theorem lp_Re_109 {nm : String} : x_pl "SequentMachineModel" nm 109 8 13 (.int) := ⟨_, ct_8, 15, cy_8, rfl, by decide, ck_8, rfl, cp_8, rfl, cq_8, x_at 571 (by decide +kernel) rfl, Or.inl rfl⟩
theorem lf_Re_112 : x_fl "SequentMachineModel" 112 8 14 := ⟨_, ct_8, 15, rfl, by decide, ck_8, rfl, Or.inl (x_at 572 (by decide +kernel) rfl)⟩
theorem lp_Re_112 {nm : String} : x_pl "SequentMachineModel" nm 112 8 14 (.int) := ⟨_, ct_8, 15, cy_8, rfl, by decide, ck_8, rfl, cp_8, rfl, cq_8, x_at 572 (by decide +kernel) rfl, Or.inl rfl⟩
theorem ln_Ma_7 : x_nl "SequentMachine" 7 5 [.inr none, .inl 0, .inr none, .inr none] := ⟨_, ct_5, 4, cy_5, rfl, rfl, ck_5, cp_5, fun b j hj => by rcases (show j = 0 ∨ j = 1 ∨ j = 2 ∨ j = 3 by omega) with rfl | rfl | rfl | rfl <;> rfl, x_at 21 (by decide +kernel) rfl, x_at 22 (by decide +kernel) rfl, x_at 2 (by decide +kernel) rfl⟩
theorem ln_Sc_15 : x_nl "SequentMachine$Scribe" 15 0 [.inr none, .inl 0, .inl 0] := ⟨_, ct_0, 3, cy_0, rfl, rfl, ck_0, cp_0, fun b j hj => by rcases (show j = 0 ∨ j = 1 ∨ j = 2 by omega) with rfl | rfl | rfl <;> rfl, x_at 27 (by decide +kernel) rfl, x_at 28 (by decide +kernel) rfl, x_at 3 (by decide +kernel) rfl⟩
theorem ln_Sc_22 : x_nl "SequentMachine$Scribe" 22 4 [.inr none, .inl 0, .inl 0] := ⟨_, ct_4, 3, cy_4, rfl, rfl, ck_4, cp_4, fun b j hj => by rcases (show j = 0 ∨ j = 1 ∨ j = 2 by omega) with rfl | rfl | rfl <;> rfl, x_at 45 (by decide +kernel) rfl, x_at 138 (by decide +kernel) rfl, x_at 7 (by decide +kernel) rfl⟩
theorem la_Sc_22 : x_al "SequentMachine$Scribe" 22 0 := ⟨by decide, x_at 45 (by decide +kernel) rfl⟩
theorem ln_Ma_16 : x_nl "SequentMachine" 16 6 [.inr none, .inl 0] := ⟨_, ct_6, 2, cy_6, rfl, rfl, ck_6, cp_6, fun b j hj => by rcases (show j = 0 ∨ j = 1 by omega) with rfl | rfl <;> rfl, x_at 60 (by decide +kernel) rfl, x_at 61 (by decide +kernel) rfl, x_at 4 (by decide +kernel) rfl⟩
theorem ln_Sh_7 : x_nl "SequentMachine$Shelf" 7 3 [.inl 0, .inr none, .inr none] := ⟨_, ct_3, 3, cy_3, rfl, rfl, ck_3, cp_3, fun b j hj => by rcases (show j = 0 ∨ j = 1 ∨ j = 2 by omega) with rfl | rfl | rfl <;> rfl, x_at 66 (by decide +kernel) rfl, x_at 178 (by decide +kernel) rfl, x_at 11 (by decide +kernel) rfl⟩
theorem la_Sh_7 : x_al "SequentMachine$Shelf" 7 1 := ⟨by decide, x_at 66 (by decide +kernel) rfl⟩
theorem ln_Ma_31 : x_nl "SequentMachine" 31 3 [.inl 0, .inr none, .inr none] := ⟨_, ct_3, 3, cy_3, rfl, rfl, ck_3, cp_3, fun b j hj => by rcases (show j = 0 ∨ j = 1 ∨ j = 2 by omega) with rfl | rfl | rfl <;> rfl, x_at 76 (by decide +kernel) rfl, x_at 178 (by decide +kernel) rfl, x_at 11 (by decide +kernel) rfl⟩
theorem la_Ma_31 : x_al "SequentMachine" 31 1 := ⟨by decide, x_at 76 (by decide +kernel) rfl⟩
theorem ln_Ma_37 : x_nl "SequentMachine" 37 4 [.inr none, .inl 0, .inl 0] := ⟨_, ct_4, 3, cy_4, rfl, rfl, ck_4, cp_4, fun b j hj => by rcases (show j = 0 ∨ j = 1 ∨ j = 2 by omega) with rfl | rfl | rfl <;> rfl, x_at 77 (by decide +kernel) rfl, x_at 138 (by decide +kernel) rfl, x_at 7 (by decide +kernel) rfl⟩
theorem la_Ma_37 : x_al "SequentMachine" 37 0 := ⟨by decide, x_at 77 (by decide +kernel) rfl⟩
theorem ln_Ma_43 : x_nl "SequentMachine" 43 2 [.inr none, .inl 0] := ⟨_, ct_2, 2, cy_2, rfl, rfl, ck_2, cp_2, fun b j hj => by rcases (show j = 0 ∨ j = 1 by omega) with rfl | rfl <;> rfl, x_at 78 (by decide +kernel) rfl, x_at 79 (by decide +kernel) rfl, x_at 5 (by decide +kernel) rfl⟩
theorem ln_Hy_9 : x_nl "SequentMachine$Hypotheses" 9 4 [.inr none, .inl 0, .inl 0] := ⟨_, ct_4, 3, cy_4, rfl, rfl, ck_4, cp_4, fun b j hj => by rcases (show j = 0 ∨ j = 1 ∨ j = 2 by omega) with rfl | rfl | rfl <;> rfl, x_at 84 (by decide +kernel) rfl, x_at 138 (by decide +kernel) rfl, x_at 7 (by decide +kernel) rfl⟩
theorem la_Hy_9 : x_al "SequentMachine$Hypotheses" 9 0 := ⟨by decide, x_at 84 (by decide +kernel) rfl⟩
theorem ln_Ro_10 : x_nl "SequentMachine$Row" 10 4 [.inr none, .inl 0, .inl 0] := ⟨_, ct_4, 3, cy_4, rfl, rfl, ck_4, cp_4, fun b j hj => by rcases (show j = 0 ∨ j = 1 ∨ j = 2 by omega) with rfl | rfl | rfl <;> rfl, x_at 275 (by decide +kernel) rfl, x_at 138 (by decide +kernel) rfl, x_at 7 (by decide +kernel) rfl⟩
theorem la_Ro_10 : x_al "SequentMachine$Row" 10 0 := ⟨by decide, x_at 275 (by decide +kernel) rfl⟩
theorem ln_Ma_148 : x_nl "SequentMachine" 148 1 [.inr none, .inr none, .inr none] := ⟨_, ct_1, 3, cy_1, rfl, rfl, ck_1, cp_1, fun b j hj => by rcases (show j = 0 ∨ j = 1 ∨ j = 2 by omega) with rfl | rfl | rfl <;> rfl, x_at 423 (by decide +kernel) rfl, x_at 424 (by decide +kernel) rfl, x_at 12 (by decide +kernel) rfl⟩
theorem lo_Ma_1 : Cond.methodLink "SequentMachine" 1 objectInit ∈ x_ws ∧ Cond.instanceMethod objectInit ∈ x_ws ∧ Cond.code objectInit ⟨#[0xb1]⟩ 1 none ∈ x_ws := ⟨x_at 18 (by decide +kernel) rfl, x_at 19 (by decide +kernel) rfl, x_at 20 (by decide +kernel) rfl⟩
theorem lm_Ma_9 : x_ml "SequentMachine" 9 mm_Sc_init.1 := Or.inr ⟨"SequentMachine", by decide +kernel⟩
theorem lo_Sc_3 : Cond.methodLink "SequentMachine$Scribe" 3 objectInit ∈ x_ws ∧ Cond.instanceMethod objectInit ∈ x_ws ∧ Cond.code objectInit ⟨#[0xb1]⟩ 1 none ∈ x_ws := ⟨x_at 26 (by decide +kernel) rfl, x_at 19 (by decide +kernel) rfl, x_at 20 (by decide +kernel) rfl⟩
theorem lm_Sc_17 : x_ml "SequentMachine$Scribe" 17 mm_De_init.1 := Or.inr ⟨"SequentMachine", by decide +kernel⟩
theorem lo_De_3 : Cond.methodLink "SequentMachine$Depth" 3 objectInit ∈ x_ws ∧ Cond.instanceMethod objectInit ∈ x_ws ∧ Cond.code objectInit ⟨#[0xb1]⟩ 1 none ∈ x_ws := ⟨x_at 32 (by decide +kernel) rfl, x_at 19 (by decide +kernel) rfl, x_at 20 (by decide +kernel) rfl⟩
theorem lm_Ma_18 : x_ml "SequentMachine" 18 mm_Sh_init.1 := Or.inl (x_at 62 (by decide +kernel) rfl)
theorem lo_Sh_1 : Cond.methodLink "SequentMachine$Shelf" 1 objectInit ∈ x_ws ∧ Cond.instanceMethod objectInit ∈ x_ws ∧ Cond.code objectInit ⟨#[0xb1]⟩ 1 none ∈ x_ws := ⟨x_at 65 (by decide +kernel) rfl, x_at 19 (by decide +kernel) rfl, x_at 20 (by decide +kernel) rfl⟩
theorem lm_Ma_45 : x_ml "SequentMachine" 45 mm_Hy_init.1 := Or.inr ⟨"SequentMachine", by decide +kernel⟩
theorem lo_Hy_3 : Cond.methodLink "SequentMachine$Hypotheses" 3 objectInit ∈ x_ws ∧ Cond.instanceMethod objectInit ∈ x_ws ∧ Cond.code objectInit ⟨#[0xb1]⟩ 1 none ∈ x_ws := ⟨x_at 83 (by decide +kernel) rfl, x_at 19 (by decide +kernel) rfl, x_at 20 (by decide +kernel) rfl⟩
theorem lm_Ma_57 : x_ml "SequentMachine" 57 mm_Sc_simpleType.1 := Or.inl (x_at 126 (by decide +kernel) rfl)
theorem lm_Sc_28 : x_ml "SequentMachine$Scribe" 28 mm_Sc_put.1 := Or.inl (x_at 130 (by decide +kernel) rfl)
theorem lm_Sc_32 : x_ml "SequentMachine$Scribe" 32 mm_Sc_finishedRow.1 := Or.inl (x_at 134 (by decide +kernel) rfl)
theorem lm_Sc_83 : x_ml "SequentMachine$Scribe" 83 mm_Ar_copyOf.1 := Or.inl (x_at 139 (by decide +kernel) rfl)
theorem lm_Ar_304 : x_ml "java/util/Arrays" 304 mm_Mt_min.1 := Or.inl (x_at 149 (by decide +kernel) rfl)
theorem lm_Sc_89 : x_ml "SequentMachine$Scribe" 89 mm_Ro_init.1 := Or.inl (x_at 155 (by decide +kernel) rfl)
theorem lo_Ro_3 : Cond.methodLink "SequentMachine$Row" 3 objectInit ∈ x_ws ∧ Cond.instanceMethod objectInit ∈ x_ws ∧ Cond.code objectInit ⟨#[0xb1]⟩ 1 none ∈ x_ws := ⟨x_at 158 (by decide +kernel) rfl, x_at 19 (by decide +kernel) rfl, x_at 20 (by decide +kernel) rfl⟩
theorem lm_Ma_61 : x_ml "SequentMachine" 61 mm_Ma_finishType.1 := Or.inl (x_at 174 (by decide +kernel) rfl)
theorem lm_Ma_226 : x_ml "SequentMachine" 226 mm_It_init.1 := Or.inl (x_at 179 (by decide +kernel) rfl)
theorem lo_It_3 : Cond.methodLink "SequentMachine$Item" 3 objectInit ∈ x_ws ∧ Cond.instanceMethod objectInit ∈ x_ws ∧ Cond.code objectInit ⟨#[0xb1]⟩ 1 none ∈ x_ws := ⟨x_at 182 (by decide +kernel) rfl, x_at 19 (by decide +kernel) rfl, x_at 20 (by decide +kernel) rfl⟩
theorem lm_Ma_182 : x_ml "SequentMachine" 182 mm_Ma_finish.1 := Or.inl (x_at 196 (by decide +kernel) rfl)
theorem lm_Ma_256 : x_ml "SequentMachine" 256 mm_It_isSmallEnough.1 := Or.inl (x_at 200 (by decide +kernel) rfl)
theorem lm_It_28 : x_ml "SequentMachine$Item" 28 mm_Hy_areSmallEnough.1 := Or.inl (x_at 204 (by decide +kernel) rfl)
theorem lm_Ma_189 : x_ml "SequentMachine" 189 mm_Ma_finishEmptyHanded.1 := Or.inl (x_at 208 (by decide +kernel) rfl)
theorem lm_Ma_259 : x_ml "SequentMachine" 259 mm_Sh_drop.1 := Or.inl (x_at 212 (by decide +kernel) rfl)
theorem lm_Sh_19 : x_ml "SequentMachine$Shelf" 19 mm_Mt_max.1 := Or.inl (x_at 216 (by decide +kernel) rfl)
theorem lm_Ma_197 : x_ml "SequentMachine" 197 mm_Sh_add.1 := Or.inl (x_at 219 (by decide +kernel) rfl)
theorem lm_Ma_65 : x_ml "SequentMachine" 65 mm_Ma_rowBelow.1 := Or.inl (x_at 223 (by decide +kernel) rfl)
theorem lm_Ma_118 : x_ml "SequentMachine" 118 mm_Ma_itemBelow.1 := Or.inl (x_at 227 (by decide +kernel) rfl)
theorem lm_Ma_178 : x_ml "SequentMachine" 178 mm_Sh_below.1 := Or.inl (x_at 231 (by decide +kernel) rfl)
theorem lm_Ma_69 : x_ml "SequentMachine" 69 mm_Sc_functionType.1 := Or.inl (x_at 235 (by decide +kernel) rfl)
theorem lm_Sc_36 : x_ml "SequentMachine$Scribe" 36 mm_Sc_putRow.1 := Or.inl (x_at 239 (by decide +kernel) rfl)
theorem lm_Sc_51 : x_ml "SequentMachine$Scribe" 51 mm_Ro_at.1 := Or.inl (x_at 243 (by decide +kernel) rfl)
theorem lm_Ma_73 : x_ml "SequentMachine" 73 mm_Sc_leaf.1 := Or.inl (x_at 251 (by decide +kernel) rfl)
theorem lm_Ma_77 : x_ml "SequentMachine" 77 mm_Ma_finishTerm.1 := Or.inl (x_at 255 (by decide +kernel) rfl)
theorem lm_Ma_80 : x_ml "SequentMachine" 80 mm_Sc_typeOf.1 := Or.inl (x_at 267 (by decide +kernel) rfl)
theorem lm_Sc_40 : x_ml "SequentMachine$Scribe" 40 mm_Ro_typeAt.1 := Or.inl (x_at 271 (by decide +kernel) rfl)
theorem lm_Ro_32 : x_ml "SequentMachine$Row" 32 mm_Ro_typeEnd.1 := Or.inl (x_at 276 (by decide +kernel) rfl)
theorem lm_Ro_25 : x_ml "SequentMachine$Row" 25 mm_Ro_at.1 := Or.inl (x_at 280 (by decide +kernel) rfl)
theorem lm_Ro_22 : x_ml "SequentMachine$Row" 22 mm_Ro_init.1 := Or.inl (x_at 281 (by decide +kernel) rfl)
theorem lm_Sc_69 : x_ml "SequentMachine$Scribe" 69 mm_Sc_putLeafType.1 := Or.inl (x_at 282 (by decide +kernel) rfl)
theorem lm_Sc_73 : x_ml "SequentMachine$Scribe" 73 mm_Sc_putEqualType.1 := Or.inl (x_at 286 (by decide +kernel) rfl)
theorem lm_Sc_77 : x_ml "SequentMachine$Scribe" 77 mm_Ro_functionResult.1 := Or.inl (x_at 290 (by decide +kernel) rfl)
theorem lm_Ma_84 : x_ml "SequentMachine" 84 mm_Ma_takesArgument.1 := Or.inl (x_at 294 (by decide +kernel) rfl)
theorem lm_Ma_211 : x_ml "SequentMachine" 211 mm_Ro_at.1 := Or.inl (x_at 298 (by decide +kernel) rfl)
theorem lm_Ma_253 : x_ml "SequentMachine" 253 mm_Ro_functionArgument.1 := Or.inl (x_at 299 (by decide +kernel) rfl)
theorem lm_Ro_35 : x_ml "SequentMachine$Row" 35 mm_Ro_typeAt.1 := Or.inl (x_at 303 (by decide +kernel) rfl)
theorem lm_Ma_158 : x_ml "SequentMachine" 158 mm_Ro_same.1 := Or.inl (x_at 304 (by decide +kernel) rfl)
theorem lm_Ro_39 : x_ml "SequentMachine$Row" 39 mm_Ro_holdsAt.1 := Or.inl (x_at 308 (by decide +kernel) rfl)
theorem lm_Ma_88 : x_ml "SequentMachine" 88 mm_Sc_application.1 := Or.inl (x_at 312 (by decide +kernel) rfl)
theorem lm_Ma_91 : x_ml "SequentMachine" 91 mm_Ma_variableBelow.1 := Or.inl (x_at 320 (by decide +kernel) rfl)
theorem lm_Ma_94 : x_ml "SequentMachine" 94 mm_Sc_abstraction.1 := Or.inl (x_at 324 (by decide +kernel) rfl)
theorem lm_Sc_44 : x_ml "SequentMachine$Scribe" 44 mm_De_begin.1 := Or.inl (x_at 328 (by decide +kernel) rfl)
theorem lm_Sc_55 : x_ml "SequentMachine$Scribe" 55 mm_De_pass.1 := Or.inl (x_at 332 (by decide +kernel) rfl)
theorem lm_De_22 : x_ml "SequentMachine$Depth" 22 mm_Ro_termsWithin.1 := Or.inl (x_at 336 (by decide +kernel) rfl)
theorem lm_Sc_58 : x_ml "SequentMachine$Scribe" 58 mm_Ro_holdsAt.1 := Or.inl (x_at 339 (by decide +kernel) rfl)
theorem lm_Ma_97 : x_ml "SequentMachine" 97 mm_Sc_equation.1 := Or.inl (x_at 344 (by decide +kernel) rfl)
theorem lm_Ma_101 : x_ml "SequentMachine" 101 mm_Ma_finishTheorem.1 := Or.inl (x_at 348 (by decide +kernel) rfl)
theorem lm_Ma_105 : x_ml "SequentMachine" 105 mm_Ma_assume.1 := Or.inl (x_at 352 (by decide +kernel) rfl)
theorem lm_Ma_170 : x_ml "SequentMachine" 170 mm_Hy_add.1 := Or.inl (x_at 356 (by decide +kernel) rfl)
theorem lm_Hy_21 : x_ml "SequentMachine$Hypotheses" 21 mm_Ro_comesBefore.1 := Or.inl (x_at 360 (by decide +kernel) rfl)
theorem lm_Hy_25 : x_ml "SequentMachine$Hypotheses" 25 mm_Ro_same.1 := Or.inl (x_at 364 (by decide +kernel) rfl)
theorem lm_Ma_109 : x_ml "SequentMachine" 109 mm_Ma_reduce.1 := Or.inl (x_at 365 (by decide +kernel) rfl)
theorem lm_Ma_214 : x_ml "SequentMachine" 214 mm_Ro_typeEnd.1 := Or.inl (x_at 369 (by decide +kernel) rfl)
theorem lm_Ma_217 : x_ml "SequentMachine" 217 mm_Ro_termEnd.1 := Or.inl (x_at 370 (by decide +kernel) rfl)
theorem lm_Ro_29 : x_ml "SequentMachine$Row" 29 mm_Ro_termsWithin.1 := Or.inl (x_at 374 (by decide +kernel) rfl)
theorem lm_Ma_220 : x_ml "SequentMachine" 220 mm_Ro_part.1 := Or.inl (x_at 375 (by decide +kernel) rfl)
theorem lm_Ma_223 : x_ml "SequentMachine" 223 mm_Sc_replaceOutermost.1 := Or.inl (x_at 379 (by decide +kernel) rfl)
theorem lm_Ma_112 : x_ml "SequentMachine" 112 mm_Ma_addAxiom.1 := Or.inl (x_at 383 (by decide +kernel) rfl)
theorem lm_Ma_193 : x_ml "SequentMachine" 193 mm_Sh_isFull.1 := Or.inl (x_at 387 (by decide +kernel) rfl)
theorem lm_Ma_115 : x_ml "SequentMachine" 115 mm_Ma_define.1 := Or.inl (x_at 391 (by decide +kernel) rfl)
theorem lm_Ma_229 : x_ml "SequentMachine" 229 mm_Ro_hasFreeVariable.1 := Or.inl (x_at 395 (by decide +kernel) rfl)
theorem lm_Ro_43 : x_ml "SequentMachine$Row" 43 mm_Ro_has.1 := Or.inl (x_at 399 (by decide +kernel) rfl)
theorem lm_Ma_232 : x_ml "SequentMachine" 232 mm_Ro_typeVariablesStandIn.1 := Or.inl (x_at 403 (by decide +kernel) rfl)
theorem lm_Ro_47 : x_ml "SequentMachine$Row" 47 mm_Ro_isOfType.1 := Or.inl (x_at 407 (by decide +kernel) rfl)
theorem lm_Ma_122 : x_ml "SequentMachine" 122 mm_Ma_followEquation.1 := Or.inl (x_at 415 (by decide +kernel) rfl)
theorem lm_Ma_136 : x_ml "SequentMachine" 136 mm_Ma_equationIn.1 := Or.inl (x_at 419 (by decide +kernel) rfl)
theorem lm_Ma_251 : x_ml "SequentMachine" 251 mm_Eq_init.1 := Or.inl (x_at 425 (by decide +kernel) rfl)
theorem lo_Eq_1 : Cond.methodLink "SequentMachine$Equation" 1 objectInit ∈ x_ws ∧ Cond.instanceMethod objectInit ∈ x_ws ∧ Cond.code objectInit ⟨#[0xb1]⟩ 1 none ∈ x_ws := ⟨x_at 428 (by decide +kernel) rfl, x_at 19 (by decide +kernel) rfl, x_at 20 (by decide +kernel) rfl⟩
theorem lm_Eq_7 : x_ml "SequentMachine$Equation" 7 mm_Ro_typeEnd.1 := Or.inl (x_at 429 (by decide +kernel) rfl)
theorem lm_Eq_13 : x_ml "SequentMachine$Equation" 13 mm_Ro_termEnd.1 := Or.inl (x_at 430 (by decide +kernel) rfl)
theorem lm_Eq_16 : x_ml "SequentMachine$Equation" 16 mm_Ro_part.1 := Or.inl (x_at 431 (by decide +kernel) rfl)
theorem lm_Ma_235 : x_ml "SequentMachine" 235 mm_Ma_hypothesesOfBoth.1 := Or.inl (x_at 445 (by decide +kernel) rfl)
theorem lm_Ma_247 : x_ml "SequentMachine" 247 mm_Hy_addAll.1 := Or.inl (x_at 449 (by decide +kernel) rfl)
theorem lm_Hy_28 : x_ml "SequentMachine$Hypotheses" 28 mm_Hy_add.1 := Or.inl (x_at 453 (by decide +kernel) rfl)
theorem lm_Ma_126 : x_ml "SequentMachine" 126 mm_Ma_applyEquations.1 := Or.inl (x_at 454 (by decide +kernel) rfl)
theorem lm_Ma_239 : x_ml "SequentMachine" 239 mm_Ro_functionResult.1 := Or.inl (x_at 458 (by decide +kernel) rfl)
theorem lm_Ma_129 : x_ml "SequentMachine" 129 mm_Ma_deduct.1 := Or.inl (x_at 459 (by decide +kernel) rfl)
theorem lm_Ma_243 : x_ml "SequentMachine" 243 mm_Hy_addAllBut.1 := Or.inl (x_at 463 (by decide +kernel) rfl)
theorem lm_Ma_143 : x_ml "SequentMachine" 143 mm_Hy_haveFree.1 := Or.inl (x_at 471 (by decide +kernel) rfl)
theorem lm_Hy_32 : x_ml "SequentMachine$Hypotheses" 32 mm_Ro_hasFree.1 := Or.inl (x_at 475 (by decide +kernel) rfl)
theorem lm_Ma_167 : x_ml "SequentMachine" 167 mm_Sc_replaceVariable.1 := Or.inl (x_at 483 (by decide +kernel) rfl)
theorem lm_Ma_174 : x_ml "SequentMachine" 174 mm_Sc_replaceTypeVariable.1 := Or.inl (x_at 491 (by decide +kernel) rfl)
theorem lm_Sc_65 : x_ml "SequentMachine$Scribe" 65 mm_Ro_isOfType.1 := Or.inl (x_at 495 (by decide +kernel) rfl)
theorem lm_Ma_186 : x_ml "SequentMachine" 186 mm_Ma_keptFor.1 := Or.inl (x_at 504 (by decide +kernel) rfl)
theorem lm_Ma_201 : x_ml "SequentMachine" 201 mm_Ma_itemAt.1 := Or.inl (x_at 524 (by decide +kernel) rfl)
theorem lm_Ma_262 : x_ml "SequentMachine" 262 mm_Sh_get.1 := Or.inl (x_at 528 (by decide +kernel) rfl)
theorem lm_Ma_207 : x_ml "SequentMachine" 207 mm_Ma_partAt.1 := Or.inl (x_at 540 (by decide +kernel) rfl)
theorem lm_Ma_265 : x_ml "SequentMachine" 265 mm_Hy_get.1 := Or.inl (x_at 544 (by decide +kernel) rfl)
theorem lo_Re_1 : Cond.methodLink "SequentMachineModel" 1 objectInit ∈ x_ws ∧ Cond.instanceMethod objectInit ∈ x_ws ∧ Cond.code objectInit ⟨#[0xb1]⟩ 1 none ∈ x_ws := ⟨x_at 557 (by decide +kernel) rfl, x_at 19 (by decide +kernel) rfl, x_at 20 (by decide +kernel) rfl⟩
theorem lm_Re_85 : x_ml "SequentMachineModel" 85 mm_Re_top.1 := Or.inl (x_at 608 (by decide +kernel) rfl)
theorem lm_Re_88 : x_ml "SequentMachineModel" 88 mm_Re_begin.1 := Or.inl (x_at 612 (by decide +kernel) rfl)
theorem lm_Re_32 : x_ml "SequentMachineModel" 32 mm_Re_emit.1 := Or.inl (x_at 616 (by decide +kernel) rfl)
theorem lm_Re_66 : x_ml "SequentMachineModel" 66 mm_Re_part.1 := Or.inl (x_at 620 (by decide +kernel) rfl)
theorem lm_Re_54 : x_ml "SequentMachineModel" 54 mm_Re_base.1 := Or.inl (x_at 624 (by decide +kernel) rfl)
theorem lm_Re_91 : x_ml "SequentMachineModel" 91 mm_Re_done.1 := Or.inl (x_at 627 (by decide +kernel) rfl)
theorem lm_Re_82 : x_ml "SequentMachineModel" 82 mm_Re_copyObject.1 := Or.inl (x_at 631 (by decide +kernel) rfl)
theorem lm_Re_62 : x_ml "SequentMachineModel" 62 mm_Re_movePart.1 := Or.inl (x_at 635 (by decide +kernel) rfl)
theorem lm_Re_94 : x_ml "SequentMachineModel" 94 mm_Re_rowOf.1 := Or.inl (x_at 639 (by decide +kernel) rfl)
theorem lm_Re_97 : x_ml "SequentMachineModel" 97 mm_Re_rowEnd.1 := Or.inl (x_at 643 (by decide +kernel) rfl)
theorem lm_Re_43 : x_ml "SequentMachineModel" 43 mm_Re_emitRow.1 := Or.inl (x_at 647 (by decide +kernel) rfl)
theorem lm_Re_100 : x_ml "SequentMachineModel" 100 mm_Re_leaf.1 := Or.inl (x_at 655 (by decide +kernel) rfl)
theorem lm_Re_115 : x_ml "SequentMachineModel" 115 mm_Re_fits.1 := Or.inl (x_at 667 (by decide +kernel) rfl)
theorem lm_Re_106 : x_ml "SequentMachineModel" 106 mm_Re_typeOf.1 := Or.inl (x_at 671 (by decide +kernel) rfl)
theorem lm_Re_36 : x_ml "SequentMachineModel" 36 mm_Re_skipType.1 := Or.inl (x_at 675 (by decide +kernel) rfl)
theorem lm_Re_47 : x_ml "SequentMachineModel" 47 mm_Re_equalAt.1 := Or.inl (x_at 679 (by decide +kernel) rfl)
theorem lm_Re_69 : x_ml "SequentMachineModel" 69 mm_Re_sameRow.1 := Or.inl (x_at 683 (by decide +kernel) rfl)
theorem lm_Re_126 : x_ml "SequentMachineModel" 126 mm_Re_variable.1 := Or.inl (x_at 691 (by decide +kernel) rfl)
theorem lm_Re_130 : x_ml "SequentMachineModel" 130 mm_Re_emitAbs.1 := Or.inl (x_at 695 (by decide +kernel) rfl)
theorem lm_Re_119 : x_ml "SequentMachineModel" 119 mm_Re_stands.1 := Or.inl (x_at 699 (by decide +kernel) rfl)
theorem lm_Re_123 : x_ml "SequentMachineModel" 123 mm_Re_depth.1 := Or.inl (x_at 703 (by decide +kernel) rfl)
theorem lm_Re_40 : x_ml "SequentMachineModel" 40 mm_Re_skipTerm.1 := Or.inl (x_at 707 (by decide +kernel) rfl)
theorem lm_Re_133 : x_ml "SequentMachineModel" 133 mm_Re_isBool.1 := Or.inl (x_at 715 (by decide +kernel) rfl)
theorem lm_Re_136 : x_ml "SequentMachineModel" 136 mm_Re_claim.1 := Or.inl (x_at 719 (by decide +kernel) rfl)
theorem lm_Re_73 : x_ml "SequentMachineModel" 73 mm_Re_hypothesis.1 := Or.inl (x_at 723 (by decide +kernel) rfl)
theorem lm_Re_58 : x_ml "SequentMachineModel" 58 mm_Re_compare.1 := Or.inl (x_at 727 (by decide +kernel) rfl)
theorem lm_Re_140 : x_ml "SequentMachineModel" 140 mm_Re_closed.1 := Or.inl (x_at 731 (by decide +kernel) rfl)
theorem lm_Re_155 : x_ml "SequentMachineModel" 155 mm_Re_occurs.1 := Or.inl (x_at 735 (by decide +kernel) rfl)
theorem lm_Re_143 : x_ml "SequentMachineModel" 143 mm_Re_beginEquation.1 := Or.inl (x_at 739 (by decide +kernel) rfl)
theorem lm_Re_146 : x_ml "SequentMachineModel" 146 mm_Re_reduce.1 := Or.inl (x_at 743 (by decide +kernel) rfl)
theorem lm_Re_149 : x_ml "SequentMachineModel" 149 mm_Re_define.1 := Or.inl (x_at 747 (by decide +kernel) rfl)
theorem lm_Re_158 : x_ml "SequentMachineModel" 158 mm_Re_bring.1 := Or.inl (x_at 755 (by decide +kernel) rfl)
theorem lm_Re_162 : x_ml "SequentMachineModel" 162 mm_Re_isEquation.1 := Or.inl (x_at 759 (by decide +kernel) rfl)
theorem lm_Re_165 : x_ml "SequentMachineModel" 165 mm_Re_left.1 := Or.inl (x_at 763 (by decide +kernel) rfl)
theorem lm_Re_168 : x_ml "SequentMachineModel" 168 mm_Re_applied.1 := Or.inl (x_at 767 (by decide +kernel) rfl)
theorem lm_Re_172 : x_ml "SequentMachineModel" 172 mm_Re_free.1 := Or.inl (x_at 775 (by decide +kernel) rfl)
theorem lm_Re_175 : x_ml "SequentMachineModel" 175 mm_Re_replaced.1 := Or.inl (x_at 783 (by decide +kernel) rfl)
theorem lm_Re_179 : x_ml "SequentMachineModel" 179 mm_Re_retyped.1 := Or.inl (x_at 791 (by decide +kernel) rfl)
theorem lm_Re_185 : x_ml "SequentMachineModel" 185 mm_Re_at.1 := Or.inl (x_at 819 (by decide +kernel) rfl)
theorem lm_Re_188 : x_ml "SequentMachineModel" 188 mm_Re_length.1 := Or.inl (x_at 835 (by decide +kernel) rfl)
theorem la_int : Cond.arrayClass .int ∈ x_ws := x_at 44 (by decide +kernel) rfl
end
section
theorem dm_Ma_init_0 : decode mm_Ma_init.2.1 0 = .ok (.aload_n 0, 1) := by decide +kernel
theorem dm_Ma_init_1 : decode mm_Ma_init.2.1 1 = .ok (.invokespecial 1, 3) := by decide +kernel
theorem dm_Ma_init_4 : decode mm_Ma_init.2.1 4 = .ok (.aload_n 0, 1) := by decide +kernel
theorem dm_Ma_init_5 : decode mm_Ma_init.2.1 5 = .ok (.new 7, 3) := by decide +kernel
theorem dm_Ma_init_8 : decode mm_Ma_init.2.1 8 = .ok (.dup, 1) := by decide +kernel
theorem dm_Ma_init_9 : decode mm_Ma_init.2.1 9 = .ok (.invokespecial 9, 3) := by decide +kernel
theorem dm_Ma_init_12 : decode mm_Ma_init.2.1 12 = .ok (.putfield 10, 3) := by decide +kernel
theorem dm_Ma_init_15 : decode mm_Ma_init.2.1 15 = .ok (.aload_n 0, 1) := by decide +kernel
theorem dm_Ma_init_16 : decode mm_Ma_init.2.1 16 = .ok (.new 16, 3) := by decide +kernel
theorem dm_Ma_init_19 : decode mm_Ma_init.2.1 19 = .ok (.dup, 1) := by decide +kernel
theorem dm_Ma_init_20 : decode mm_Ma_init.2.1 20 = .ok (.bipush 12, 2) := by decide +kernel
theorem dm_Ma_init_22 : decode mm_Ma_init.2.1 22 = .ok (.invokespecial 18, 3) := by decide +kernel
theorem dm_Ma_init_25 : decode mm_Ma_init.2.1 25 = .ok (.putfield 21, 3) := by decide +kernel
theorem dm_Ma_init_28 : decode mm_Ma_init.2.1 28 = .ok (.aload_n 0, 1) := by decide +kernel
theorem dm_Ma_init_29 : decode mm_Ma_init.2.1 29 = .ok (.new 16, 3) := by decide +kernel
theorem dm_Ma_init_32 : decode mm_Ma_init.2.1 32 = .ok (.dup, 1) := by decide +kernel
theorem dm_Ma_init_33 : decode mm_Ma_init.2.1 33 = .ok (.iconst 5, 1) := by decide +kernel
theorem dm_Ma_init_34 : decode mm_Ma_init.2.1 34 = .ok (.invokespecial 18, 3) := by decide +kernel
theorem dm_Ma_init_37 : decode mm_Ma_init.2.1 37 = .ok (.putfield 25, 3) := by decide +kernel
theorem dm_Ma_init_40 : decode mm_Ma_init.2.1 40 = .ok (.aload_n 0, 1) := by decide +kernel
theorem dm_Ma_init_41 : decode mm_Ma_init.2.1 41 = .ok (.new 16, 3) := by decide +kernel
theorem dm_Ma_init_44 : decode mm_Ma_init.2.1 44 = .ok (.dup, 1) := by decide +kernel
theorem dm_Ma_init_45 : decode mm_Ma_init.2.1 45 = .ok (.iconst 5, 1) := by decide +kernel
theorem dm_Ma_init_46 : decode mm_Ma_init.2.1 46 = .ok (.invokespecial 18, 3) := by decide +kernel
theorem dm_Ma_init_49 : decode mm_Ma_init.2.1 49 = .ok (.putfield 28, 3) := by decide +kernel
theorem dm_Ma_init_52 : decode mm_Ma_init.2.1 52 = .ok (.aload_n 0, 1) := by decide +kernel
theorem dm_Ma_init_53 : decode mm_Ma_init.2.1 53 = .ok (.bipush 6, 2) := by decide +kernel
theorem dm_Ma_init_55 : decode mm_Ma_init.2.1 55 = .ok (.anewarray 31, 3) := by decide +kernel
theorem dm_Ma_init_58 : decode mm_Ma_init.2.1 58 = .ok (.putfield 33, 3) := by decide +kernel
theorem dm_Ma_init_61 : decode mm_Ma_init.2.1 61 = .ok (.aload_n 0, 1) := by decide +kernel
theorem dm_Ma_init_62 : decode mm_Ma_init.2.1 62 = .ok (.bipush 6, 2) := by decide +kernel
theorem dm_Ma_init_64 : decode mm_Ma_init.2.1 64 = .ok (.anewarray 37, 3) := by decide +kernel
theorem dm_Ma_init_67 : decode mm_Ma_init.2.1 67 = .ok (.putfield 39, 3) := by decide +kernel
theorem dm_Ma_init_70 : decode mm_Ma_init.2.1 70 = .ok (.aload_n 0, 1) := by decide +kernel
theorem dm_Ma_init_71 : decode mm_Ma_init.2.1 71 = .ok (.new 43, 3) := by decide +kernel
theorem dm_Ma_init_74 : decode mm_Ma_init.2.1 74 = .ok (.dup, 1) := by decide +kernel
theorem dm_Ma_init_75 : decode mm_Ma_init.2.1 75 = .ok (.invokespecial 45, 3) := by decide +kernel
theorem dm_Ma_init_78 : decode mm_Ma_init.2.1 78 = .ok (.putfield 46, 3) := by decide +kernel
theorem dm_Ma_init_81 : decode mm_Ma_init.2.1 81 = .ok (.aload_n 0, 1) := by decide +kernel
theorem dm_Ma_init_82 : decode mm_Ma_init.2.1 82 = .ok (.iconst 0, 1) := by decide +kernel
theorem dm_Ma_init_83 : decode mm_Ma_init.2.1 83 = .ok (.putfield 50, 3) := by decide +kernel
theorem dm_Ma_init_86 : decode mm_Ma_init.2.1 86 = .ok (.aload_n 0, 1) := by decide +kernel
theorem dm_Ma_init_87 : decode mm_Ma_init.2.1 87 = .ok (.iconst 0, 1) := by decide +kernel
theorem dm_Ma_init_88 : decode mm_Ma_init.2.1 88 = .ok (.putfield 54, 3) := by decide +kernel
theorem dm_Ma_init_91 : decode mm_Ma_init.2.1 91 = .ok (.return_, 1) := by decide +kernel
theorem dm_Ma_type_0 : decode mm_Ma_type.2.1 0 = .ok (.iload_n 1, 1) := by decide +kernel
theorem dm_Ma_type_1 : decode mm_Ma_type.2.1 1 = .ok (.iconst (-1), 1) := by decide +kernel
theorem dm_Ma_type_2 : decode mm_Ma_type.2.1 2 = .ok (.if_icmp .lt 8, 3) := by decide +kernel
theorem dm_Ma_type_5 : decode mm_Ma_type.2.1 5 = .ok (.iload_n 1, 1) := by decide +kernel
theorem dm_Ma_type_6 : decode mm_Ma_type.2.1 6 = .ok (.iconst 4, 1) := by decide +kernel
theorem dm_Ma_type_7 : decode mm_Ma_type.2.1 7 = .ok (.if_icmp .le 5, 3) := by decide +kernel
theorem dm_Ma_type_10 : decode mm_Ma_type.2.1 10 = .ok (.iconst 2, 1) := by decide +kernel
theorem dm_Ma_type_11 : decode mm_Ma_type.2.1 11 = .ok (.ireturn, 1) := by decide +kernel
theorem dm_Ma_type_12 : decode mm_Ma_type.2.1 12 = .ok (.iload_n 1, 1) := by decide +kernel
theorem dm_Ma_type_13 : decode mm_Ma_type.2.1 13 = .ok (.iconst 4, 1) := by decide +kernel
theorem dm_Ma_type_14 : decode mm_Ma_type.2.1 14 = .ok (.if_icmp .eq 28, 3) := by decide +kernel
theorem dm_Ma_type_17 : decode mm_Ma_type.2.1 17 = .ok (.aload_n 0, 1) := by decide +kernel
theorem dm_Ma_type_18 : decode mm_Ma_type.2.1 18 = .ok (.iconst 0, 1) := by decide +kernel
theorem dm_Ma_type_19 : decode mm_Ma_type.2.1 19 = .ok (.aload_n 0, 1) := by decide +kernel
theorem dm_Ma_type_20 : decode mm_Ma_type.2.1 20 = .ok (.getfield 10, 3) := by decide +kernel
theorem dm_Ma_type_23 : decode mm_Ma_type.2.1 23 = .ok (.iload_n 1, 1) := by decide +kernel
theorem dm_Ma_type_24 : decode mm_Ma_type.2.1 24 = .ok (.iconst (-1), 1) := by decide +kernel
theorem dm_Ma_type_25 : decode mm_Ma_type.2.1 25 = .ok (.if_icmp .ne 7, 3) := by decide +kernel
theorem dm_Ma_type_28 : decode mm_Ma_type.2.1 28 = .ok (.iconst 1, 1) := by decide +kernel
theorem dm_Ma_type_29 : decode mm_Ma_type.2.1 29 = .ok (.goto 6, 3) := by decide +kernel
theorem dm_Ma_type_32 : decode mm_Ma_type.2.1 32 = .ok (.iconst 2, 1) := by decide +kernel
theorem dm_Ma_type_33 : decode mm_Ma_type.2.1 33 = .ok (.iload_n 1, 1) := by decide +kernel
theorem dm_Ma_type_34 : decode mm_Ma_type.2.1 34 = .ok (.iadd, 1) := by decide +kernel
theorem dm_Ma_type_35 : decode mm_Ma_type.2.1 35 = .ok (.invokevirtual 57, 3) := by decide +kernel
theorem dm_Ma_type_38 : decode mm_Ma_type.2.1 38 = .ok (.invokevirtual 61, 3) := by decide +kernel
theorem dm_Ma_type_41 : decode mm_Ma_type.2.1 41 = .ok (.ireturn, 1) := by decide +kernel
theorem dm_Ma_type_42 : decode mm_Ma_type.2.1 42 = .ok (.aload_n 0, 1) := by decide +kernel
theorem dm_Ma_type_43 : decode mm_Ma_type.2.1 43 = .ok (.iconst 1, 1) := by decide +kernel
theorem dm_Ma_type_44 : decode mm_Ma_type.2.1 44 = .ok (.iconst 0, 1) := by decide +kernel
theorem dm_Ma_type_45 : decode mm_Ma_type.2.1 45 = .ok (.invokevirtual 65, 3) := by decide +kernel
theorem dm_Ma_type_48 : decode mm_Ma_type.2.1 48 = .ok (.astore_n 2, 1) := by decide +kernel
theorem dm_Ma_type_49 : decode mm_Ma_type.2.1 49 = .ok (.aload_n 0, 1) := by decide +kernel
theorem dm_Ma_type_50 : decode mm_Ma_type.2.1 50 = .ok (.iconst 0, 1) := by decide +kernel
theorem dm_Ma_type_51 : decode mm_Ma_type.2.1 51 = .ok (.iconst 0, 1) := by decide +kernel
theorem dm_Ma_type_52 : decode mm_Ma_type.2.1 52 = .ok (.invokevirtual 65, 3) := by decide +kernel
theorem dm_Ma_type_55 : decode mm_Ma_type.2.1 55 = .ok (.astore_n 3, 1) := by decide +kernel
theorem dm_Ma_type_56 : decode mm_Ma_type.2.1 56 = .ok (.aload_n 2, 1) := by decide +kernel
theorem dm_Ma_type_57 : decode mm_Ma_type.2.1 57 = .ok (.ifnull 7, 3) := by decide +kernel
theorem dm_Ma_type_60 : decode mm_Ma_type.2.1 60 = .ok (.aload_n 3, 1) := by decide +kernel
theorem dm_Ma_type_61 : decode mm_Ma_type.2.1 61 = .ok (.ifnonnull 5, 3) := by decide +kernel
theorem dm_Ma_type_64 : decode mm_Ma_type.2.1 64 = .ok (.iconst 1, 1) := by decide +kernel
theorem dm_Ma_type_65 : decode mm_Ma_type.2.1 65 = .ok (.ireturn, 1) := by decide +kernel
theorem dm_Ma_type_66 : decode mm_Ma_type.2.1 66 = .ok (.aload_n 0, 1) := by decide +kernel
theorem dm_Ma_type_67 : decode mm_Ma_type.2.1 67 = .ok (.iconst 2, 1) := by decide +kernel
theorem dm_Ma_type_68 : decode mm_Ma_type.2.1 68 = .ok (.aload_n 0, 1) := by decide +kernel
theorem dm_Ma_type_69 : decode mm_Ma_type.2.1 69 = .ok (.getfield 10, 3) := by decide +kernel
theorem dm_Ma_type_72 : decode mm_Ma_type.2.1 72 = .ok (.aload_n 2, 1) := by decide +kernel
theorem dm_Ma_type_73 : decode mm_Ma_type.2.1 73 = .ok (.aload_n 3, 1) := by decide +kernel
theorem dm_Ma_type_74 : decode mm_Ma_type.2.1 74 = .ok (.invokevirtual 69, 3) := by decide +kernel
theorem dm_Ma_type_77 : decode mm_Ma_type.2.1 77 = .ok (.invokevirtual 61, 3) := by decide +kernel
theorem dm_Ma_type_80 : decode mm_Ma_type.2.1 80 = .ok (.ireturn, 1) := by decide +kernel
theorem dm_Ma_var_0 : decode mm_Ma_var.2.1 0 = .ok (.aload_n 0, 1) := by decide +kernel
theorem dm_Ma_var_1 : decode mm_Ma_var.2.1 1 = .ok (.iconst 0, 1) := by decide +kernel
theorem dm_Ma_var_2 : decode mm_Ma_var.2.1 2 = .ok (.iconst 0, 1) := by decide +kernel
theorem dm_Ma_var_3 : decode mm_Ma_var.2.1 3 = .ok (.invokevirtual 65, 3) := by decide +kernel
theorem dm_Ma_var_6 : decode mm_Ma_var.2.1 6 = .ok (.astore_n 2, 1) := by decide +kernel
theorem dm_Ma_var_7 : decode mm_Ma_var.2.1 7 = .ok (.aload_n 2, 1) := by decide +kernel
theorem dm_Ma_var_8 : decode mm_Ma_var.2.1 8 = .ok (.ifnonnull 5, 3) := by decide +kernel
theorem dm_Ma_var_11 : decode mm_Ma_var.2.1 11 = .ok (.iconst 1, 1) := by decide +kernel
theorem dm_Ma_var_12 : decode mm_Ma_var.2.1 12 = .ok (.ireturn, 1) := by decide +kernel
theorem dm_Ma_var_13 : decode mm_Ma_var.2.1 13 = .ok (.iload_n 1, 1) := by decide +kernel
theorem dm_Ma_var_14 : decode mm_Ma_var.2.1 14 = .ok (.ifCond .lt 9, 3) := by decide +kernel
theorem dm_Ma_var_17 : decode mm_Ma_var.2.1 17 = .ok (.iload_n 1, 1) := by decide +kernel
theorem dm_Ma_var_18 : decode mm_Ma_var.2.1 18 = .ok (.bipush 8, 2) := by decide +kernel
theorem dm_Ma_var_20 : decode mm_Ma_var.2.1 20 = .ok (.if_icmp .lt 5, 3) := by decide +kernel
theorem dm_Ma_var_23 : decode mm_Ma_var.2.1 23 = .ok (.iconst 2, 1) := by decide +kernel
theorem dm_Ma_var_24 : decode mm_Ma_var.2.1 24 = .ok (.ireturn, 1) := by decide +kernel
theorem dm_Ma_var_25 : decode mm_Ma_var.2.1 25 = .ok (.aload_n 0, 1) := by decide +kernel
theorem dm_Ma_var_26 : decode mm_Ma_var.2.1 26 = .ok (.iconst 1, 1) := by decide +kernel
theorem dm_Ma_var_27 : decode mm_Ma_var.2.1 27 = .ok (.aload_n 0, 1) := by decide +kernel
theorem dm_Ma_var_28 : decode mm_Ma_var.2.1 28 = .ok (.getfield 10, 3) := by decide +kernel
theorem dm_Ma_var_31 : decode mm_Ma_var.2.1 31 = .ok (.bipush 10, 2) := by decide +kernel
theorem dm_Ma_var_33 : decode mm_Ma_var.2.1 33 = .ok (.iload_n 1, 1) := by decide +kernel
theorem dm_Ma_var_34 : decode mm_Ma_var.2.1 34 = .ok (.aload_n 2, 1) := by decide +kernel
theorem dm_Ma_var_35 : decode mm_Ma_var.2.1 35 = .ok (.invokevirtual 73, 3) := by decide +kernel
theorem dm_Ma_var_38 : decode mm_Ma_var.2.1 38 = .ok (.invokevirtual 77, 3) := by decide +kernel
theorem dm_Ma_var_41 : decode mm_Ma_var.2.1 41 = .ok (.ireturn, 1) := by decide +kernel
theorem dm_Ma_constant_0 : decode mm_Ma_constant.2.1 0 = .ok (.iload_n 1, 1) := by decide +kernel
theorem dm_Ma_constant_1 : decode mm_Ma_constant.2.1 1 = .ok (.ifCond .lt 11, 3) := by decide +kernel
theorem dm_Ma_constant_4 : decode mm_Ma_constant.2.1 4 = .ok (.iload_n 1, 1) := by decide +kernel
theorem dm_Ma_constant_5 : decode mm_Ma_constant.2.1 5 = .ok (.aload_n 0, 1) := by decide +kernel
theorem dm_Ma_constant_6 : decode mm_Ma_constant.2.1 6 = .ok (.getfield 50, 3) := by decide +kernel
theorem dm_Ma_constant_9 : decode mm_Ma_constant.2.1 9 = .ok (.if_icmp .le 5, 3) := by decide +kernel
theorem dm_Ma_constant_12 : decode mm_Ma_constant.2.1 12 = .ok (.iconst 2, 1) := by decide +kernel
theorem dm_Ma_constant_13 : decode mm_Ma_constant.2.1 13 = .ok (.ireturn, 1) := by decide +kernel
theorem dm_Ma_constant_14 : decode mm_Ma_constant.2.1 14 = .ok (.iload_n 1, 1) := by decide +kernel
theorem dm_Ma_constant_15 : decode mm_Ma_constant.2.1 15 = .ok (.ifCond .eq 27, 3) := by decide +kernel
theorem dm_Ma_constant_18 : decode mm_Ma_constant.2.1 18 = .ok (.aload_n 0, 1) := by decide +kernel
theorem dm_Ma_constant_19 : decode mm_Ma_constant.2.1 19 = .ok (.iconst 0, 1) := by decide +kernel
theorem dm_Ma_constant_20 : decode mm_Ma_constant.2.1 20 = .ok (.aload_n 0, 1) := by decide +kernel
theorem dm_Ma_constant_21 : decode mm_Ma_constant.2.1 21 = .ok (.getfield 10, 3) := by decide +kernel
theorem dm_Ma_constant_24 : decode mm_Ma_constant.2.1 24 = .ok (.bipush 11, 2) := by decide +kernel
theorem dm_Ma_constant_26 : decode mm_Ma_constant.2.1 26 = .ok (.iload_n 1, 1) := by decide +kernel
theorem dm_Ma_constant_27 : decode mm_Ma_constant.2.1 27 = .ok (.aload_n 0, 1) := by decide +kernel
theorem dm_Ma_constant_28 : decode mm_Ma_constant.2.1 28 = .ok (.getfield 39, 3) := by decide +kernel
theorem dm_Ma_constant_31 : decode mm_Ma_constant.2.1 31 = .ok (.iload_n 1, 1) := by decide +kernel
theorem dm_Ma_constant_32 : decode mm_Ma_constant.2.1 32 = .ok (.iconst 1, 1) := by decide +kernel
theorem dm_Ma_constant_33 : decode mm_Ma_constant.2.1 33 = .ok (.isub, 1) := by decide +kernel
theorem dm_Ma_constant_34 : decode mm_Ma_constant.2.1 34 = .ok (.aaload, 1) := by decide +kernel
theorem dm_Ma_constant_35 : decode mm_Ma_constant.2.1 35 = .ok (.invokevirtual 73, 3) := by decide +kernel
theorem dm_Ma_constant_38 : decode mm_Ma_constant.2.1 38 = .ok (.invokevirtual 77, 3) := by decide +kernel
theorem dm_Ma_constant_41 : decode mm_Ma_constant.2.1 41 = .ok (.ireturn, 1) := by decide +kernel
theorem dm_Ma_constant_42 : decode mm_Ma_constant.2.1 42 = .ok (.aload_n 0, 1) := by decide +kernel
theorem dm_Ma_constant_43 : decode mm_Ma_constant.2.1 43 = .ok (.iconst 0, 1) := by decide +kernel
theorem dm_Ma_constant_44 : decode mm_Ma_constant.2.1 44 = .ok (.iconst 0, 1) := by decide +kernel
theorem dm_Ma_constant_45 : decode mm_Ma_constant.2.1 45 = .ok (.invokevirtual 65, 3) := by decide +kernel
theorem dm_Ma_constant_48 : decode mm_Ma_constant.2.1 48 = .ok (.astore_n 2, 1) := by decide +kernel
theorem dm_Ma_constant_49 : decode mm_Ma_constant.2.1 49 = .ok (.aload_n 2, 1) := by decide +kernel
theorem dm_Ma_constant_50 : decode mm_Ma_constant.2.1 50 = .ok (.ifnonnull 5, 3) := by decide +kernel
theorem dm_Ma_constant_53 : decode mm_Ma_constant.2.1 53 = .ok (.iconst 1, 1) := by decide +kernel
theorem dm_Ma_constant_54 : decode mm_Ma_constant.2.1 54 = .ok (.ireturn, 1) := by decide +kernel
theorem dm_Ma_constant_55 : decode mm_Ma_constant.2.1 55 = .ok (.aload_n 0, 1) := by decide +kernel
theorem dm_Ma_constant_56 : decode mm_Ma_constant.2.1 56 = .ok (.iconst 1, 1) := by decide +kernel
theorem dm_Ma_constant_57 : decode mm_Ma_constant.2.1 57 = .ok (.aload_n 0, 1) := by decide +kernel
theorem dm_Ma_constant_58 : decode mm_Ma_constant.2.1 58 = .ok (.getfield 10, 3) := by decide +kernel
theorem dm_Ma_constant_61 : decode mm_Ma_constant.2.1 61 = .ok (.bipush 11, 2) := by decide +kernel
theorem dm_Ma_constant_63 : decode mm_Ma_constant.2.1 63 = .ok (.iconst 0, 1) := by decide +kernel
theorem dm_Ma_constant_64 : decode mm_Ma_constant.2.1 64 = .ok (.aload_n 2, 1) := by decide +kernel
theorem dm_Ma_constant_65 : decode mm_Ma_constant.2.1 65 = .ok (.invokevirtual 73, 3) := by decide +kernel
theorem dm_Ma_constant_68 : decode mm_Ma_constant.2.1 68 = .ok (.invokevirtual 77, 3) := by decide +kernel
theorem dm_Ma_constant_71 : decode mm_Ma_constant.2.1 71 = .ok (.ireturn, 1) := by decide +kernel
theorem dm_Ma_app_0 : decode mm_Ma_app.2.1 0 = .ok (.aload_n 0, 1) := by decide +kernel
theorem dm_Ma_app_1 : decode mm_Ma_app.2.1 1 = .ok (.iconst 1, 1) := by decide +kernel
theorem dm_Ma_app_2 : decode mm_Ma_app.2.1 2 = .ok (.iconst 1, 1) := by decide +kernel
theorem dm_Ma_app_3 : decode mm_Ma_app.2.1 3 = .ok (.invokevirtual 65, 3) := by decide +kernel
theorem dm_Ma_app_6 : decode mm_Ma_app.2.1 6 = .ok (.astore_n 1, 1) := by decide +kernel
theorem dm_Ma_app_7 : decode mm_Ma_app.2.1 7 = .ok (.aload_n 0, 1) := by decide +kernel
theorem dm_Ma_app_8 : decode mm_Ma_app.2.1 8 = .ok (.iconst 0, 1) := by decide +kernel
theorem dm_Ma_app_9 : decode mm_Ma_app.2.1 9 = .ok (.iconst 1, 1) := by decide +kernel
theorem dm_Ma_app_10 : decode mm_Ma_app.2.1 10 = .ok (.invokevirtual 65, 3) := by decide +kernel
theorem dm_Ma_app_13 : decode mm_Ma_app.2.1 13 = .ok (.astore_n 2, 1) := by decide +kernel
theorem dm_Ma_app_14 : decode mm_Ma_app.2.1 14 = .ok (.aload_n 1, 1) := by decide +kernel
theorem dm_Ma_app_15 : decode mm_Ma_app.2.1 15 = .ok (.ifnull 7, 3) := by decide +kernel
theorem dm_Ma_app_18 : decode mm_Ma_app.2.1 18 = .ok (.aload_n 2, 1) := by decide +kernel
theorem dm_Ma_app_19 : decode mm_Ma_app.2.1 19 = .ok (.ifnonnull 5, 3) := by decide +kernel
theorem dm_Ma_app_22 : decode mm_Ma_app.2.1 22 = .ok (.iconst 1, 1) := by decide +kernel
theorem dm_Ma_app_23 : decode mm_Ma_app.2.1 23 = .ok (.ireturn, 1) := by decide +kernel
theorem dm_Ma_app_24 : decode mm_Ma_app.2.1 24 = .ok (.aload_n 0, 1) := by decide +kernel
theorem dm_Ma_app_25 : decode mm_Ma_app.2.1 25 = .ok (.aload_n 0, 1) := by decide +kernel
theorem dm_Ma_app_26 : decode mm_Ma_app.2.1 26 = .ok (.getfield 10, 3) := by decide +kernel
theorem dm_Ma_app_29 : decode mm_Ma_app.2.1 29 = .ok (.aload_n 1, 1) := by decide +kernel
theorem dm_Ma_app_30 : decode mm_Ma_app.2.1 30 = .ok (.invokevirtual 80, 3) := by decide +kernel
theorem dm_Ma_app_33 : decode mm_Ma_app.2.1 33 = .ok (.aload_n 0, 1) := by decide +kernel
theorem dm_Ma_app_34 : decode mm_Ma_app.2.1 34 = .ok (.getfield 10, 3) := by decide +kernel
theorem dm_Ma_app_37 : decode mm_Ma_app.2.1 37 = .ok (.aload_n 2, 1) := by decide +kernel
theorem dm_Ma_app_38 : decode mm_Ma_app.2.1 38 = .ok (.invokevirtual 80, 3) := by decide +kernel
theorem dm_Ma_app_41 : decode mm_Ma_app.2.1 41 = .ok (.invokevirtual 84, 3) := by decide +kernel
theorem dm_Ma_app_44 : decode mm_Ma_app.2.1 44 = .ok (.ifCond .ne 5, 3) := by decide +kernel
theorem dm_Ma_app_47 : decode mm_Ma_app.2.1 47 = .ok (.iconst 2, 1) := by decide +kernel
theorem dm_Ma_app_48 : decode mm_Ma_app.2.1 48 = .ok (.ireturn, 1) := by decide +kernel
theorem dm_Ma_app_49 : decode mm_Ma_app.2.1 49 = .ok (.aload_n 0, 1) := by decide +kernel
theorem dm_Ma_app_50 : decode mm_Ma_app.2.1 50 = .ok (.iconst 2, 1) := by decide +kernel
theorem dm_Ma_app_51 : decode mm_Ma_app.2.1 51 = .ok (.aload_n 0, 1) := by decide +kernel
theorem dm_Ma_app_52 : decode mm_Ma_app.2.1 52 = .ok (.getfield 10, 3) := by decide +kernel
theorem dm_Ma_app_55 : decode mm_Ma_app.2.1 55 = .ok (.aload_n 1, 1) := by decide +kernel
theorem dm_Ma_app_56 : decode mm_Ma_app.2.1 56 = .ok (.aload_n 2, 1) := by decide +kernel
theorem dm_Ma_app_57 : decode mm_Ma_app.2.1 57 = .ok (.invokevirtual 88, 3) := by decide +kernel
theorem dm_Ma_app_60 : decode mm_Ma_app.2.1 60 = .ok (.invokevirtual 77, 3) := by decide +kernel
theorem dm_Ma_app_63 : decode mm_Ma_app.2.1 63 = .ok (.ireturn, 1) := by decide +kernel
theorem dm_Ma_abs_0 : decode mm_Ma_abs.2.1 0 = .ok (.aload_n 0, 1) := by decide +kernel
theorem dm_Ma_abs_1 : decode mm_Ma_abs.2.1 1 = .ok (.iconst 1, 1) := by decide +kernel
theorem dm_Ma_abs_2 : decode mm_Ma_abs.2.1 2 = .ok (.invokevirtual 91, 3) := by decide +kernel
theorem dm_Ma_abs_5 : decode mm_Ma_abs.2.1 5 = .ok (.astore_n 1, 1) := by decide +kernel
theorem dm_Ma_abs_6 : decode mm_Ma_abs.2.1 6 = .ok (.aload_n 0, 1) := by decide +kernel
theorem dm_Ma_abs_7 : decode mm_Ma_abs.2.1 7 = .ok (.iconst 0, 1) := by decide +kernel
theorem dm_Ma_abs_8 : decode mm_Ma_abs.2.1 8 = .ok (.iconst 1, 1) := by decide +kernel
theorem dm_Ma_abs_9 : decode mm_Ma_abs.2.1 9 = .ok (.invokevirtual 65, 3) := by decide +kernel
theorem dm_Ma_abs_12 : decode mm_Ma_abs.2.1 12 = .ok (.astore_n 2, 1) := by decide +kernel
theorem dm_Ma_abs_13 : decode mm_Ma_abs.2.1 13 = .ok (.aload_n 1, 1) := by decide +kernel
theorem dm_Ma_abs_14 : decode mm_Ma_abs.2.1 14 = .ok (.ifnull 7, 3) := by decide +kernel
theorem dm_Ma_abs_17 : decode mm_Ma_abs.2.1 17 = .ok (.aload_n 2, 1) := by decide +kernel
theorem dm_Ma_abs_18 : decode mm_Ma_abs.2.1 18 = .ok (.ifnonnull 5, 3) := by decide +kernel
theorem dm_Ma_abs_21 : decode mm_Ma_abs.2.1 21 = .ok (.iconst 1, 1) := by decide +kernel
theorem dm_Ma_abs_22 : decode mm_Ma_abs.2.1 22 = .ok (.ireturn, 1) := by decide +kernel
theorem dm_Ma_abs_23 : decode mm_Ma_abs.2.1 23 = .ok (.aload_n 0, 1) := by decide +kernel
theorem dm_Ma_abs_24 : decode mm_Ma_abs.2.1 24 = .ok (.iconst 2, 1) := by decide +kernel
theorem dm_Ma_abs_25 : decode mm_Ma_abs.2.1 25 = .ok (.aload_n 0, 1) := by decide +kernel
theorem dm_Ma_abs_26 : decode mm_Ma_abs.2.1 26 = .ok (.getfield 10, 3) := by decide +kernel
theorem dm_Ma_abs_29 : decode mm_Ma_abs.2.1 29 = .ok (.aload_n 1, 1) := by decide +kernel
theorem dm_Ma_abs_30 : decode mm_Ma_abs.2.1 30 = .ok (.aload_n 2, 1) := by decide +kernel
theorem dm_Ma_abs_31 : decode mm_Ma_abs.2.1 31 = .ok (.invokevirtual 94, 3) := by decide +kernel
theorem dm_Ma_abs_34 : decode mm_Ma_abs.2.1 34 = .ok (.invokevirtual 77, 3) := by decide +kernel
theorem dm_Ma_abs_37 : decode mm_Ma_abs.2.1 37 = .ok (.ireturn, 1) := by decide +kernel
theorem dm_Ma_theorem_0 : decode mm_Ma_theorem.2.1 0 = .ok (.aload_n 0, 1) := by decide +kernel
theorem dm_Ma_theorem_1 : decode mm_Ma_theorem.2.1 1 = .ok (.iconst 0, 1) := by decide +kernel
theorem dm_Ma_theorem_2 : decode mm_Ma_theorem.2.1 2 = .ok (.iconst 1, 1) := by decide +kernel
theorem dm_Ma_theorem_3 : decode mm_Ma_theorem.2.1 3 = .ok (.invokevirtual 65, 3) := by decide +kernel
theorem dm_Ma_theorem_6 : decode mm_Ma_theorem.2.1 6 = .ok (.astore_n 2, 1) := by decide +kernel
theorem dm_Ma_theorem_7 : decode mm_Ma_theorem.2.1 7 = .ok (.aload_n 2, 1) := by decide +kernel
theorem dm_Ma_theorem_8 : decode mm_Ma_theorem.2.1 8 = .ok (.ifnonnull 5, 3) := by decide +kernel
theorem dm_Ma_theorem_11 : decode mm_Ma_theorem.2.1 11 = .ok (.iconst 1, 1) := by decide +kernel
theorem dm_Ma_theorem_12 : decode mm_Ma_theorem.2.1 12 = .ok (.ireturn, 1) := by decide +kernel
theorem dm_Ma_theorem_13 : decode mm_Ma_theorem.2.1 13 = .ok (.iload_n 1, 1) := by decide +kernel
theorem dm_Ma_theorem_14 : decode mm_Ma_theorem.2.1 14 = .ok (.tableswitch 85 0 4 #[34, 61, 67, 73, 79], 34) := by decide +kernel
theorem dm_Ma_theorem_48 : decode mm_Ma_theorem.2.1 48 = .ok (.aload_n 0, 1) := by decide +kernel
theorem dm_Ma_theorem_49 : decode mm_Ma_theorem.2.1 49 = .ok (.iconst 1, 1) := by decide +kernel
theorem dm_Ma_theorem_50 : decode mm_Ma_theorem.2.1 50 = .ok (.aload_n 0, 1) := by decide +kernel
theorem dm_Ma_theorem_51 : decode mm_Ma_theorem.2.1 51 = .ok (.getfield 46, 3) := by decide +kernel
theorem dm_Ma_theorem_54 : decode mm_Ma_theorem.2.1 54 = .ok (.aload_n 0, 1) := by decide +kernel
theorem dm_Ma_theorem_55 : decode mm_Ma_theorem.2.1 55 = .ok (.getfield 10, 3) := by decide +kernel
theorem dm_Ma_theorem_58 : decode mm_Ma_theorem.2.1 58 = .ok (.aload_n 0, 1) := by decide +kernel
theorem dm_Ma_theorem_59 : decode mm_Ma_theorem.2.1 59 = .ok (.getfield 10, 3) := by decide +kernel
theorem dm_Ma_theorem_62 : decode mm_Ma_theorem.2.1 62 = .ok (.aload_n 2, 1) := by decide +kernel
theorem dm_Ma_theorem_63 : decode mm_Ma_theorem.2.1 63 = .ok (.invokevirtual 80, 3) := by decide +kernel
theorem dm_Ma_theorem_66 : decode mm_Ma_theorem.2.1 66 = .ok (.aload_n 2, 1) := by decide +kernel
theorem dm_Ma_theorem_67 : decode mm_Ma_theorem.2.1 67 = .ok (.aload_n 2, 1) := by decide +kernel
theorem dm_Ma_theorem_68 : decode mm_Ma_theorem.2.1 68 = .ok (.invokevirtual 97, 3) := by decide +kernel
theorem dm_Ma_theorem_71 : decode mm_Ma_theorem.2.1 71 = .ok (.invokevirtual 101, 3) := by decide +kernel
theorem dm_Ma_theorem_74 : decode mm_Ma_theorem.2.1 74 = .ok (.ireturn, 1) := by decide +kernel
theorem dm_Ma_theorem_75 : decode mm_Ma_theorem.2.1 75 = .ok (.aload_n 0, 1) := by decide +kernel
theorem dm_Ma_theorem_76 : decode mm_Ma_theorem.2.1 76 = .ok (.aload_n 2, 1) := by decide +kernel
theorem dm_Ma_theorem_77 : decode mm_Ma_theorem.2.1 77 = .ok (.invokevirtual 105, 3) := by decide +kernel
theorem dm_Ma_theorem_80 : decode mm_Ma_theorem.2.1 80 = .ok (.ireturn, 1) := by decide +kernel
theorem dm_Ma_theorem_81 : decode mm_Ma_theorem.2.1 81 = .ok (.aload_n 0, 1) := by decide +kernel
theorem dm_Ma_theorem_82 : decode mm_Ma_theorem.2.1 82 = .ok (.aload_n 2, 1) := by decide +kernel
theorem dm_Ma_theorem_83 : decode mm_Ma_theorem.2.1 83 = .ok (.invokevirtual 109, 3) := by decide +kernel
theorem dm_Ma_theorem_86 : decode mm_Ma_theorem.2.1 86 = .ok (.ireturn, 1) := by decide +kernel
theorem dm_Ma_theorem_87 : decode mm_Ma_theorem.2.1 87 = .ok (.aload_n 0, 1) := by decide +kernel
theorem dm_Ma_theorem_88 : decode mm_Ma_theorem.2.1 88 = .ok (.aload_n 2, 1) := by decide +kernel
theorem dm_Ma_theorem_89 : decode mm_Ma_theorem.2.1 89 = .ok (.invokevirtual 112, 3) := by decide +kernel
theorem dm_Ma_theorem_92 : decode mm_Ma_theorem.2.1 92 = .ok (.ireturn, 1) := by decide +kernel
theorem dm_Ma_theorem_93 : decode mm_Ma_theorem.2.1 93 = .ok (.aload_n 0, 1) := by decide +kernel
theorem dm_Ma_theorem_94 : decode mm_Ma_theorem.2.1 94 = .ok (.aload_n 2, 1) := by decide +kernel
theorem dm_Ma_theorem_95 : decode mm_Ma_theorem.2.1 95 = .ok (.invokevirtual 115, 3) := by decide +kernel
theorem dm_Ma_theorem_98 : decode mm_Ma_theorem.2.1 98 = .ok (.ireturn, 1) := by decide +kernel
theorem dm_Ma_theorem_99 : decode mm_Ma_theorem.2.1 99 = .ok (.iconst 2, 1) := by decide +kernel
theorem dm_Ma_theorem_100 : decode mm_Ma_theorem.2.1 100 = .ok (.ireturn, 1) := by decide +kernel
theorem dm_Ma_join_0 : decode mm_Ma_join.2.1 0 = .ok (.aload_n 0, 1) := by decide +kernel
theorem dm_Ma_join_1 : decode mm_Ma_join.2.1 1 = .ok (.iconst 1, 1) := by decide +kernel
theorem dm_Ma_join_2 : decode mm_Ma_join.2.1 2 = .ok (.iconst 2, 1) := by decide +kernel
theorem dm_Ma_join_3 : decode mm_Ma_join.2.1 3 = .ok (.invokevirtual 118, 3) := by decide +kernel
theorem dm_Ma_join_6 : decode mm_Ma_join.2.1 6 = .ok (.astore_n 2, 1) := by decide +kernel
theorem dm_Ma_join_7 : decode mm_Ma_join.2.1 7 = .ok (.aload_n 0, 1) := by decide +kernel
theorem dm_Ma_join_8 : decode mm_Ma_join.2.1 8 = .ok (.iconst 0, 1) := by decide +kernel
theorem dm_Ma_join_9 : decode mm_Ma_join.2.1 9 = .ok (.iconst 2, 1) := by decide +kernel
theorem dm_Ma_join_10 : decode mm_Ma_join.2.1 10 = .ok (.invokevirtual 118, 3) := by decide +kernel
theorem dm_Ma_join_13 : decode mm_Ma_join.2.1 13 = .ok (.astore_n 3, 1) := by decide +kernel
theorem dm_Ma_join_14 : decode mm_Ma_join.2.1 14 = .ok (.aload_n 2, 1) := by decide +kernel
theorem dm_Ma_join_15 : decode mm_Ma_join.2.1 15 = .ok (.ifnull 7, 3) := by decide +kernel
theorem dm_Ma_join_18 : decode mm_Ma_join.2.1 18 = .ok (.aload_n 3, 1) := by decide +kernel
theorem dm_Ma_join_19 : decode mm_Ma_join.2.1 19 = .ok (.ifnonnull 5, 3) := by decide +kernel
theorem dm_Ma_join_22 : decode mm_Ma_join.2.1 22 = .ok (.iconst 1, 1) := by decide +kernel
theorem dm_Ma_join_23 : decode mm_Ma_join.2.1 23 = .ok (.ireturn, 1) := by decide +kernel
theorem dm_Ma_join_24 : decode mm_Ma_join.2.1 24 = .ok (.iload_n 1, 1) := by decide +kernel
theorem dm_Ma_join_25 : decode mm_Ma_join.2.1 25 = .ok (.tableswitch 48 0 2 #[27, 34, 41], 27) := by decide +kernel
theorem dm_Ma_join_52 : decode mm_Ma_join.2.1 52 = .ok (.aload_n 0, 1) := by decide +kernel
theorem dm_Ma_join_53 : decode mm_Ma_join.2.1 53 = .ok (.aload_n 2, 1) := by decide +kernel
theorem dm_Ma_join_54 : decode mm_Ma_join.2.1 54 = .ok (.aload_n 3, 1) := by decide +kernel
theorem dm_Ma_join_55 : decode mm_Ma_join.2.1 55 = .ok (.invokevirtual 122, 3) := by decide +kernel
theorem dm_Ma_join_58 : decode mm_Ma_join.2.1 58 = .ok (.ireturn, 1) := by decide +kernel
theorem dm_Ma_join_59 : decode mm_Ma_join.2.1 59 = .ok (.aload_n 0, 1) := by decide +kernel
theorem dm_Ma_join_60 : decode mm_Ma_join.2.1 60 = .ok (.aload_n 2, 1) := by decide +kernel
theorem dm_Ma_join_61 : decode mm_Ma_join.2.1 61 = .ok (.aload_n 3, 1) := by decide +kernel
theorem dm_Ma_join_62 : decode mm_Ma_join.2.1 62 = .ok (.invokevirtual 126, 3) := by decide +kernel
theorem dm_Ma_join_65 : decode mm_Ma_join.2.1 65 = .ok (.ireturn, 1) := by decide +kernel
theorem dm_Ma_join_66 : decode mm_Ma_join.2.1 66 = .ok (.aload_n 0, 1) := by decide +kernel
theorem dm_Ma_join_67 : decode mm_Ma_join.2.1 67 = .ok (.aload_n 2, 1) := by decide +kernel
theorem dm_Ma_join_68 : decode mm_Ma_join.2.1 68 = .ok (.aload_n 3, 1) := by decide +kernel
theorem dm_Ma_join_69 : decode mm_Ma_join.2.1 69 = .ok (.invokevirtual 129, 3) := by decide +kernel
theorem dm_Ma_join_72 : decode mm_Ma_join.2.1 72 = .ok (.ireturn, 1) := by decide +kernel
theorem dm_Ma_join_73 : decode mm_Ma_join.2.1 73 = .ok (.iconst 2, 1) := by decide +kernel
theorem dm_Ma_join_74 : decode mm_Ma_join.2.1 74 = .ok (.ireturn, 1) := by decide +kernel
theorem dm_Ma_absThm_0 : decode mm_Ma_absThm.2.1 0 = .ok (.aload_n 0, 1) := by decide +kernel
theorem dm_Ma_absThm_1 : decode mm_Ma_absThm.2.1 1 = .ok (.iconst 1, 1) := by decide +kernel
theorem dm_Ma_absThm_2 : decode mm_Ma_absThm.2.1 2 = .ok (.invokevirtual 91, 3) := by decide +kernel
theorem dm_Ma_absThm_5 : decode mm_Ma_absThm.2.1 5 = .ok (.astore_n 1, 1) := by decide +kernel
theorem dm_Ma_absThm_6 : decode mm_Ma_absThm.2.1 6 = .ok (.aload_n 0, 1) := by decide +kernel
theorem dm_Ma_absThm_7 : decode mm_Ma_absThm.2.1 7 = .ok (.iconst 0, 1) := by decide +kernel
theorem dm_Ma_absThm_8 : decode mm_Ma_absThm.2.1 8 = .ok (.iconst 2, 1) := by decide +kernel
theorem dm_Ma_absThm_9 : decode mm_Ma_absThm.2.1 9 = .ok (.invokevirtual 118, 3) := by decide +kernel
theorem dm_Ma_absThm_12 : decode mm_Ma_absThm.2.1 12 = .ok (.astore_n 2, 1) := by decide +kernel
theorem dm_Ma_absThm_13 : decode mm_Ma_absThm.2.1 13 = .ok (.aload_n 1, 1) := by decide +kernel
theorem dm_Ma_absThm_14 : decode mm_Ma_absThm.2.1 14 = .ok (.ifnull 7, 3) := by decide +kernel
theorem dm_Ma_absThm_17 : decode mm_Ma_absThm.2.1 17 = .ok (.aload_n 2, 1) := by decide +kernel
theorem dm_Ma_absThm_18 : decode mm_Ma_absThm.2.1 18 = .ok (.ifnonnull 5, 3) := by decide +kernel
theorem dm_Ma_absThm_21 : decode mm_Ma_absThm.2.1 21 = .ok (.iconst 1, 1) := by decide +kernel
theorem dm_Ma_absThm_22 : decode mm_Ma_absThm.2.1 22 = .ok (.ireturn, 1) := by decide +kernel
theorem dm_Ma_absThm_23 : decode mm_Ma_absThm.2.1 23 = .ok (.aload_n 0, 1) := by decide +kernel
theorem dm_Ma_absThm_24 : decode mm_Ma_absThm.2.1 24 = .ok (.aload_n 2, 1) := by decide +kernel
theorem dm_Ma_absThm_25 : decode mm_Ma_absThm.2.1 25 = .ok (.getfield 132, 3) := by decide +kernel
theorem dm_Ma_absThm_28 : decode mm_Ma_absThm.2.1 28 = .ok (.invokevirtual 136, 3) := by decide +kernel
theorem dm_Ma_absThm_31 : decode mm_Ma_absThm.2.1 31 = .ok (.astore_n 3, 1) := by decide +kernel
theorem dm_Ma_absThm_32 : decode mm_Ma_absThm.2.1 32 = .ok (.aload_n 3, 1) := by decide +kernel
theorem dm_Ma_absThm_33 : decode mm_Ma_absThm.2.1 33 = .ok (.ifnonnull 5, 3) := by decide +kernel
theorem dm_Ma_absThm_36 : decode mm_Ma_absThm.2.1 36 = .ok (.iconst 2, 1) := by decide +kernel
theorem dm_Ma_absThm_37 : decode mm_Ma_absThm.2.1 37 = .ok (.ireturn, 1) := by decide +kernel
theorem dm_Ma_absThm_38 : decode mm_Ma_absThm.2.1 38 = .ok (.aload_n 2, 1) := by decide +kernel
theorem dm_Ma_absThm_39 : decode mm_Ma_absThm.2.1 39 = .ok (.getfield 140, 3) := by decide +kernel
theorem dm_Ma_absThm_42 : decode mm_Ma_absThm.2.1 42 = .ok (.aload_n 1, 1) := by decide +kernel
theorem dm_Ma_absThm_43 : decode mm_Ma_absThm.2.1 43 = .ok (.invokevirtual 143, 3) := by decide +kernel
theorem dm_Ma_absThm_46 : decode mm_Ma_absThm.2.1 46 = .ok (.ifCond .eq 5, 3) := by decide +kernel
theorem dm_Ma_absThm_49 : decode mm_Ma_absThm.2.1 49 = .ok (.iconst 3, 1) := by decide +kernel
theorem dm_Ma_absThm_50 : decode mm_Ma_absThm.2.1 50 = .ok (.ireturn, 1) := by decide +kernel
theorem dm_Ma_absThm_51 : decode mm_Ma_absThm.2.1 51 = .ok (.aload_n 0, 1) := by decide +kernel
theorem dm_Ma_absThm_52 : decode mm_Ma_absThm.2.1 52 = .ok (.getfield 10, 3) := by decide +kernel
theorem dm_Ma_absThm_55 : decode mm_Ma_absThm.2.1 55 = .ok (.aload_n 1, 1) := by decide +kernel
theorem dm_Ma_absThm_56 : decode mm_Ma_absThm.2.1 56 = .ok (.aload_n 3, 1) := by decide +kernel
theorem dm_Ma_absThm_57 : decode mm_Ma_absThm.2.1 57 = .ok (.getfield 147, 3) := by decide +kernel
theorem dm_Ma_absThm_60 : decode mm_Ma_absThm.2.1 60 = .ok (.invokevirtual 94, 3) := by decide +kernel
theorem dm_Ma_absThm_63 : decode mm_Ma_absThm.2.1 63 = .ok (.astore 4, 2) := by decide +kernel
theorem dm_Ma_absThm_65 : decode mm_Ma_absThm.2.1 65 = .ok (.aload_n 0, 1) := by decide +kernel
theorem dm_Ma_absThm_66 : decode mm_Ma_absThm.2.1 66 = .ok (.getfield 10, 3) := by decide +kernel
theorem dm_Ma_absThm_69 : decode mm_Ma_absThm.2.1 69 = .ok (.aload_n 1, 1) := by decide +kernel
theorem dm_Ma_absThm_70 : decode mm_Ma_absThm.2.1 70 = .ok (.aload_n 3, 1) := by decide +kernel
theorem dm_Ma_absThm_71 : decode mm_Ma_absThm.2.1 71 = .ok (.getfield 152, 3) := by decide +kernel
theorem dm_Ma_absThm_74 : decode mm_Ma_absThm.2.1 74 = .ok (.invokevirtual 94, 3) := by decide +kernel
theorem dm_Ma_absThm_77 : decode mm_Ma_absThm.2.1 77 = .ok (.astore 5, 2) := by decide +kernel
theorem dm_Ma_absThm_79 : decode mm_Ma_absThm.2.1 79 = .ok (.aload_n 0, 1) := by decide +kernel
theorem dm_Ma_absThm_80 : decode mm_Ma_absThm.2.1 80 = .ok (.getfield 10, 3) := by decide +kernel
theorem dm_Ma_absThm_83 : decode mm_Ma_absThm.2.1 83 = .ok (.aload_n 0, 1) := by decide +kernel
theorem dm_Ma_absThm_84 : decode mm_Ma_absThm.2.1 84 = .ok (.getfield 10, 3) := by decide +kernel
theorem dm_Ma_absThm_87 : decode mm_Ma_absThm.2.1 87 = .ok (.aload_n 1, 1) := by decide +kernel
theorem dm_Ma_absThm_88 : decode mm_Ma_absThm.2.1 88 = .ok (.invokevirtual 80, 3) := by decide +kernel
theorem dm_Ma_absThm_91 : decode mm_Ma_absThm.2.1 91 = .ok (.aload_n 3, 1) := by decide +kernel
theorem dm_Ma_absThm_92 : decode mm_Ma_absThm.2.1 92 = .ok (.getfield 155, 3) := by decide +kernel
theorem dm_Ma_absThm_95 : decode mm_Ma_absThm.2.1 95 = .ok (.invokevirtual 69, 3) := by decide +kernel
theorem dm_Ma_absThm_98 : decode mm_Ma_absThm.2.1 98 = .ok (.astore 6, 2) := by decide +kernel
theorem dm_Ma_absThm_100 : decode mm_Ma_absThm.2.1 100 = .ok (.aload_n 0, 1) := by decide +kernel
theorem dm_Ma_absThm_101 : decode mm_Ma_absThm.2.1 101 = .ok (.iconst 2, 1) := by decide +kernel
theorem dm_Ma_absThm_102 : decode mm_Ma_absThm.2.1 102 = .ok (.aload_n 2, 1) := by decide +kernel
theorem dm_Ma_absThm_103 : decode mm_Ma_absThm.2.1 103 = .ok (.getfield 140, 3) := by decide +kernel
theorem dm_Ma_absThm_106 : decode mm_Ma_absThm.2.1 106 = .ok (.aload_n 0, 1) := by decide +kernel
theorem dm_Ma_absThm_107 : decode mm_Ma_absThm.2.1 107 = .ok (.getfield 10, 3) := by decide +kernel
theorem dm_Ma_absThm_110 : decode mm_Ma_absThm.2.1 110 = .ok (.aload 6, 2) := by decide +kernel
theorem dm_Ma_absThm_112 : decode mm_Ma_absThm.2.1 112 = .ok (.aload 4, 2) := by decide +kernel
theorem dm_Ma_absThm_114 : decode mm_Ma_absThm.2.1 114 = .ok (.aload 5, 2) := by decide +kernel
theorem dm_Ma_absThm_116 : decode mm_Ma_absThm.2.1 116 = .ok (.invokevirtual 97, 3) := by decide +kernel
theorem dm_Ma_absThm_119 : decode mm_Ma_absThm.2.1 119 = .ok (.invokevirtual 101, 3) := by decide +kernel
theorem dm_Ma_absThm_122 : decode mm_Ma_absThm.2.1 122 = .ok (.ireturn, 1) := by decide +kernel
theorem dm_Ma_inst_0 : decode mm_Ma_inst.2.1 0 = .ok (.aload_n 0, 1) := by decide +kernel
theorem dm_Ma_inst_1 : decode mm_Ma_inst.2.1 1 = .ok (.iconst 2, 1) := by decide +kernel
theorem dm_Ma_inst_2 : decode mm_Ma_inst.2.1 2 = .ok (.invokevirtual 91, 3) := by decide +kernel
theorem dm_Ma_inst_5 : decode mm_Ma_inst.2.1 5 = .ok (.astore_n 1, 1) := by decide +kernel
theorem dm_Ma_inst_6 : decode mm_Ma_inst.2.1 6 = .ok (.aload_n 0, 1) := by decide +kernel
theorem dm_Ma_inst_7 : decode mm_Ma_inst.2.1 7 = .ok (.iconst 1, 1) := by decide +kernel
theorem dm_Ma_inst_8 : decode mm_Ma_inst.2.1 8 = .ok (.iconst 1, 1) := by decide +kernel
theorem dm_Ma_inst_9 : decode mm_Ma_inst.2.1 9 = .ok (.invokevirtual 65, 3) := by decide +kernel
theorem dm_Ma_inst_12 : decode mm_Ma_inst.2.1 12 = .ok (.astore_n 2, 1) := by decide +kernel
theorem dm_Ma_inst_13 : decode mm_Ma_inst.2.1 13 = .ok (.aload_n 0, 1) := by decide +kernel
theorem dm_Ma_inst_14 : decode mm_Ma_inst.2.1 14 = .ok (.iconst 0, 1) := by decide +kernel
theorem dm_Ma_inst_15 : decode mm_Ma_inst.2.1 15 = .ok (.iconst 2, 1) := by decide +kernel
theorem dm_Ma_inst_16 : decode mm_Ma_inst.2.1 16 = .ok (.invokevirtual 118, 3) := by decide +kernel
theorem dm_Ma_inst_19 : decode mm_Ma_inst.2.1 19 = .ok (.astore_n 3, 1) := by decide +kernel
theorem dm_Ma_inst_20 : decode mm_Ma_inst.2.1 20 = .ok (.aload_n 1, 1) := by decide +kernel
theorem dm_Ma_inst_21 : decode mm_Ma_inst.2.1 21 = .ok (.ifnull 11, 3) := by decide +kernel
theorem dm_Ma_inst_24 : decode mm_Ma_inst.2.1 24 = .ok (.aload_n 2, 1) := by decide +kernel
theorem dm_Ma_inst_25 : decode mm_Ma_inst.2.1 25 = .ok (.ifnull 7, 3) := by decide +kernel
theorem dm_Ma_inst_28 : decode mm_Ma_inst.2.1 28 = .ok (.aload_n 3, 1) := by decide +kernel
theorem dm_Ma_inst_29 : decode mm_Ma_inst.2.1 29 = .ok (.ifnonnull 5, 3) := by decide +kernel
theorem dm_Ma_inst_32 : decode mm_Ma_inst.2.1 32 = .ok (.iconst 1, 1) := by decide +kernel
theorem dm_Ma_inst_33 : decode mm_Ma_inst.2.1 33 = .ok (.ireturn, 1) := by decide +kernel
theorem dm_Ma_inst_34 : decode mm_Ma_inst.2.1 34 = .ok (.aload_n 0, 1) := by decide +kernel
theorem dm_Ma_inst_35 : decode mm_Ma_inst.2.1 35 = .ok (.getfield 10, 3) := by decide +kernel
theorem dm_Ma_inst_38 : decode mm_Ma_inst.2.1 38 = .ok (.aload_n 1, 1) := by decide +kernel
theorem dm_Ma_inst_39 : decode mm_Ma_inst.2.1 39 = .ok (.invokevirtual 80, 3) := by decide +kernel
theorem dm_Ma_inst_42 : decode mm_Ma_inst.2.1 42 = .ok (.aload_n 0, 1) := by decide +kernel
theorem dm_Ma_inst_43 : decode mm_Ma_inst.2.1 43 = .ok (.getfield 10, 3) := by decide +kernel
theorem dm_Ma_inst_46 : decode mm_Ma_inst.2.1 46 = .ok (.aload_n 2, 1) := by decide +kernel
theorem dm_Ma_inst_47 : decode mm_Ma_inst.2.1 47 = .ok (.invokevirtual 80, 3) := by decide +kernel
theorem dm_Ma_inst_50 : decode mm_Ma_inst.2.1 50 = .ok (.invokevirtual 158, 3) := by decide +kernel
theorem dm_Ma_inst_53 : decode mm_Ma_inst.2.1 53 = .ok (.ifCond .ne 5, 3) := by decide +kernel
theorem dm_Ma_inst_56 : decode mm_Ma_inst.2.1 56 = .ok (.iconst 2, 1) := by decide +kernel
theorem dm_Ma_inst_57 : decode mm_Ma_inst.2.1 57 = .ok (.ireturn, 1) := by decide +kernel
theorem dm_Ma_inst_58 : decode mm_Ma_inst.2.1 58 = .ok (.new 43, 3) := by decide +kernel
theorem dm_Ma_inst_61 : decode mm_Ma_inst.2.1 61 = .ok (.dup, 1) := by decide +kernel
theorem dm_Ma_inst_62 : decode mm_Ma_inst.2.1 62 = .ok (.invokespecial 45, 3) := by decide +kernel
theorem dm_Ma_inst_65 : decode mm_Ma_inst.2.1 65 = .ok (.astore 4, 2) := by decide +kernel
theorem dm_Ma_inst_67 : decode mm_Ma_inst.2.1 67 = .ok (.iconst 0, 1) := by decide +kernel
theorem dm_Ma_inst_68 : decode mm_Ma_inst.2.1 68 = .ok (.istore 5, 2) := by decide +kernel
theorem dm_Ma_inst_70 : decode mm_Ma_inst.2.1 70 = .ok (.iload 5, 2) := by decide +kernel
theorem dm_Ma_inst_72 : decode mm_Ma_inst.2.1 72 = .ok (.aload_n 3, 1) := by decide +kernel
theorem dm_Ma_inst_73 : decode mm_Ma_inst.2.1 73 = .ok (.getfield 140, 3) := by decide +kernel
theorem dm_Ma_inst_76 : decode mm_Ma_inst.2.1 76 = .ok (.getfield 161, 3) := by decide +kernel
theorem dm_Ma_inst_79 : decode mm_Ma_inst.2.1 79 = .ok (.if_icmp .ge 33, 3) := by decide +kernel
theorem dm_Ma_inst_82 : decode mm_Ma_inst.2.1 82 = .ok (.aload 4, 2) := by decide +kernel
theorem dm_Ma_inst_84 : decode mm_Ma_inst.2.1 84 = .ok (.aload_n 0, 1) := by decide +kernel
theorem dm_Ma_inst_85 : decode mm_Ma_inst.2.1 85 = .ok (.getfield 10, 3) := by decide +kernel
theorem dm_Ma_inst_88 : decode mm_Ma_inst.2.1 88 = .ok (.aload_n 3, 1) := by decide +kernel
theorem dm_Ma_inst_89 : decode mm_Ma_inst.2.1 89 = .ok (.getfield 140, 3) := by decide +kernel
theorem dm_Ma_inst_92 : decode mm_Ma_inst.2.1 92 = .ok (.getfield 164, 3) := by decide +kernel
theorem dm_Ma_inst_95 : decode mm_Ma_inst.2.1 95 = .ok (.iload 5, 2) := by decide +kernel
theorem dm_Ma_inst_97 : decode mm_Ma_inst.2.1 97 = .ok (.aaload, 1) := by decide +kernel
theorem dm_Ma_inst_98 : decode mm_Ma_inst.2.1 98 = .ok (.aload_n 1, 1) := by decide +kernel
theorem dm_Ma_inst_99 : decode mm_Ma_inst.2.1 99 = .ok (.aload_n 2, 1) := by decide +kernel
theorem dm_Ma_inst_100 : decode mm_Ma_inst.2.1 100 = .ok (.invokevirtual 167, 3) := by decide +kernel
theorem dm_Ma_inst_103 : decode mm_Ma_inst.2.1 103 = .ok (.invokevirtual 170, 3) := by decide +kernel
theorem dm_Ma_inst_106 : decode mm_Ma_inst.2.1 106 = .ok (.iinc 5 1, 3) := by decide +kernel
theorem dm_Ma_inst_109 : decode mm_Ma_inst.2.1 109 = .ok (.goto (-39), 3) := by decide +kernel
theorem dm_Ma_inst_112 : decode mm_Ma_inst.2.1 112 = .ok (.aload_n 0, 1) := by decide +kernel
theorem dm_Ma_inst_113 : decode mm_Ma_inst.2.1 113 = .ok (.iconst 3, 1) := by decide +kernel
theorem dm_Ma_inst_114 : decode mm_Ma_inst.2.1 114 = .ok (.aload 4, 2) := by decide +kernel
theorem dm_Ma_inst_116 : decode mm_Ma_inst.2.1 116 = .ok (.aload_n 0, 1) := by decide +kernel
theorem dm_Ma_inst_117 : decode mm_Ma_inst.2.1 117 = .ok (.getfield 10, 3) := by decide +kernel
theorem dm_Ma_inst_120 : decode mm_Ma_inst.2.1 120 = .ok (.aload_n 3, 1) := by decide +kernel
theorem dm_Ma_inst_121 : decode mm_Ma_inst.2.1 121 = .ok (.getfield 132, 3) := by decide +kernel
theorem dm_Ma_inst_124 : decode mm_Ma_inst.2.1 124 = .ok (.aload_n 1, 1) := by decide +kernel
theorem dm_Ma_inst_125 : decode mm_Ma_inst.2.1 125 = .ok (.aload_n 2, 1) := by decide +kernel
theorem dm_Ma_inst_126 : decode mm_Ma_inst.2.1 126 = .ok (.invokevirtual 167, 3) := by decide +kernel
theorem dm_Ma_inst_129 : decode mm_Ma_inst.2.1 129 = .ok (.invokevirtual 101, 3) := by decide +kernel
theorem dm_Ma_inst_132 : decode mm_Ma_inst.2.1 132 = .ok (.ireturn, 1) := by decide +kernel
theorem dm_Ma_instType_0 : decode mm_Ma_instType.2.1 0 = .ok (.aload_n 0, 1) := by decide +kernel
theorem dm_Ma_instType_1 : decode mm_Ma_instType.2.1 1 = .ok (.iconst 1, 1) := by decide +kernel
theorem dm_Ma_instType_2 : decode mm_Ma_instType.2.1 2 = .ok (.iconst 0, 1) := by decide +kernel
theorem dm_Ma_instType_3 : decode mm_Ma_instType.2.1 3 = .ok (.invokevirtual 65, 3) := by decide +kernel
theorem dm_Ma_instType_6 : decode mm_Ma_instType.2.1 6 = .ok (.astore_n 2, 1) := by decide +kernel
theorem dm_Ma_instType_7 : decode mm_Ma_instType.2.1 7 = .ok (.aload_n 0, 1) := by decide +kernel
theorem dm_Ma_instType_8 : decode mm_Ma_instType.2.1 8 = .ok (.iconst 0, 1) := by decide +kernel
theorem dm_Ma_instType_9 : decode mm_Ma_instType.2.1 9 = .ok (.iconst 2, 1) := by decide +kernel
theorem dm_Ma_instType_10 : decode mm_Ma_instType.2.1 10 = .ok (.invokevirtual 118, 3) := by decide +kernel
theorem dm_Ma_instType_13 : decode mm_Ma_instType.2.1 13 = .ok (.astore_n 3, 1) := by decide +kernel
theorem dm_Ma_instType_14 : decode mm_Ma_instType.2.1 14 = .ok (.aload_n 2, 1) := by decide +kernel
theorem dm_Ma_instType_15 : decode mm_Ma_instType.2.1 15 = .ok (.ifnull 7, 3) := by decide +kernel
theorem dm_Ma_instType_18 : decode mm_Ma_instType.2.1 18 = .ok (.aload_n 3, 1) := by decide +kernel
theorem dm_Ma_instType_19 : decode mm_Ma_instType.2.1 19 = .ok (.ifnonnull 5, 3) := by decide +kernel
theorem dm_Ma_instType_22 : decode mm_Ma_instType.2.1 22 = .ok (.iconst 1, 1) := by decide +kernel
theorem dm_Ma_instType_23 : decode mm_Ma_instType.2.1 23 = .ok (.ireturn, 1) := by decide +kernel
theorem dm_Ma_instType_24 : decode mm_Ma_instType.2.1 24 = .ok (.iload_n 1, 1) := by decide +kernel
theorem dm_Ma_instType_25 : decode mm_Ma_instType.2.1 25 = .ok (.ifCond .lt 8, 3) := by decide +kernel
theorem dm_Ma_instType_28 : decode mm_Ma_instType.2.1 28 = .ok (.iload_n 1, 1) := by decide +kernel
theorem dm_Ma_instType_29 : decode mm_Ma_instType.2.1 29 = .ok (.iconst 4, 1) := by decide +kernel
theorem dm_Ma_instType_30 : decode mm_Ma_instType.2.1 30 = .ok (.if_icmp .lt 5, 3) := by decide +kernel
theorem dm_Ma_instType_33 : decode mm_Ma_instType.2.1 33 = .ok (.iconst 2, 1) := by decide +kernel
theorem dm_Ma_instType_34 : decode mm_Ma_instType.2.1 34 = .ok (.ireturn, 1) := by decide +kernel
theorem dm_Ma_instType_35 : decode mm_Ma_instType.2.1 35 = .ok (.new 43, 3) := by decide +kernel
theorem dm_Ma_instType_38 : decode mm_Ma_instType.2.1 38 = .ok (.dup, 1) := by decide +kernel
theorem dm_Ma_instType_39 : decode mm_Ma_instType.2.1 39 = .ok (.invokespecial 45, 3) := by decide +kernel
theorem dm_Ma_instType_42 : decode mm_Ma_instType.2.1 42 = .ok (.astore 4, 2) := by decide +kernel
theorem dm_Ma_instType_44 : decode mm_Ma_instType.2.1 44 = .ok (.iconst 0, 1) := by decide +kernel
theorem dm_Ma_instType_45 : decode mm_Ma_instType.2.1 45 = .ok (.istore 5, 2) := by decide +kernel
theorem dm_Ma_instType_47 : decode mm_Ma_instType.2.1 47 = .ok (.iload 5, 2) := by decide +kernel
theorem dm_Ma_instType_49 : decode mm_Ma_instType.2.1 49 = .ok (.aload_n 3, 1) := by decide +kernel
theorem dm_Ma_instType_50 : decode mm_Ma_instType.2.1 50 = .ok (.getfield 140, 3) := by decide +kernel
theorem dm_Ma_instType_53 : decode mm_Ma_instType.2.1 53 = .ok (.getfield 161, 3) := by decide +kernel
theorem dm_Ma_instType_56 : decode mm_Ma_instType.2.1 56 = .ok (.if_icmp .ge 33, 3) := by decide +kernel
theorem dm_Ma_instType_59 : decode mm_Ma_instType.2.1 59 = .ok (.aload 4, 2) := by decide +kernel
theorem dm_Ma_instType_61 : decode mm_Ma_instType.2.1 61 = .ok (.aload_n 0, 1) := by decide +kernel
theorem dm_Ma_instType_62 : decode mm_Ma_instType.2.1 62 = .ok (.getfield 10, 3) := by decide +kernel
theorem dm_Ma_instType_65 : decode mm_Ma_instType.2.1 65 = .ok (.aload_n 3, 1) := by decide +kernel
theorem dm_Ma_instType_66 : decode mm_Ma_instType.2.1 66 = .ok (.getfield 140, 3) := by decide +kernel
theorem dm_Ma_instType_69 : decode mm_Ma_instType.2.1 69 = .ok (.getfield 164, 3) := by decide +kernel
theorem dm_Ma_instType_72 : decode mm_Ma_instType.2.1 72 = .ok (.iload 5, 2) := by decide +kernel
theorem dm_Ma_instType_74 : decode mm_Ma_instType.2.1 74 = .ok (.aaload, 1) := by decide +kernel
theorem dm_Ma_instType_75 : decode mm_Ma_instType.2.1 75 = .ok (.iload_n 1, 1) := by decide +kernel
theorem dm_Ma_instType_76 : decode mm_Ma_instType.2.1 76 = .ok (.aload_n 2, 1) := by decide +kernel
theorem dm_Ma_instType_77 : decode mm_Ma_instType.2.1 77 = .ok (.invokevirtual 174, 3) := by decide +kernel
theorem dm_Ma_instType_80 : decode mm_Ma_instType.2.1 80 = .ok (.invokevirtual 170, 3) := by decide +kernel
theorem dm_Ma_instType_83 : decode mm_Ma_instType.2.1 83 = .ok (.iinc 5 1, 3) := by decide +kernel
theorem dm_Ma_instType_86 : decode mm_Ma_instType.2.1 86 = .ok (.goto (-39), 3) := by decide +kernel
theorem dm_Ma_instType_89 : decode mm_Ma_instType.2.1 89 = .ok (.aload_n 0, 1) := by decide +kernel
theorem dm_Ma_instType_90 : decode mm_Ma_instType.2.1 90 = .ok (.iconst 2, 1) := by decide +kernel
theorem dm_Ma_instType_91 : decode mm_Ma_instType.2.1 91 = .ok (.aload 4, 2) := by decide +kernel
theorem dm_Ma_instType_93 : decode mm_Ma_instType.2.1 93 = .ok (.aload_n 0, 1) := by decide +kernel
theorem dm_Ma_instType_94 : decode mm_Ma_instType.2.1 94 = .ok (.getfield 10, 3) := by decide +kernel
theorem dm_Ma_instType_97 : decode mm_Ma_instType.2.1 97 = .ok (.aload_n 3, 1) := by decide +kernel
theorem dm_Ma_instType_98 : decode mm_Ma_instType.2.1 98 = .ok (.getfield 132, 3) := by decide +kernel
theorem dm_Ma_instType_101 : decode mm_Ma_instType.2.1 101 = .ok (.iload_n 1, 1) := by decide +kernel
theorem dm_Ma_instType_102 : decode mm_Ma_instType.2.1 102 = .ok (.aload_n 2, 1) := by decide +kernel
theorem dm_Ma_instType_103 : decode mm_Ma_instType.2.1 103 = .ok (.invokevirtual 174, 3) := by decide +kernel
theorem dm_Ma_instType_106 : decode mm_Ma_instType.2.1 106 = .ok (.invokevirtual 101, 3) := by decide +kernel
theorem dm_Ma_instType_109 : decode mm_Ma_instType.2.1 109 = .ok (.ireturn, 1) := by decide +kernel
theorem dm_Ma_keep_0 : decode mm_Ma_keep.2.1 0 = .ok (.aload_n 0, 1) := by decide +kernel
theorem dm_Ma_keep_1 : decode mm_Ma_keep.2.1 1 = .ok (.getfield 21, 3) := by decide +kernel
theorem dm_Ma_keep_4 : decode mm_Ma_keep.2.1 4 = .ok (.iconst 0, 1) := by decide +kernel
theorem dm_Ma_keep_5 : decode mm_Ma_keep.2.1 5 = .ok (.invokevirtual 178, 3) := by decide +kernel
theorem dm_Ma_keep_8 : decode mm_Ma_keep.2.1 8 = .ok (.astore_n 2, 1) := by decide +kernel
theorem dm_Ma_keep_9 : decode mm_Ma_keep.2.1 9 = .ok (.aload_n 2, 1) := by decide +kernel
theorem dm_Ma_keep_10 : decode mm_Ma_keep.2.1 10 = .ok (.ifnonnull 5, 3) := by decide +kernel
theorem dm_Ma_keep_13 : decode mm_Ma_keep.2.1 13 = .ok (.iconst 1, 1) := by decide +kernel
theorem dm_Ma_keep_14 : decode mm_Ma_keep.2.1 14 = .ok (.ireturn, 1) := by decide +kernel
theorem dm_Ma_keep_15 : decode mm_Ma_keep.2.1 15 = .ok (.iload_n 1, 1) := by decide +kernel
theorem dm_Ma_keep_16 : decode mm_Ma_keep.2.1 16 = .ok (.ifCond .lt 9, 3) := by decide +kernel
theorem dm_Ma_keep_19 : decode mm_Ma_keep.2.1 19 = .ok (.iload_n 1, 1) := by decide +kernel
theorem dm_Ma_keep_20 : decode mm_Ma_keep.2.1 20 = .ok (.bipush 6, 2) := by decide +kernel
theorem dm_Ma_keep_22 : decode mm_Ma_keep.2.1 22 = .ok (.if_icmp .lt 5, 3) := by decide +kernel
theorem dm_Ma_keep_25 : decode mm_Ma_keep.2.1 25 = .ok (.iconst 2, 1) := by decide +kernel
theorem dm_Ma_keep_26 : decode mm_Ma_keep.2.1 26 = .ok (.ireturn, 1) := by decide +kernel
theorem dm_Ma_keep_27 : decode mm_Ma_keep.2.1 27 = .ok (.aload_n 0, 1) := by decide +kernel
theorem dm_Ma_keep_28 : decode mm_Ma_keep.2.1 28 = .ok (.iconst 1, 1) := by decide +kernel
theorem dm_Ma_keep_29 : decode mm_Ma_keep.2.1 29 = .ok (.aload_n 2, 1) := by decide +kernel
theorem dm_Ma_keep_30 : decode mm_Ma_keep.2.1 30 = .ok (.invokevirtual 182, 3) := by decide +kernel
theorem dm_Ma_keep_33 : decode mm_Ma_keep.2.1 33 = .ok (.istore_n 3, 1) := by decide +kernel
theorem dm_Ma_keep_34 : decode mm_Ma_keep.2.1 34 = .ok (.iload_n 3, 1) := by decide +kernel
theorem dm_Ma_keep_35 : decode mm_Ma_keep.2.1 35 = .ok (.ifCond .ne 10, 3) := by decide +kernel
theorem dm_Ma_keep_38 : decode mm_Ma_keep.2.1 38 = .ok (.aload_n 0, 1) := by decide +kernel
theorem dm_Ma_keep_39 : decode mm_Ma_keep.2.1 39 = .ok (.getfield 33, 3) := by decide +kernel
theorem dm_Ma_keep_42 : decode mm_Ma_keep.2.1 42 = .ok (.iload_n 1, 1) := by decide +kernel
theorem dm_Ma_keep_43 : decode mm_Ma_keep.2.1 43 = .ok (.aload_n 2, 1) := by decide +kernel
theorem dm_Ma_keep_44 : decode mm_Ma_keep.2.1 44 = .ok (.aastore, 1) := by decide +kernel
theorem dm_Ma_keep_45 : decode mm_Ma_keep.2.1 45 = .ok (.iload_n 3, 1) := by decide +kernel
theorem dm_Ma_keep_46 : decode mm_Ma_keep.2.1 46 = .ok (.ireturn, 1) := by decide +kernel
theorem dm_Ma_fetch_0 : decode mm_Ma_fetch.2.1 0 = .ok (.aload_n 0, 1) := by decide +kernel
theorem dm_Ma_fetch_1 : decode mm_Ma_fetch.2.1 1 = .ok (.iload_n 1, 1) := by decide +kernel
theorem dm_Ma_fetch_2 : decode mm_Ma_fetch.2.1 2 = .ok (.invokevirtual 186, 3) := by decide +kernel
theorem dm_Ma_fetch_5 : decode mm_Ma_fetch.2.1 5 = .ok (.astore_n 2, 1) := by decide +kernel
theorem dm_Ma_fetch_6 : decode mm_Ma_fetch.2.1 6 = .ok (.aload_n 2, 1) := by decide +kernel
theorem dm_Ma_fetch_7 : decode mm_Ma_fetch.2.1 7 = .ok (.ifnonnull 5, 3) := by decide +kernel
theorem dm_Ma_fetch_10 : decode mm_Ma_fetch.2.1 10 = .ok (.iconst 2, 1) := by decide +kernel
theorem dm_Ma_fetch_11 : decode mm_Ma_fetch.2.1 11 = .ok (.ireturn, 1) := by decide +kernel
theorem dm_Ma_fetch_12 : decode mm_Ma_fetch.2.1 12 = .ok (.aload_n 0, 1) := by decide +kernel
theorem dm_Ma_fetch_13 : decode mm_Ma_fetch.2.1 13 = .ok (.iconst 0, 1) := by decide +kernel
theorem dm_Ma_fetch_14 : decode mm_Ma_fetch.2.1 14 = .ok (.aload_n 2, 1) := by decide +kernel
theorem dm_Ma_fetch_15 : decode mm_Ma_fetch.2.1 15 = .ok (.invokevirtual 182, 3) := by decide +kernel
theorem dm_Ma_fetch_18 : decode mm_Ma_fetch.2.1 18 = .ok (.ireturn, 1) := by decide +kernel
theorem dm_Ma_pop_0 : decode mm_Ma_pop.2.1 0 = .ok (.aload_n 0, 1) := by decide +kernel
theorem dm_Ma_pop_1 : decode mm_Ma_pop.2.1 1 = .ok (.getfield 21, 3) := by decide +kernel
theorem dm_Ma_pop_4 : decode mm_Ma_pop.2.1 4 = .ok (.iconst 0, 1) := by decide +kernel
theorem dm_Ma_pop_5 : decode mm_Ma_pop.2.1 5 = .ok (.invokevirtual 178, 3) := by decide +kernel
theorem dm_Ma_pop_8 : decode mm_Ma_pop.2.1 8 = .ok (.ifnonnull 5, 3) := by decide +kernel
theorem dm_Ma_pop_11 : decode mm_Ma_pop.2.1 11 = .ok (.iconst 1, 1) := by decide +kernel
theorem dm_Ma_pop_12 : decode mm_Ma_pop.2.1 12 = .ok (.ireturn, 1) := by decide +kernel
theorem dm_Ma_pop_13 : decode mm_Ma_pop.2.1 13 = .ok (.aload_n 0, 1) := by decide +kernel
theorem dm_Ma_pop_14 : decode mm_Ma_pop.2.1 14 = .ok (.iconst 1, 1) := by decide +kernel
theorem dm_Ma_pop_15 : decode mm_Ma_pop.2.1 15 = .ok (.invokevirtual 189, 3) := by decide +kernel
theorem dm_Ma_pop_18 : decode mm_Ma_pop.2.1 18 = .ok (.ireturn, 1) := by decide +kernel
theorem dm_Ma_export_0 : decode mm_Ma_export.2.1 0 = .ok (.aload_n 0, 1) := by decide +kernel
theorem dm_Ma_export_1 : decode mm_Ma_export.2.1 1 = .ok (.iconst 0, 1) := by decide +kernel
theorem dm_Ma_export_2 : decode mm_Ma_export.2.1 2 = .ok (.iconst 2, 1) := by decide +kernel
theorem dm_Ma_export_3 : decode mm_Ma_export.2.1 3 = .ok (.invokevirtual 118, 3) := by decide +kernel
theorem dm_Ma_export_6 : decode mm_Ma_export.2.1 6 = .ok (.astore_n 1, 1) := by decide +kernel
theorem dm_Ma_export_7 : decode mm_Ma_export.2.1 7 = .ok (.aload_n 1, 1) := by decide +kernel
theorem dm_Ma_export_8 : decode mm_Ma_export.2.1 8 = .ok (.ifnonnull 5, 3) := by decide +kernel
theorem dm_Ma_export_11 : decode mm_Ma_export.2.1 11 = .ok (.iconst 1, 1) := by decide +kernel
theorem dm_Ma_export_12 : decode mm_Ma_export.2.1 12 = .ok (.ireturn, 1) := by decide +kernel
theorem dm_Ma_export_13 : decode mm_Ma_export.2.1 13 = .ok (.aload_n 0, 1) := by decide +kernel
theorem dm_Ma_export_14 : decode mm_Ma_export.2.1 14 = .ok (.getfield 28, 3) := by decide +kernel
theorem dm_Ma_export_17 : decode mm_Ma_export.2.1 17 = .ok (.invokevirtual 193, 3) := by decide +kernel
theorem dm_Ma_export_20 : decode mm_Ma_export.2.1 20 = .ok (.ifCond .eq 5, 3) := by decide +kernel
theorem dm_Ma_export_23 : decode mm_Ma_export.2.1 23 = .ok (.iconst 4, 1) := by decide +kernel
theorem dm_Ma_export_24 : decode mm_Ma_export.2.1 24 = .ok (.ireturn, 1) := by decide +kernel
theorem dm_Ma_export_25 : decode mm_Ma_export.2.1 25 = .ok (.aload_n 0, 1) := by decide +kernel
theorem dm_Ma_export_26 : decode mm_Ma_export.2.1 26 = .ok (.iconst 1, 1) := by decide +kernel
theorem dm_Ma_export_27 : decode mm_Ma_export.2.1 27 = .ok (.invokevirtual 189, 3) := by decide +kernel
theorem dm_Ma_export_30 : decode mm_Ma_export.2.1 30 = .ok (.istore_n 2, 1) := by decide +kernel
theorem dm_Ma_export_31 : decode mm_Ma_export.2.1 31 = .ok (.iload_n 2, 1) := by decide +kernel
theorem dm_Ma_export_32 : decode mm_Ma_export.2.1 32 = .ok (.ifCond .ne 11, 3) := by decide +kernel
theorem dm_Ma_export_35 : decode mm_Ma_export.2.1 35 = .ok (.aload_n 0, 1) := by decide +kernel
theorem dm_Ma_export_36 : decode mm_Ma_export.2.1 36 = .ok (.getfield 28, 3) := by decide +kernel
theorem dm_Ma_export_39 : decode mm_Ma_export.2.1 39 = .ok (.aload_n 1, 1) := by decide +kernel
theorem dm_Ma_export_40 : decode mm_Ma_export.2.1 40 = .ok (.invokevirtual 197, 3) := by decide +kernel
theorem dm_Ma_export_43 : decode mm_Ma_export.2.1 43 = .ok (.iload_n 2, 1) := by decide +kernel
theorem dm_Ma_export_44 : decode mm_Ma_export.2.1 44 = .ok (.ireturn, 1) := by decide +kernel
theorem dm_Ma_count_0 : decode mm_Ma_count.2.1 0 = .ok (.iload_n 1, 1) := by decide +kernel
theorem dm_Ma_count_1 : decode mm_Ma_count.2.1 1 = .ok (.tableswitch 69 0 4 #[35, 43, 51, 59, 64], 35) := by decide +kernel
theorem dm_Ma_count_36 : decode mm_Ma_count.2.1 36 = .ok (.aload_n 0, 1) := by decide +kernel
theorem dm_Ma_count_37 : decode mm_Ma_count.2.1 37 = .ok (.getfield 21, 3) := by decide +kernel
theorem dm_Ma_count_40 : decode mm_Ma_count.2.1 40 = .ok (.getfield 200, 3) := by decide +kernel
theorem dm_Ma_count_43 : decode mm_Ma_count.2.1 43 = .ok (.ireturn, 1) := by decide +kernel
theorem dm_Ma_count_44 : decode mm_Ma_count.2.1 44 = .ok (.aload_n 0, 1) := by decide +kernel
theorem dm_Ma_count_45 : decode mm_Ma_count.2.1 45 = .ok (.getfield 25, 3) := by decide +kernel
theorem dm_Ma_count_48 : decode mm_Ma_count.2.1 48 = .ok (.getfield 200, 3) := by decide +kernel
theorem dm_Ma_count_51 : decode mm_Ma_count.2.1 51 = .ok (.ireturn, 1) := by decide +kernel
theorem dm_Ma_count_52 : decode mm_Ma_count.2.1 52 = .ok (.aload_n 0, 1) := by decide +kernel
theorem dm_Ma_count_53 : decode mm_Ma_count.2.1 53 = .ok (.getfield 28, 3) := by decide +kernel
theorem dm_Ma_count_56 : decode mm_Ma_count.2.1 56 = .ok (.getfield 200, 3) := by decide +kernel
theorem dm_Ma_count_59 : decode mm_Ma_count.2.1 59 = .ok (.ireturn, 1) := by decide +kernel
theorem dm_Ma_count_60 : decode mm_Ma_count.2.1 60 = .ok (.aload_n 0, 1) := by decide +kernel
theorem dm_Ma_count_61 : decode mm_Ma_count.2.1 61 = .ok (.getfield 50, 3) := by decide +kernel
theorem dm_Ma_count_64 : decode mm_Ma_count.2.1 64 = .ok (.ireturn, 1) := by decide +kernel
theorem dm_Ma_count_65 : decode mm_Ma_count.2.1 65 = .ok (.aload_n 0, 1) := by decide +kernel
theorem dm_Ma_count_66 : decode mm_Ma_count.2.1 66 = .ok (.getfield 54, 3) := by decide +kernel
theorem dm_Ma_count_69 : decode mm_Ma_count.2.1 69 = .ok (.ireturn, 1) := by decide +kernel
theorem dm_Ma_count_70 : decode mm_Ma_count.2.1 70 = .ok (.iconst (-1), 1) := by decide +kernel
theorem dm_Ma_count_71 : decode mm_Ma_count.2.1 71 = .ok (.ireturn, 1) := by decide +kernel
theorem dm_Ma_kind_0 : decode mm_Ma_kind.2.1 0 = .ok (.aload_n 0, 1) := by decide +kernel
theorem dm_Ma_kind_1 : decode mm_Ma_kind.2.1 1 = .ok (.iload_n 1, 1) := by decide +kernel
theorem dm_Ma_kind_2 : decode mm_Ma_kind.2.1 2 = .ok (.invokevirtual 201, 3) := by decide +kernel
theorem dm_Ma_kind_5 : decode mm_Ma_kind.2.1 5 = .ok (.astore_n 2, 1) := by decide +kernel
theorem dm_Ma_kind_6 : decode mm_Ma_kind.2.1 6 = .ok (.aload_n 2, 1) := by decide +kernel
theorem dm_Ma_kind_7 : decode mm_Ma_kind.2.1 7 = .ok (.ifnonnull 7, 3) := by decide +kernel
theorem dm_Ma_kind_10 : decode mm_Ma_kind.2.1 10 = .ok (.iconst (-1), 1) := by decide +kernel
theorem dm_Ma_kind_11 : decode mm_Ma_kind.2.1 11 = .ok (.goto 7, 3) := by decide +kernel
theorem dm_Ma_kind_14 : decode mm_Ma_kind.2.1 14 = .ok (.aload_n 2, 1) := by decide +kernel
theorem dm_Ma_kind_15 : decode mm_Ma_kind.2.1 15 = .ok (.getfield 204, 3) := by decide +kernel
theorem dm_Ma_kind_18 : decode mm_Ma_kind.2.1 18 = .ok (.ireturn, 1) := by decide +kernel
theorem dm_Ma_hypotheses_0 : decode mm_Ma_hypotheses.2.1 0 = .ok (.aload_n 0, 1) := by decide +kernel
theorem dm_Ma_hypotheses_1 : decode mm_Ma_hypotheses.2.1 1 = .ok (.iload_n 1, 1) := by decide +kernel
theorem dm_Ma_hypotheses_2 : decode mm_Ma_hypotheses.2.1 2 = .ok (.invokevirtual 201, 3) := by decide +kernel
theorem dm_Ma_hypotheses_5 : decode mm_Ma_hypotheses.2.1 5 = .ok (.astore_n 2, 1) := by decide +kernel
theorem dm_Ma_hypotheses_6 : decode mm_Ma_hypotheses.2.1 6 = .ok (.aload_n 2, 1) := by decide +kernel
theorem dm_Ma_hypotheses_7 : decode mm_Ma_hypotheses.2.1 7 = .ok (.ifnull 11, 3) := by decide +kernel
theorem dm_Ma_hypotheses_10 : decode mm_Ma_hypotheses.2.1 10 = .ok (.aload_n 2, 1) := by decide +kernel
theorem dm_Ma_hypotheses_11 : decode mm_Ma_hypotheses.2.1 11 = .ok (.getfield 204, 3) := by decide +kernel
theorem dm_Ma_hypotheses_14 : decode mm_Ma_hypotheses.2.1 14 = .ok (.iconst 2, 1) := by decide +kernel
theorem dm_Ma_hypotheses_15 : decode mm_Ma_hypotheses.2.1 15 = .ok (.if_icmp .eq 7, 3) := by decide +kernel
theorem dm_Ma_hypotheses_18 : decode mm_Ma_hypotheses.2.1 18 = .ok (.iconst (-1), 1) := by decide +kernel
theorem dm_Ma_hypotheses_19 : decode mm_Ma_hypotheses.2.1 19 = .ok (.goto 10, 3) := by decide +kernel
theorem dm_Ma_hypotheses_22 : decode mm_Ma_hypotheses.2.1 22 = .ok (.aload_n 2, 1) := by decide +kernel
theorem dm_Ma_hypotheses_23 : decode mm_Ma_hypotheses.2.1 23 = .ok (.getfield 140, 3) := by decide +kernel
theorem dm_Ma_hypotheses_26 : decode mm_Ma_hypotheses.2.1 26 = .ok (.getfield 161, 3) := by decide +kernel
theorem dm_Ma_hypotheses_29 : decode mm_Ma_hypotheses.2.1 29 = .ok (.ireturn, 1) := by decide +kernel
theorem dm_Ma_length_0 : decode mm_Ma_length.2.1 0 = .ok (.aload_n 0, 1) := by decide +kernel
theorem dm_Ma_length_1 : decode mm_Ma_length.2.1 1 = .ok (.iload_n 1, 1) := by decide +kernel
theorem dm_Ma_length_2 : decode mm_Ma_length.2.1 2 = .ok (.iload_n 2, 1) := by decide +kernel
theorem dm_Ma_length_3 : decode mm_Ma_length.2.1 3 = .ok (.invokevirtual 207, 3) := by decide +kernel
theorem dm_Ma_length_6 : decode mm_Ma_length.2.1 6 = .ok (.astore_n 3, 1) := by decide +kernel
theorem dm_Ma_length_7 : decode mm_Ma_length.2.1 7 = .ok (.aload_n 3, 1) := by decide +kernel
theorem dm_Ma_length_8 : decode mm_Ma_length.2.1 8 = .ok (.ifnonnull 7, 3) := by decide +kernel
theorem dm_Ma_length_11 : decode mm_Ma_length.2.1 11 = .ok (.iconst (-1), 1) := by decide +kernel
theorem dm_Ma_length_12 : decode mm_Ma_length.2.1 12 = .ok (.goto 7, 3) := by decide +kernel
theorem dm_Ma_length_15 : decode mm_Ma_length.2.1 15 = .ok (.aload_n 3, 1) := by decide +kernel
theorem dm_Ma_length_16 : decode mm_Ma_length.2.1 16 = .ok (.getfield 210, 3) := by decide +kernel
theorem dm_Ma_length_19 : decode mm_Ma_length.2.1 19 = .ok (.ireturn, 1) := by decide +kernel
theorem dm_Ma_symbol_0 : decode mm_Ma_symbol.2.1 0 = .ok (.aload_n 0, 1) := by decide +kernel
theorem dm_Ma_symbol_1 : decode mm_Ma_symbol.2.1 1 = .ok (.iload_n 1, 1) := by decide +kernel
theorem dm_Ma_symbol_2 : decode mm_Ma_symbol.2.1 2 = .ok (.iload_n 2, 1) := by decide +kernel
theorem dm_Ma_symbol_3 : decode mm_Ma_symbol.2.1 3 = .ok (.invokevirtual 207, 3) := by decide +kernel
theorem dm_Ma_symbol_6 : decode mm_Ma_symbol.2.1 6 = .ok (.astore 4, 2) := by decide +kernel
theorem dm_Ma_symbol_8 : decode mm_Ma_symbol.2.1 8 = .ok (.aload 4, 2) := by decide +kernel
theorem dm_Ma_symbol_10 : decode mm_Ma_symbol.2.1 10 = .ok (.ifnonnull 7, 3) := by decide +kernel
theorem dm_Ma_symbol_13 : decode mm_Ma_symbol.2.1 13 = .ok (.iconst (-1), 1) := by decide +kernel
theorem dm_Ma_symbol_14 : decode mm_Ma_symbol.2.1 14 = .ok (.goto 9, 3) := by decide +kernel
theorem dm_Ma_symbol_17 : decode mm_Ma_symbol.2.1 17 = .ok (.aload 4, 2) := by decide +kernel
theorem dm_Ma_symbol_19 : decode mm_Ma_symbol.2.1 19 = .ok (.iload_n 3, 1) := by decide +kernel
theorem dm_Ma_symbol_20 : decode mm_Ma_symbol.2.1 20 = .ok (.invokevirtual 211, 3) := by decide +kernel
theorem dm_Ma_symbol_23 : decode mm_Ma_symbol.2.1 23 = .ok (.ireturn, 1) := by decide +kernel
theorem dm_Ma_assume_0 : decode mm_Ma_assume.2.1 0 = .ok (.aload_n 0, 1) := by decide +kernel
theorem dm_Ma_assume_1 : decode mm_Ma_assume.2.1 1 = .ok (.getfield 10, 3) := by decide +kernel
theorem dm_Ma_assume_4 : decode mm_Ma_assume.2.1 4 = .ok (.aload_n 1, 1) := by decide +kernel
theorem dm_Ma_assume_5 : decode mm_Ma_assume.2.1 5 = .ok (.invokevirtual 80, 3) := by decide +kernel
theorem dm_Ma_assume_8 : decode mm_Ma_assume.2.1 8 = .ok (.iconst 0, 1) := by decide +kernel
theorem dm_Ma_assume_9 : decode mm_Ma_assume.2.1 9 = .ok (.invokevirtual 211, 3) := by decide +kernel
theorem dm_Ma_assume_12 : decode mm_Ma_assume.2.1 12 = .ok (.iconst 1, 1) := by decide +kernel
theorem dm_Ma_assume_13 : decode mm_Ma_assume.2.1 13 = .ok (.if_icmp .eq 5, 3) := by decide +kernel
theorem dm_Ma_assume_16 : decode mm_Ma_assume.2.1 16 = .ok (.iconst 2, 1) := by decide +kernel
theorem dm_Ma_assume_17 : decode mm_Ma_assume.2.1 17 = .ok (.ireturn, 1) := by decide +kernel
theorem dm_Ma_assume_18 : decode mm_Ma_assume.2.1 18 = .ok (.new 43, 3) := by decide +kernel
theorem dm_Ma_assume_21 : decode mm_Ma_assume.2.1 21 = .ok (.dup, 1) := by decide +kernel
theorem dm_Ma_assume_22 : decode mm_Ma_assume.2.1 22 = .ok (.invokespecial 45, 3) := by decide +kernel
theorem dm_Ma_assume_25 : decode mm_Ma_assume.2.1 25 = .ok (.astore_n 2, 1) := by decide +kernel
theorem dm_Ma_assume_26 : decode mm_Ma_assume.2.1 26 = .ok (.aload_n 2, 1) := by decide +kernel
theorem dm_Ma_assume_27 : decode mm_Ma_assume.2.1 27 = .ok (.aload_n 1, 1) := by decide +kernel
theorem dm_Ma_assume_28 : decode mm_Ma_assume.2.1 28 = .ok (.invokevirtual 170, 3) := by decide +kernel
theorem dm_Ma_assume_31 : decode mm_Ma_assume.2.1 31 = .ok (.aload_n 0, 1) := by decide +kernel
theorem dm_Ma_assume_32 : decode mm_Ma_assume.2.1 32 = .ok (.iconst 1, 1) := by decide +kernel
theorem dm_Ma_assume_33 : decode mm_Ma_assume.2.1 33 = .ok (.aload_n 2, 1) := by decide +kernel
theorem dm_Ma_assume_34 : decode mm_Ma_assume.2.1 34 = .ok (.aload_n 1, 1) := by decide +kernel
theorem dm_Ma_assume_35 : decode mm_Ma_assume.2.1 35 = .ok (.invokevirtual 101, 3) := by decide +kernel
theorem dm_Ma_assume_38 : decode mm_Ma_assume.2.1 38 = .ok (.ireturn, 1) := by decide +kernel
theorem dm_Ma_reduce_0 : decode mm_Ma_reduce.2.1 0 = .ok (.aload_n 1, 1) := by decide +kernel
theorem dm_Ma_reduce_1 : decode mm_Ma_reduce.2.1 1 = .ok (.iconst 0, 1) := by decide +kernel
theorem dm_Ma_reduce_2 : decode mm_Ma_reduce.2.1 2 = .ok (.invokevirtual 211, 3) := by decide +kernel
theorem dm_Ma_reduce_5 : decode mm_Ma_reduce.2.1 5 = .ok (.bipush 12, 2) := by decide +kernel
theorem dm_Ma_reduce_7 : decode mm_Ma_reduce.2.1 7 = .ok (.if_icmp .ne 13, 3) := by decide +kernel
theorem dm_Ma_reduce_10 : decode mm_Ma_reduce.2.1 10 = .ok (.aload_n 1, 1) := by decide +kernel
theorem dm_Ma_reduce_11 : decode mm_Ma_reduce.2.1 11 = .ok (.iconst 1, 1) := by decide +kernel
theorem dm_Ma_reduce_12 : decode mm_Ma_reduce.2.1 12 = .ok (.invokevirtual 211, 3) := by decide +kernel
theorem dm_Ma_reduce_15 : decode mm_Ma_reduce.2.1 15 = .ok (.bipush 13, 2) := by decide +kernel
theorem dm_Ma_reduce_17 : decode mm_Ma_reduce.2.1 17 = .ok (.if_icmp .eq 5, 3) := by decide +kernel
theorem dm_Ma_reduce_20 : decode mm_Ma_reduce.2.1 20 = .ok (.iconst 2, 1) := by decide +kernel
theorem dm_Ma_reduce_21 : decode mm_Ma_reduce.2.1 21 = .ok (.ireturn, 1) := by decide +kernel
theorem dm_Ma_reduce_22 : decode mm_Ma_reduce.2.1 22 = .ok (.aload_n 1, 1) := by decide +kernel
theorem dm_Ma_reduce_23 : decode mm_Ma_reduce.2.1 23 = .ok (.iconst 2, 1) := by decide +kernel
theorem dm_Ma_reduce_24 : decode mm_Ma_reduce.2.1 24 = .ok (.invokevirtual 214, 3) := by decide +kernel
theorem dm_Ma_reduce_27 : decode mm_Ma_reduce.2.1 27 = .ok (.istore_n 2, 1) := by decide +kernel
theorem dm_Ma_reduce_28 : decode mm_Ma_reduce.2.1 28 = .ok (.aload_n 1, 1) := by decide +kernel
end
section
theorem dm_Ma_reduce_29 : decode mm_Ma_reduce.2.1 29 = .ok (.iload_n 2, 1) := by decide +kernel
theorem dm_Ma_reduce_30 : decode mm_Ma_reduce.2.1 30 = .ok (.invokevirtual 217, 3) := by decide +kernel
theorem dm_Ma_reduce_33 : decode mm_Ma_reduce.2.1 33 = .ok (.istore_n 3, 1) := by decide +kernel
theorem dm_Ma_reduce_34 : decode mm_Ma_reduce.2.1 34 = .ok (.aload_n 1, 1) := by decide +kernel
theorem dm_Ma_reduce_35 : decode mm_Ma_reduce.2.1 35 = .ok (.iload_n 2, 1) := by decide +kernel
theorem dm_Ma_reduce_36 : decode mm_Ma_reduce.2.1 36 = .ok (.iload_n 3, 1) := by decide +kernel
theorem dm_Ma_reduce_37 : decode mm_Ma_reduce.2.1 37 = .ok (.invokevirtual 220, 3) := by decide +kernel
theorem dm_Ma_reduce_40 : decode mm_Ma_reduce.2.1 40 = .ok (.astore 4, 2) := by decide +kernel
theorem dm_Ma_reduce_42 : decode mm_Ma_reduce.2.1 42 = .ok (.aload_n 1, 1) := by decide +kernel
theorem dm_Ma_reduce_43 : decode mm_Ma_reduce.2.1 43 = .ok (.iload_n 3, 1) := by decide +kernel
theorem dm_Ma_reduce_44 : decode mm_Ma_reduce.2.1 44 = .ok (.aload_n 1, 1) := by decide +kernel
theorem dm_Ma_reduce_45 : decode mm_Ma_reduce.2.1 45 = .ok (.getfield 210, 3) := by decide +kernel
theorem dm_Ma_reduce_48 : decode mm_Ma_reduce.2.1 48 = .ok (.invokevirtual 220, 3) := by decide +kernel
theorem dm_Ma_reduce_51 : decode mm_Ma_reduce.2.1 51 = .ok (.astore 5, 2) := by decide +kernel
theorem dm_Ma_reduce_53 : decode mm_Ma_reduce.2.1 53 = .ok (.aload_n 0, 1) := by decide +kernel
theorem dm_Ma_reduce_54 : decode mm_Ma_reduce.2.1 54 = .ok (.getfield 10, 3) := by decide +kernel
theorem dm_Ma_reduce_57 : decode mm_Ma_reduce.2.1 57 = .ok (.aload 4, 2) := by decide +kernel
theorem dm_Ma_reduce_59 : decode mm_Ma_reduce.2.1 59 = .ok (.aload 5, 2) := by decide +kernel
theorem dm_Ma_reduce_61 : decode mm_Ma_reduce.2.1 61 = .ok (.invokevirtual 223, 3) := by decide +kernel
theorem dm_Ma_reduce_64 : decode mm_Ma_reduce.2.1 64 = .ok (.astore 6, 2) := by decide +kernel
theorem dm_Ma_reduce_66 : decode mm_Ma_reduce.2.1 66 = .ok (.aload_n 0, 1) := by decide +kernel
theorem dm_Ma_reduce_67 : decode mm_Ma_reduce.2.1 67 = .ok (.iconst 1, 1) := by decide +kernel
theorem dm_Ma_reduce_68 : decode mm_Ma_reduce.2.1 68 = .ok (.aload_n 0, 1) := by decide +kernel
theorem dm_Ma_reduce_69 : decode mm_Ma_reduce.2.1 69 = .ok (.getfield 46, 3) := by decide +kernel
theorem dm_Ma_reduce_72 : decode mm_Ma_reduce.2.1 72 = .ok (.aload_n 0, 1) := by decide +kernel
theorem dm_Ma_reduce_73 : decode mm_Ma_reduce.2.1 73 = .ok (.getfield 10, 3) := by decide +kernel
theorem dm_Ma_reduce_76 : decode mm_Ma_reduce.2.1 76 = .ok (.aload_n 0, 1) := by decide +kernel
theorem dm_Ma_reduce_77 : decode mm_Ma_reduce.2.1 77 = .ok (.getfield 10, 3) := by decide +kernel
theorem dm_Ma_reduce_80 : decode mm_Ma_reduce.2.1 80 = .ok (.aload_n 1, 1) := by decide +kernel
theorem dm_Ma_reduce_81 : decode mm_Ma_reduce.2.1 81 = .ok (.invokevirtual 80, 3) := by decide +kernel
theorem dm_Ma_reduce_84 : decode mm_Ma_reduce.2.1 84 = .ok (.aload_n 1, 1) := by decide +kernel
theorem dm_Ma_reduce_85 : decode mm_Ma_reduce.2.1 85 = .ok (.aload 6, 2) := by decide +kernel
theorem dm_Ma_reduce_87 : decode mm_Ma_reduce.2.1 87 = .ok (.invokevirtual 97, 3) := by decide +kernel
theorem dm_Ma_reduce_90 : decode mm_Ma_reduce.2.1 90 = .ok (.invokevirtual 101, 3) := by decide +kernel
theorem dm_Ma_reduce_93 : decode mm_Ma_reduce.2.1 93 = .ok (.ireturn, 1) := by decide +kernel
theorem dm_Ma_addAxiom_0 : decode mm_Ma_addAxiom.2.1 0 = .ok (.aload_n 0, 1) := by decide +kernel
theorem dm_Ma_addAxiom_1 : decode mm_Ma_addAxiom.2.1 1 = .ok (.getfield 10, 3) := by decide +kernel
theorem dm_Ma_addAxiom_4 : decode mm_Ma_addAxiom.2.1 4 = .ok (.aload_n 1, 1) := by decide +kernel
theorem dm_Ma_addAxiom_5 : decode mm_Ma_addAxiom.2.1 5 = .ok (.invokevirtual 80, 3) := by decide +kernel
theorem dm_Ma_addAxiom_8 : decode mm_Ma_addAxiom.2.1 8 = .ok (.iconst 0, 1) := by decide +kernel
theorem dm_Ma_addAxiom_9 : decode mm_Ma_addAxiom.2.1 9 = .ok (.invokevirtual 211, 3) := by decide +kernel
theorem dm_Ma_addAxiom_12 : decode mm_Ma_addAxiom.2.1 12 = .ok (.iconst 1, 1) := by decide +kernel
theorem dm_Ma_addAxiom_13 : decode mm_Ma_addAxiom.2.1 13 = .ok (.if_icmp .eq 5, 3) := by decide +kernel
theorem dm_Ma_addAxiom_16 : decode mm_Ma_addAxiom.2.1 16 = .ok (.iconst 2, 1) := by decide +kernel
theorem dm_Ma_addAxiom_17 : decode mm_Ma_addAxiom.2.1 17 = .ok (.ireturn, 1) := by decide +kernel
theorem dm_Ma_addAxiom_18 : decode mm_Ma_addAxiom.2.1 18 = .ok (.aload_n 0, 1) := by decide +kernel
theorem dm_Ma_addAxiom_19 : decode mm_Ma_addAxiom.2.1 19 = .ok (.getfield 25, 3) := by decide +kernel
theorem dm_Ma_addAxiom_22 : decode mm_Ma_addAxiom.2.1 22 = .ok (.invokevirtual 193, 3) := by decide +kernel
theorem dm_Ma_addAxiom_25 : decode mm_Ma_addAxiom.2.1 25 = .ok (.ifCond .eq 5, 3) := by decide +kernel
theorem dm_Ma_addAxiom_28 : decode mm_Ma_addAxiom.2.1 28 = .ok (.iconst 4, 1) := by decide +kernel
theorem dm_Ma_addAxiom_29 : decode mm_Ma_addAxiom.2.1 29 = .ok (.ireturn, 1) := by decide +kernel
theorem dm_Ma_addAxiom_30 : decode mm_Ma_addAxiom.2.1 30 = .ok (.new 31, 3) := by decide +kernel
theorem dm_Ma_addAxiom_33 : decode mm_Ma_addAxiom.2.1 33 = .ok (.dup, 1) := by decide +kernel
theorem dm_Ma_addAxiom_34 : decode mm_Ma_addAxiom.2.1 34 = .ok (.iconst 2, 1) := by decide +kernel
theorem dm_Ma_addAxiom_35 : decode mm_Ma_addAxiom.2.1 35 = .ok (.aload_n 1, 1) := by decide +kernel
theorem dm_Ma_addAxiom_36 : decode mm_Ma_addAxiom.2.1 36 = .ok (.aload_n 0, 1) := by decide +kernel
theorem dm_Ma_addAxiom_37 : decode mm_Ma_addAxiom.2.1 37 = .ok (.getfield 46, 3) := by decide +kernel
theorem dm_Ma_addAxiom_40 : decode mm_Ma_addAxiom.2.1 40 = .ok (.invokespecial 226, 3) := by decide +kernel
theorem dm_Ma_addAxiom_43 : decode mm_Ma_addAxiom.2.1 43 = .ok (.astore_n 2, 1) := by decide +kernel
theorem dm_Ma_addAxiom_44 : decode mm_Ma_addAxiom.2.1 44 = .ok (.aload_n 0, 1) := by decide +kernel
theorem dm_Ma_addAxiom_45 : decode mm_Ma_addAxiom.2.1 45 = .ok (.iconst 1, 1) := by decide +kernel
theorem dm_Ma_addAxiom_46 : decode mm_Ma_addAxiom.2.1 46 = .ok (.aload_n 2, 1) := by decide +kernel
theorem dm_Ma_addAxiom_47 : decode mm_Ma_addAxiom.2.1 47 = .ok (.invokevirtual 182, 3) := by decide +kernel
theorem dm_Ma_addAxiom_50 : decode mm_Ma_addAxiom.2.1 50 = .ok (.istore_n 3, 1) := by decide +kernel
theorem dm_Ma_addAxiom_51 : decode mm_Ma_addAxiom.2.1 51 = .ok (.iload_n 3, 1) := by decide +kernel
theorem dm_Ma_addAxiom_52 : decode mm_Ma_addAxiom.2.1 52 = .ok (.ifCond .ne 11, 3) := by decide +kernel
theorem dm_Ma_addAxiom_55 : decode mm_Ma_addAxiom.2.1 55 = .ok (.aload_n 0, 1) := by decide +kernel
theorem dm_Ma_addAxiom_56 : decode mm_Ma_addAxiom.2.1 56 = .ok (.getfield 25, 3) := by decide +kernel
theorem dm_Ma_addAxiom_59 : decode mm_Ma_addAxiom.2.1 59 = .ok (.aload_n 2, 1) := by decide +kernel
theorem dm_Ma_addAxiom_60 : decode mm_Ma_addAxiom.2.1 60 = .ok (.invokevirtual 197, 3) := by decide +kernel
theorem dm_Ma_addAxiom_63 : decode mm_Ma_addAxiom.2.1 63 = .ok (.iload_n 3, 1) := by decide +kernel
theorem dm_Ma_addAxiom_64 : decode mm_Ma_addAxiom.2.1 64 = .ok (.ireturn, 1) := by decide +kernel
theorem dm_Ma_define_0 : decode mm_Ma_define.2.1 0 = .ok (.aload_n 0, 1) := by decide +kernel
theorem dm_Ma_define_1 : decode mm_Ma_define.2.1 1 = .ok (.getfield 10, 3) := by decide +kernel
theorem dm_Ma_define_4 : decode mm_Ma_define.2.1 4 = .ok (.aload_n 1, 1) := by decide +kernel
theorem dm_Ma_define_5 : decode mm_Ma_define.2.1 5 = .ok (.invokevirtual 80, 3) := by decide +kernel
theorem dm_Ma_define_8 : decode mm_Ma_define.2.1 8 = .ok (.astore_n 2, 1) := by decide +kernel
theorem dm_Ma_define_9 : decode mm_Ma_define.2.1 9 = .ok (.aload_n 1, 1) := by decide +kernel
theorem dm_Ma_define_10 : decode mm_Ma_define.2.1 10 = .ok (.invokevirtual 229, 3) := by decide +kernel
theorem dm_Ma_define_13 : decode mm_Ma_define.2.1 13 = .ok (.ifCond .ne 11, 3) := by decide +kernel
theorem dm_Ma_define_16 : decode mm_Ma_define.2.1 16 = .ok (.aload_n 1, 1) := by decide +kernel
theorem dm_Ma_define_17 : decode mm_Ma_define.2.1 17 = .ok (.aload_n 2, 1) := by decide +kernel
theorem dm_Ma_define_18 : decode mm_Ma_define.2.1 18 = .ok (.invokevirtual 232, 3) := by decide +kernel
theorem dm_Ma_define_21 : decode mm_Ma_define.2.1 21 = .ok (.ifCond .ne 5, 3) := by decide +kernel
theorem dm_Ma_define_24 : decode mm_Ma_define.2.1 24 = .ok (.iconst 3, 1) := by decide +kernel
theorem dm_Ma_define_25 : decode mm_Ma_define.2.1 25 = .ok (.ireturn, 1) := by decide +kernel
theorem dm_Ma_define_26 : decode mm_Ma_define.2.1 26 = .ok (.aload_n 0, 1) := by decide +kernel
theorem dm_Ma_define_27 : decode mm_Ma_define.2.1 27 = .ok (.getfield 50, 3) := by decide +kernel
theorem dm_Ma_define_30 : decode mm_Ma_define.2.1 30 = .ok (.bipush 6, 2) := by decide +kernel
theorem dm_Ma_define_32 : decode mm_Ma_define.2.1 32 = .ok (.if_icmp .lt 5, 3) := by decide +kernel
theorem dm_Ma_define_35 : decode mm_Ma_define.2.1 35 = .ok (.iconst 4, 1) := by decide +kernel
theorem dm_Ma_define_36 : decode mm_Ma_define.2.1 36 = .ok (.ireturn, 1) := by decide +kernel
theorem dm_Ma_define_37 : decode mm_Ma_define.2.1 37 = .ok (.aload_n 0, 1) := by decide +kernel
theorem dm_Ma_define_38 : decode mm_Ma_define.2.1 38 = .ok (.getfield 10, 3) := by decide +kernel
theorem dm_Ma_define_41 : decode mm_Ma_define.2.1 41 = .ok (.bipush 11, 2) := by decide +kernel
theorem dm_Ma_define_43 : decode mm_Ma_define.2.1 43 = .ok (.aload_n 0, 1) := by decide +kernel
theorem dm_Ma_define_44 : decode mm_Ma_define.2.1 44 = .ok (.getfield 50, 3) := by decide +kernel
theorem dm_Ma_define_47 : decode mm_Ma_define.2.1 47 = .ok (.iconst 1, 1) := by decide +kernel
theorem dm_Ma_define_48 : decode mm_Ma_define.2.1 48 = .ok (.iadd, 1) := by decide +kernel
theorem dm_Ma_define_49 : decode mm_Ma_define.2.1 49 = .ok (.aload_n 2, 1) := by decide +kernel
theorem dm_Ma_define_50 : decode mm_Ma_define.2.1 50 = .ok (.invokevirtual 73, 3) := by decide +kernel
theorem dm_Ma_define_53 : decode mm_Ma_define.2.1 53 = .ok (.astore_n 3, 1) := by decide +kernel
theorem dm_Ma_define_54 : decode mm_Ma_define.2.1 54 = .ok (.aload_n 0, 1) := by decide +kernel
theorem dm_Ma_define_55 : decode mm_Ma_define.2.1 55 = .ok (.iconst 1, 1) := by decide +kernel
theorem dm_Ma_define_56 : decode mm_Ma_define.2.1 56 = .ok (.aload_n 0, 1) := by decide +kernel
theorem dm_Ma_define_57 : decode mm_Ma_define.2.1 57 = .ok (.getfield 46, 3) := by decide +kernel
theorem dm_Ma_define_60 : decode mm_Ma_define.2.1 60 = .ok (.aload_n 0, 1) := by decide +kernel
theorem dm_Ma_define_61 : decode mm_Ma_define.2.1 61 = .ok (.getfield 10, 3) := by decide +kernel
theorem dm_Ma_define_64 : decode mm_Ma_define.2.1 64 = .ok (.aload_n 2, 1) := by decide +kernel
theorem dm_Ma_define_65 : decode mm_Ma_define.2.1 65 = .ok (.aload_n 3, 1) := by decide +kernel
theorem dm_Ma_define_66 : decode mm_Ma_define.2.1 66 = .ok (.aload_n 1, 1) := by decide +kernel
theorem dm_Ma_define_67 : decode mm_Ma_define.2.1 67 = .ok (.invokevirtual 97, 3) := by decide +kernel
theorem dm_Ma_define_70 : decode mm_Ma_define.2.1 70 = .ok (.invokevirtual 101, 3) := by decide +kernel
theorem dm_Ma_define_73 : decode mm_Ma_define.2.1 73 = .ok (.istore 4, 2) := by decide +kernel
theorem dm_Ma_define_75 : decode mm_Ma_define.2.1 75 = .ok (.iload 4, 2) := by decide +kernel
theorem dm_Ma_define_77 : decode mm_Ma_define.2.1 77 = .ok (.ifCond .ne 23, 3) := by decide +kernel
theorem dm_Ma_define_80 : decode mm_Ma_define.2.1 80 = .ok (.aload_n 0, 1) := by decide +kernel
theorem dm_Ma_define_81 : decode mm_Ma_define.2.1 81 = .ok (.getfield 39, 3) := by decide +kernel
theorem dm_Ma_define_84 : decode mm_Ma_define.2.1 84 = .ok (.aload_n 0, 1) := by decide +kernel
theorem dm_Ma_define_85 : decode mm_Ma_define.2.1 85 = .ok (.getfield 50, 3) := by decide +kernel
theorem dm_Ma_define_88 : decode mm_Ma_define.2.1 88 = .ok (.aload_n 2, 1) := by decide +kernel
theorem dm_Ma_define_89 : decode mm_Ma_define.2.1 89 = .ok (.aastore, 1) := by decide +kernel
theorem dm_Ma_define_90 : decode mm_Ma_define.2.1 90 = .ok (.aload_n 0, 1) := by decide +kernel
theorem dm_Ma_define_91 : decode mm_Ma_define.2.1 91 = .ok (.dup, 1) := by decide +kernel
theorem dm_Ma_define_92 : decode mm_Ma_define.2.1 92 = .ok (.getfield 50, 3) := by decide +kernel
theorem dm_Ma_define_95 : decode mm_Ma_define.2.1 95 = .ok (.iconst 1, 1) := by decide +kernel
theorem dm_Ma_define_96 : decode mm_Ma_define.2.1 96 = .ok (.iadd, 1) := by decide +kernel
theorem dm_Ma_define_97 : decode mm_Ma_define.2.1 97 = .ok (.putfield 50, 3) := by decide +kernel
theorem dm_Ma_define_100 : decode mm_Ma_define.2.1 100 = .ok (.iload 4, 2) := by decide +kernel
theorem dm_Ma_define_102 : decode mm_Ma_define.2.1 102 = .ok (.ireturn, 1) := by decide +kernel
theorem dm_Ma_followEquation_0 : decode mm_Ma_followEquation.2.1 0 = .ok (.aload_n 0, 1) := by decide +kernel
theorem dm_Ma_followEquation_1 : decode mm_Ma_followEquation.2.1 1 = .ok (.aload_n 1, 1) := by decide +kernel
theorem dm_Ma_followEquation_2 : decode mm_Ma_followEquation.2.1 2 = .ok (.getfield 132, 3) := by decide +kernel
theorem dm_Ma_followEquation_5 : decode mm_Ma_followEquation.2.1 5 = .ok (.invokevirtual 136, 3) := by decide +kernel
theorem dm_Ma_followEquation_8 : decode mm_Ma_followEquation.2.1 8 = .ok (.astore_n 3, 1) := by decide +kernel
theorem dm_Ma_followEquation_9 : decode mm_Ma_followEquation.2.1 9 = .ok (.aload_n 3, 1) := by decide +kernel
theorem dm_Ma_followEquation_10 : decode mm_Ma_followEquation.2.1 10 = .ok (.ifnull 17, 3) := by decide +kernel
theorem dm_Ma_followEquation_13 : decode mm_Ma_followEquation.2.1 13 = .ok (.aload_n 3, 1) := by decide +kernel
theorem dm_Ma_followEquation_14 : decode mm_Ma_followEquation.2.1 14 = .ok (.getfield 147, 3) := by decide +kernel
theorem dm_Ma_followEquation_17 : decode mm_Ma_followEquation.2.1 17 = .ok (.aload_n 2, 1) := by decide +kernel
theorem dm_Ma_followEquation_18 : decode mm_Ma_followEquation.2.1 18 = .ok (.getfield 132, 3) := by decide +kernel
theorem dm_Ma_followEquation_21 : decode mm_Ma_followEquation.2.1 21 = .ok (.invokevirtual 158, 3) := by decide +kernel
theorem dm_Ma_followEquation_24 : decode mm_Ma_followEquation.2.1 24 = .ok (.ifCond .ne 5, 3) := by decide +kernel
theorem dm_Ma_followEquation_27 : decode mm_Ma_followEquation.2.1 27 = .ok (.iconst 2, 1) := by decide +kernel
theorem dm_Ma_followEquation_28 : decode mm_Ma_followEquation.2.1 28 = .ok (.ireturn, 1) := by decide +kernel
theorem dm_Ma_followEquation_29 : decode mm_Ma_followEquation.2.1 29 = .ok (.aload_n 0, 1) := by decide +kernel
theorem dm_Ma_followEquation_30 : decode mm_Ma_followEquation.2.1 30 = .ok (.iconst 2, 1) := by decide +kernel
theorem dm_Ma_followEquation_31 : decode mm_Ma_followEquation.2.1 31 = .ok (.aload_n 0, 1) := by decide +kernel
theorem dm_Ma_followEquation_32 : decode mm_Ma_followEquation.2.1 32 = .ok (.aload_n 1, 1) := by decide +kernel
theorem dm_Ma_followEquation_33 : decode mm_Ma_followEquation.2.1 33 = .ok (.aload_n 2, 1) := by decide +kernel
theorem dm_Ma_followEquation_34 : decode mm_Ma_followEquation.2.1 34 = .ok (.invokevirtual 235, 3) := by decide +kernel
theorem dm_Ma_followEquation_37 : decode mm_Ma_followEquation.2.1 37 = .ok (.aload_n 3, 1) := by decide +kernel
theorem dm_Ma_followEquation_38 : decode mm_Ma_followEquation.2.1 38 = .ok (.getfield 152, 3) := by decide +kernel
theorem dm_Ma_followEquation_41 : decode mm_Ma_followEquation.2.1 41 = .ok (.invokevirtual 101, 3) := by decide +kernel
theorem dm_Ma_followEquation_44 : decode mm_Ma_followEquation.2.1 44 = .ok (.ireturn, 1) := by decide +kernel
theorem dm_Ma_applyEquations_0 : decode mm_Ma_applyEquations.2.1 0 = .ok (.aload_n 0, 1) := by decide +kernel
theorem dm_Ma_applyEquations_1 : decode mm_Ma_applyEquations.2.1 1 = .ok (.aload_n 1, 1) := by decide +kernel
theorem dm_Ma_applyEquations_2 : decode mm_Ma_applyEquations.2.1 2 = .ok (.getfield 132, 3) := by decide +kernel
theorem dm_Ma_applyEquations_5 : decode mm_Ma_applyEquations.2.1 5 = .ok (.invokevirtual 136, 3) := by decide +kernel
theorem dm_Ma_applyEquations_8 : decode mm_Ma_applyEquations.2.1 8 = .ok (.astore_n 3, 1) := by decide +kernel
theorem dm_Ma_applyEquations_9 : decode mm_Ma_applyEquations.2.1 9 = .ok (.aload_n 0, 1) := by decide +kernel
theorem dm_Ma_applyEquations_10 : decode mm_Ma_applyEquations.2.1 10 = .ok (.aload_n 2, 1) := by decide +kernel
theorem dm_Ma_applyEquations_11 : decode mm_Ma_applyEquations.2.1 11 = .ok (.getfield 132, 3) := by decide +kernel
theorem dm_Ma_applyEquations_14 : decode mm_Ma_applyEquations.2.1 14 = .ok (.invokevirtual 136, 3) := by decide +kernel
theorem dm_Ma_applyEquations_17 : decode mm_Ma_applyEquations.2.1 17 = .ok (.astore 4, 2) := by decide +kernel
theorem dm_Ma_applyEquations_19 : decode mm_Ma_applyEquations.2.1 19 = .ok (.aload_n 3, 1) := by decide +kernel
theorem dm_Ma_applyEquations_20 : decode mm_Ma_applyEquations.2.1 20 = .ok (.ifnull 24, 3) := by decide +kernel
theorem dm_Ma_applyEquations_23 : decode mm_Ma_applyEquations.2.1 23 = .ok (.aload 4, 2) := by decide +kernel
theorem dm_Ma_applyEquations_25 : decode mm_Ma_applyEquations.2.1 25 = .ok (.ifnull 19, 3) := by decide +kernel
theorem dm_Ma_applyEquations_28 : decode mm_Ma_applyEquations.2.1 28 = .ok (.aload_n 0, 1) := by decide +kernel
theorem dm_Ma_applyEquations_29 : decode mm_Ma_applyEquations.2.1 29 = .ok (.aload_n 3, 1) := by decide +kernel
theorem dm_Ma_applyEquations_30 : decode mm_Ma_applyEquations.2.1 30 = .ok (.getfield 155, 3) := by decide +kernel
theorem dm_Ma_applyEquations_33 : decode mm_Ma_applyEquations.2.1 33 = .ok (.aload 4, 2) := by decide +kernel
theorem dm_Ma_applyEquations_35 : decode mm_Ma_applyEquations.2.1 35 = .ok (.getfield 155, 3) := by decide +kernel
theorem dm_Ma_applyEquations_38 : decode mm_Ma_applyEquations.2.1 38 = .ok (.invokevirtual 84, 3) := by decide +kernel
theorem dm_Ma_applyEquations_41 : decode mm_Ma_applyEquations.2.1 41 = .ok (.ifCond .ne 5, 3) := by decide +kernel
theorem dm_Ma_applyEquations_44 : decode mm_Ma_applyEquations.2.1 44 = .ok (.iconst 2, 1) := by decide +kernel
theorem dm_Ma_applyEquations_45 : decode mm_Ma_applyEquations.2.1 45 = .ok (.ireturn, 1) := by decide +kernel
theorem dm_Ma_applyEquations_46 : decode mm_Ma_applyEquations.2.1 46 = .ok (.aload_n 0, 1) := by decide +kernel
theorem dm_Ma_applyEquations_47 : decode mm_Ma_applyEquations.2.1 47 = .ok (.getfield 10, 3) := by decide +kernel
theorem dm_Ma_applyEquations_50 : decode mm_Ma_applyEquations.2.1 50 = .ok (.aload_n 3, 1) := by decide +kernel
theorem dm_Ma_applyEquations_51 : decode mm_Ma_applyEquations.2.1 51 = .ok (.getfield 147, 3) := by decide +kernel
theorem dm_Ma_applyEquations_54 : decode mm_Ma_applyEquations.2.1 54 = .ok (.aload 4, 2) := by decide +kernel
theorem dm_Ma_applyEquations_56 : decode mm_Ma_applyEquations.2.1 56 = .ok (.getfield 147, 3) := by decide +kernel
theorem dm_Ma_applyEquations_59 : decode mm_Ma_applyEquations.2.1 59 = .ok (.invokevirtual 88, 3) := by decide +kernel
theorem dm_Ma_applyEquations_62 : decode mm_Ma_applyEquations.2.1 62 = .ok (.astore 5, 2) := by decide +kernel
theorem dm_Ma_applyEquations_64 : decode mm_Ma_applyEquations.2.1 64 = .ok (.aload_n 0, 1) := by decide +kernel
theorem dm_Ma_applyEquations_65 : decode mm_Ma_applyEquations.2.1 65 = .ok (.getfield 10, 3) := by decide +kernel
theorem dm_Ma_applyEquations_68 : decode mm_Ma_applyEquations.2.1 68 = .ok (.aload_n 3, 1) := by decide +kernel
theorem dm_Ma_applyEquations_69 : decode mm_Ma_applyEquations.2.1 69 = .ok (.getfield 152, 3) := by decide +kernel
theorem dm_Ma_applyEquations_72 : decode mm_Ma_applyEquations.2.1 72 = .ok (.aload 4, 2) := by decide +kernel
theorem dm_Ma_applyEquations_74 : decode mm_Ma_applyEquations.2.1 74 = .ok (.getfield 152, 3) := by decide +kernel
theorem dm_Ma_applyEquations_77 : decode mm_Ma_applyEquations.2.1 77 = .ok (.invokevirtual 88, 3) := by decide +kernel
theorem dm_Ma_applyEquations_80 : decode mm_Ma_applyEquations.2.1 80 = .ok (.astore 6, 2) := by decide +kernel
theorem dm_Ma_applyEquations_82 : decode mm_Ma_applyEquations.2.1 82 = .ok (.aload_n 0, 1) := by decide +kernel
theorem dm_Ma_applyEquations_83 : decode mm_Ma_applyEquations.2.1 83 = .ok (.getfield 10, 3) := by decide +kernel
theorem dm_Ma_applyEquations_86 : decode mm_Ma_applyEquations.2.1 86 = .ok (.aload_n 3, 1) := by decide +kernel
theorem dm_Ma_applyEquations_87 : decode mm_Ma_applyEquations.2.1 87 = .ok (.getfield 155, 3) := by decide +kernel
theorem dm_Ma_applyEquations_90 : decode mm_Ma_applyEquations.2.1 90 = .ok (.invokevirtual 239, 3) := by decide +kernel
theorem dm_Ma_applyEquations_93 : decode mm_Ma_applyEquations.2.1 93 = .ok (.aload 5, 2) := by decide +kernel
theorem dm_Ma_applyEquations_95 : decode mm_Ma_applyEquations.2.1 95 = .ok (.aload 6, 2) := by decide +kernel
theorem dm_Ma_applyEquations_97 : decode mm_Ma_applyEquations.2.1 97 = .ok (.invokevirtual 97, 3) := by decide +kernel
theorem dm_Ma_applyEquations_100 : decode mm_Ma_applyEquations.2.1 100 = .ok (.astore 7, 2) := by decide +kernel
theorem dm_Ma_applyEquations_102 : decode mm_Ma_applyEquations.2.1 102 = .ok (.aload_n 0, 1) := by decide +kernel
theorem dm_Ma_applyEquations_103 : decode mm_Ma_applyEquations.2.1 103 = .ok (.iconst 2, 1) := by decide +kernel
theorem dm_Ma_applyEquations_104 : decode mm_Ma_applyEquations.2.1 104 = .ok (.aload_n 0, 1) := by decide +kernel
theorem dm_Ma_applyEquations_105 : decode mm_Ma_applyEquations.2.1 105 = .ok (.aload_n 1, 1) := by decide +kernel
theorem dm_Ma_applyEquations_106 : decode mm_Ma_applyEquations.2.1 106 = .ok (.aload_n 2, 1) := by decide +kernel
theorem dm_Ma_applyEquations_107 : decode mm_Ma_applyEquations.2.1 107 = .ok (.invokevirtual 235, 3) := by decide +kernel
theorem dm_Ma_applyEquations_110 : decode mm_Ma_applyEquations.2.1 110 = .ok (.aload 7, 2) := by decide +kernel
theorem dm_Ma_applyEquations_112 : decode mm_Ma_applyEquations.2.1 112 = .ok (.invokevirtual 101, 3) := by decide +kernel
theorem dm_Ma_applyEquations_115 : decode mm_Ma_applyEquations.2.1 115 = .ok (.ireturn, 1) := by decide +kernel
theorem dm_Ma_deduct_0 : decode mm_Ma_deduct.2.1 0 = .ok (.new 43, 3) := by decide +kernel
theorem dm_Ma_deduct_3 : decode mm_Ma_deduct.2.1 3 = .ok (.dup, 1) := by decide +kernel
theorem dm_Ma_deduct_4 : decode mm_Ma_deduct.2.1 4 = .ok (.invokespecial 45, 3) := by decide +kernel
theorem dm_Ma_deduct_7 : decode mm_Ma_deduct.2.1 7 = .ok (.astore_n 3, 1) := by decide +kernel
theorem dm_Ma_deduct_8 : decode mm_Ma_deduct.2.1 8 = .ok (.aload_n 3, 1) := by decide +kernel
theorem dm_Ma_deduct_9 : decode mm_Ma_deduct.2.1 9 = .ok (.aload_n 1, 1) := by decide +kernel
theorem dm_Ma_deduct_10 : decode mm_Ma_deduct.2.1 10 = .ok (.getfield 140, 3) := by decide +kernel
theorem dm_Ma_deduct_13 : decode mm_Ma_deduct.2.1 13 = .ok (.aload_n 2, 1) := by decide +kernel
theorem dm_Ma_deduct_14 : decode mm_Ma_deduct.2.1 14 = .ok (.getfield 132, 3) := by decide +kernel
theorem dm_Ma_deduct_17 : decode mm_Ma_deduct.2.1 17 = .ok (.invokevirtual 243, 3) := by decide +kernel
theorem dm_Ma_deduct_20 : decode mm_Ma_deduct.2.1 20 = .ok (.aload_n 3, 1) := by decide +kernel
theorem dm_Ma_deduct_21 : decode mm_Ma_deduct.2.1 21 = .ok (.aload_n 2, 1) := by decide +kernel
theorem dm_Ma_deduct_22 : decode mm_Ma_deduct.2.1 22 = .ok (.getfield 140, 3) := by decide +kernel
theorem dm_Ma_deduct_25 : decode mm_Ma_deduct.2.1 25 = .ok (.aload_n 1, 1) := by decide +kernel
theorem dm_Ma_deduct_26 : decode mm_Ma_deduct.2.1 26 = .ok (.getfield 132, 3) := by decide +kernel
theorem dm_Ma_deduct_29 : decode mm_Ma_deduct.2.1 29 = .ok (.invokevirtual 243, 3) := by decide +kernel
theorem dm_Ma_deduct_32 : decode mm_Ma_deduct.2.1 32 = .ok (.aload_n 0, 1) := by decide +kernel
theorem dm_Ma_deduct_33 : decode mm_Ma_deduct.2.1 33 = .ok (.getfield 10, 3) := by decide +kernel
theorem dm_Ma_deduct_36 : decode mm_Ma_deduct.2.1 36 = .ok (.iconst 1, 1) := by decide +kernel
theorem dm_Ma_deduct_37 : decode mm_Ma_deduct.2.1 37 = .ok (.invokevirtual 57, 3) := by decide +kernel
theorem dm_Ma_deduct_40 : decode mm_Ma_deduct.2.1 40 = .ok (.astore 4, 2) := by decide +kernel
theorem dm_Ma_deduct_42 : decode mm_Ma_deduct.2.1 42 = .ok (.aload_n 0, 1) := by decide +kernel
theorem dm_Ma_deduct_43 : decode mm_Ma_deduct.2.1 43 = .ok (.iconst 2, 1) := by decide +kernel
theorem dm_Ma_deduct_44 : decode mm_Ma_deduct.2.1 44 = .ok (.aload_n 3, 1) := by decide +kernel
theorem dm_Ma_deduct_45 : decode mm_Ma_deduct.2.1 45 = .ok (.aload_n 0, 1) := by decide +kernel
theorem dm_Ma_deduct_46 : decode mm_Ma_deduct.2.1 46 = .ok (.getfield 10, 3) := by decide +kernel
theorem dm_Ma_deduct_49 : decode mm_Ma_deduct.2.1 49 = .ok (.aload 4, 2) := by decide +kernel
theorem dm_Ma_deduct_51 : decode mm_Ma_deduct.2.1 51 = .ok (.aload_n 1, 1) := by decide +kernel
theorem dm_Ma_deduct_52 : decode mm_Ma_deduct.2.1 52 = .ok (.getfield 132, 3) := by decide +kernel
theorem dm_Ma_deduct_55 : decode mm_Ma_deduct.2.1 55 = .ok (.aload_n 2, 1) := by decide +kernel
theorem dm_Ma_deduct_56 : decode mm_Ma_deduct.2.1 56 = .ok (.getfield 132, 3) := by decide +kernel
theorem dm_Ma_deduct_59 : decode mm_Ma_deduct.2.1 59 = .ok (.invokevirtual 97, 3) := by decide +kernel
theorem dm_Ma_deduct_62 : decode mm_Ma_deduct.2.1 62 = .ok (.invokevirtual 101, 3) := by decide +kernel
theorem dm_Ma_deduct_65 : decode mm_Ma_deduct.2.1 65 = .ok (.ireturn, 1) := by decide +kernel
theorem dm_Ma_hypothesesOfBoth_0 : decode mm_Ma_hypothesesOfBoth.2.1 0 = .ok (.new 43, 3) := by decide +kernel
theorem dm_Ma_hypothesesOfBoth_3 : decode mm_Ma_hypothesesOfBoth.2.1 3 = .ok (.dup, 1) := by decide +kernel
theorem dm_Ma_hypothesesOfBoth_4 : decode mm_Ma_hypothesesOfBoth.2.1 4 = .ok (.invokespecial 45, 3) := by decide +kernel
theorem dm_Ma_hypothesesOfBoth_7 : decode mm_Ma_hypothesesOfBoth.2.1 7 = .ok (.astore_n 3, 1) := by decide +kernel
theorem dm_Ma_hypothesesOfBoth_8 : decode mm_Ma_hypothesesOfBoth.2.1 8 = .ok (.aload_n 3, 1) := by decide +kernel
theorem dm_Ma_hypothesesOfBoth_9 : decode mm_Ma_hypothesesOfBoth.2.1 9 = .ok (.aload_n 1, 1) := by decide +kernel
theorem dm_Ma_hypothesesOfBoth_10 : decode mm_Ma_hypothesesOfBoth.2.1 10 = .ok (.getfield 140, 3) := by decide +kernel
theorem dm_Ma_hypothesesOfBoth_13 : decode mm_Ma_hypothesesOfBoth.2.1 13 = .ok (.invokevirtual 247, 3) := by decide +kernel
theorem dm_Ma_hypothesesOfBoth_16 : decode mm_Ma_hypothesesOfBoth.2.1 16 = .ok (.aload_n 3, 1) := by decide +kernel
theorem dm_Ma_hypothesesOfBoth_17 : decode mm_Ma_hypothesesOfBoth.2.1 17 = .ok (.aload_n 2, 1) := by decide +kernel
theorem dm_Ma_hypothesesOfBoth_18 : decode mm_Ma_hypothesesOfBoth.2.1 18 = .ok (.getfield 140, 3) := by decide +kernel
theorem dm_Ma_hypothesesOfBoth_21 : decode mm_Ma_hypothesesOfBoth.2.1 21 = .ok (.invokevirtual 247, 3) := by decide +kernel
theorem dm_Ma_hypothesesOfBoth_24 : decode mm_Ma_hypothesesOfBoth.2.1 24 = .ok (.aload_n 3, 1) := by decide +kernel
theorem dm_Ma_hypothesesOfBoth_25 : decode mm_Ma_hypothesesOfBoth.2.1 25 = .ok (.areturn, 1) := by decide +kernel
theorem dm_Ma_equationIn_0 : decode mm_Ma_equationIn.2.1 0 = .ok (.aload_n 1, 1) := by decide +kernel
theorem dm_Ma_equationIn_1 : decode mm_Ma_equationIn.2.1 1 = .ok (.iconst 0, 1) := by decide +kernel
theorem dm_Ma_equationIn_2 : decode mm_Ma_equationIn.2.1 2 = .ok (.invokevirtual 211, 3) := by decide +kernel
theorem dm_Ma_equationIn_5 : decode mm_Ma_equationIn.2.1 5 = .ok (.bipush 12, 2) := by decide +kernel
theorem dm_Ma_equationIn_7 : decode mm_Ma_equationIn.2.1 7 = .ok (.if_icmp .ne 35, 3) := by decide +kernel
theorem dm_Ma_equationIn_10 : decode mm_Ma_equationIn.2.1 10 = .ok (.aload_n 1, 1) := by decide +kernel
theorem dm_Ma_equationIn_11 : decode mm_Ma_equationIn.2.1 11 = .ok (.iconst 1, 1) := by decide +kernel
theorem dm_Ma_equationIn_12 : decode mm_Ma_equationIn.2.1 12 = .ok (.invokevirtual 211, 3) := by decide +kernel
theorem dm_Ma_equationIn_15 : decode mm_Ma_equationIn.2.1 15 = .ok (.bipush 12, 2) := by decide +kernel
theorem dm_Ma_equationIn_17 : decode mm_Ma_equationIn.2.1 17 = .ok (.if_icmp .ne 25, 3) := by decide +kernel
theorem dm_Ma_equationIn_20 : decode mm_Ma_equationIn.2.1 20 = .ok (.aload_n 1, 1) := by decide +kernel
theorem dm_Ma_equationIn_21 : decode mm_Ma_equationIn.2.1 21 = .ok (.iconst 2, 1) := by decide +kernel
theorem dm_Ma_equationIn_22 : decode mm_Ma_equationIn.2.1 22 = .ok (.invokevirtual 211, 3) := by decide +kernel
theorem dm_Ma_equationIn_25 : decode mm_Ma_equationIn.2.1 25 = .ok (.bipush 11, 2) := by decide +kernel
theorem dm_Ma_equationIn_27 : decode mm_Ma_equationIn.2.1 27 = .ok (.if_icmp .ne 15, 3) := by decide +kernel
theorem dm_Ma_equationIn_30 : decode mm_Ma_equationIn.2.1 30 = .ok (.aload_n 1, 1) := by decide +kernel
theorem dm_Ma_equationIn_31 : decode mm_Ma_equationIn.2.1 31 = .ok (.iconst 3, 1) := by decide +kernel
theorem dm_Ma_equationIn_32 : decode mm_Ma_equationIn.2.1 32 = .ok (.invokevirtual 211, 3) := by decide +kernel
theorem dm_Ma_equationIn_35 : decode mm_Ma_equationIn.2.1 35 = .ok (.ifCond .ne 7, 3) := by decide +kernel
theorem dm_Ma_equationIn_38 : decode mm_Ma_equationIn.2.1 38 = .ok (.iconst 1, 1) := by decide +kernel
theorem dm_Ma_equationIn_39 : decode mm_Ma_equationIn.2.1 39 = .ok (.goto 4, 3) := by decide +kernel
theorem dm_Ma_equationIn_42 : decode mm_Ma_equationIn.2.1 42 = .ok (.iconst 0, 1) := by decide +kernel
theorem dm_Ma_equationIn_43 : decode mm_Ma_equationIn.2.1 43 = .ok (.istore_n 2, 1) := by decide +kernel
theorem dm_Ma_equationIn_44 : decode mm_Ma_equationIn.2.1 44 = .ok (.iload_n 2, 1) := by decide +kernel
theorem dm_Ma_equationIn_45 : decode mm_Ma_equationIn.2.1 45 = .ok (.ifCond .eq 14, 3) := by decide +kernel
theorem dm_Ma_equationIn_48 : decode mm_Ma_equationIn.2.1 48 = .ok (.new 148, 3) := by decide +kernel
theorem dm_Ma_equationIn_51 : decode mm_Ma_equationIn.2.1 51 = .ok (.dup, 1) := by decide +kernel
theorem dm_Ma_equationIn_52 : decode mm_Ma_equationIn.2.1 52 = .ok (.aload_n 1, 1) := by decide +kernel
theorem dm_Ma_equationIn_53 : decode mm_Ma_equationIn.2.1 53 = .ok (.invokespecial 251, 3) := by decide +kernel
theorem dm_Ma_equationIn_56 : decode mm_Ma_equationIn.2.1 56 = .ok (.goto 4, 3) := by decide +kernel
theorem dm_Ma_equationIn_59 : decode mm_Ma_equationIn.2.1 59 = .ok (.aconst_null, 1) := by decide +kernel
theorem dm_Ma_equationIn_60 : decode mm_Ma_equationIn.2.1 60 = .ok (.areturn, 1) := by decide +kernel
theorem dm_Ma_takesArgument_0 : decode mm_Ma_takesArgument.2.1 0 = .ok (.aload_n 1, 1) := by decide +kernel
theorem dm_Ma_takesArgument_1 : decode mm_Ma_takesArgument.2.1 1 = .ok (.iconst 0, 1) := by decide +kernel
theorem dm_Ma_takesArgument_2 : decode mm_Ma_takesArgument.2.1 2 = .ok (.invokevirtual 211, 3) := by decide +kernel
theorem dm_Ma_takesArgument_5 : decode mm_Ma_takesArgument.2.1 5 = .ok (.ifCond .ne 18, 3) := by decide +kernel
theorem dm_Ma_takesArgument_8 : decode mm_Ma_takesArgument.2.1 8 = .ok (.aload_n 1, 1) := by decide +kernel
theorem dm_Ma_takesArgument_9 : decode mm_Ma_takesArgument.2.1 9 = .ok (.invokevirtual 253, 3) := by decide +kernel
theorem dm_Ma_takesArgument_12 : decode mm_Ma_takesArgument.2.1 12 = .ok (.aload_n 2, 1) := by decide +kernel
theorem dm_Ma_takesArgument_13 : decode mm_Ma_takesArgument.2.1 13 = .ok (.invokevirtual 158, 3) := by decide +kernel
theorem dm_Ma_takesArgument_16 : decode mm_Ma_takesArgument.2.1 16 = .ok (.ifCond .eq 7, 3) := by decide +kernel
theorem dm_Ma_takesArgument_19 : decode mm_Ma_takesArgument.2.1 19 = .ok (.iconst 1, 1) := by decide +kernel
theorem dm_Ma_takesArgument_20 : decode mm_Ma_takesArgument.2.1 20 = .ok (.goto 4, 3) := by decide +kernel
theorem dm_Ma_takesArgument_23 : decode mm_Ma_takesArgument.2.1 23 = .ok (.iconst 0, 1) := by decide +kernel
theorem dm_Ma_takesArgument_24 : decode mm_Ma_takesArgument.2.1 24 = .ok (.ireturn, 1) := by decide +kernel
theorem dm_Ma_finishType_0 : decode mm_Ma_finishType.2.1 0 = .ok (.aload_n 0, 1) := by decide +kernel
theorem dm_Ma_finishType_1 : decode mm_Ma_finishType.2.1 1 = .ok (.iload_n 1, 1) := by decide +kernel
theorem dm_Ma_finishType_2 : decode mm_Ma_finishType.2.1 2 = .ok (.new 31, 3) := by decide +kernel
theorem dm_Ma_finishType_5 : decode mm_Ma_finishType.2.1 5 = .ok (.dup, 1) := by decide +kernel
theorem dm_Ma_finishType_6 : decode mm_Ma_finishType.2.1 6 = .ok (.iconst 0, 1) := by decide +kernel
theorem dm_Ma_finishType_7 : decode mm_Ma_finishType.2.1 7 = .ok (.aload_n 2, 1) := by decide +kernel
theorem dm_Ma_finishType_8 : decode mm_Ma_finishType.2.1 8 = .ok (.aload_n 0, 1) := by decide +kernel
theorem dm_Ma_finishType_9 : decode mm_Ma_finishType.2.1 9 = .ok (.getfield 46, 3) := by decide +kernel
theorem dm_Ma_finishType_12 : decode mm_Ma_finishType.2.1 12 = .ok (.invokespecial 226, 3) := by decide +kernel
theorem dm_Ma_finishType_15 : decode mm_Ma_finishType.2.1 15 = .ok (.invokevirtual 182, 3) := by decide +kernel
theorem dm_Ma_finishType_18 : decode mm_Ma_finishType.2.1 18 = .ok (.ireturn, 1) := by decide +kernel
theorem dm_Ma_finishTerm_0 : decode mm_Ma_finishTerm.2.1 0 = .ok (.aload_n 0, 1) := by decide +kernel
theorem dm_Ma_finishTerm_1 : decode mm_Ma_finishTerm.2.1 1 = .ok (.iload_n 1, 1) := by decide +kernel
theorem dm_Ma_finishTerm_2 : decode mm_Ma_finishTerm.2.1 2 = .ok (.new 31, 3) := by decide +kernel
theorem dm_Ma_finishTerm_5 : decode mm_Ma_finishTerm.2.1 5 = .ok (.dup, 1) := by decide +kernel
theorem dm_Ma_finishTerm_6 : decode mm_Ma_finishTerm.2.1 6 = .ok (.iconst 1, 1) := by decide +kernel
theorem dm_Ma_finishTerm_7 : decode mm_Ma_finishTerm.2.1 7 = .ok (.aload_n 2, 1) := by decide +kernel
theorem dm_Ma_finishTerm_8 : decode mm_Ma_finishTerm.2.1 8 = .ok (.aload_n 0, 1) := by decide +kernel
theorem dm_Ma_finishTerm_9 : decode mm_Ma_finishTerm.2.1 9 = .ok (.getfield 46, 3) := by decide +kernel
theorem dm_Ma_finishTerm_12 : decode mm_Ma_finishTerm.2.1 12 = .ok (.invokespecial 226, 3) := by decide +kernel
theorem dm_Ma_finishTerm_15 : decode mm_Ma_finishTerm.2.1 15 = .ok (.invokevirtual 182, 3) := by decide +kernel
theorem dm_Ma_finishTerm_18 : decode mm_Ma_finishTerm.2.1 18 = .ok (.ireturn, 1) := by decide +kernel
theorem dm_Ma_finishTheorem_0 : decode mm_Ma_finishTheorem.2.1 0 = .ok (.aload_n 0, 1) := by decide +kernel
theorem dm_Ma_finishTheorem_1 : decode mm_Ma_finishTheorem.2.1 1 = .ok (.iload_n 1, 1) := by decide +kernel
theorem dm_Ma_finishTheorem_2 : decode mm_Ma_finishTheorem.2.1 2 = .ok (.new 31, 3) := by decide +kernel
theorem dm_Ma_finishTheorem_5 : decode mm_Ma_finishTheorem.2.1 5 = .ok (.dup, 1) := by decide +kernel
theorem dm_Ma_finishTheorem_6 : decode mm_Ma_finishTheorem.2.1 6 = .ok (.iconst 2, 1) := by decide +kernel
theorem dm_Ma_finishTheorem_7 : decode mm_Ma_finishTheorem.2.1 7 = .ok (.aload_n 3, 1) := by decide +kernel
theorem dm_Ma_finishTheorem_8 : decode mm_Ma_finishTheorem.2.1 8 = .ok (.aload_n 2, 1) := by decide +kernel
theorem dm_Ma_finishTheorem_9 : decode mm_Ma_finishTheorem.2.1 9 = .ok (.invokespecial 226, 3) := by decide +kernel
theorem dm_Ma_finishTheorem_12 : decode mm_Ma_finishTheorem.2.1 12 = .ok (.invokevirtual 182, 3) := by decide +kernel
theorem dm_Ma_finishTheorem_15 : decode mm_Ma_finishTheorem.2.1 15 = .ok (.ireturn, 1) := by decide +kernel
theorem dm_Ma_finish_0 : decode mm_Ma_finish.2.1 0 = .ok (.aload_n 2, 1) := by decide +kernel
theorem dm_Ma_finish_1 : decode mm_Ma_finish.2.1 1 = .ok (.invokevirtual 256, 3) := by decide +kernel
theorem dm_Ma_finish_4 : decode mm_Ma_finish.2.1 4 = .ok (.ifCond .eq 17, 3) := by decide +kernel
theorem dm_Ma_finish_7 : decode mm_Ma_finish.2.1 7 = .ok (.aload_n 0, 1) := by decide +kernel
theorem dm_Ma_finish_8 : decode mm_Ma_finish.2.1 8 = .ok (.getfield 21, 3) := by decide +kernel
theorem dm_Ma_finish_11 : decode mm_Ma_finish.2.1 11 = .ok (.getfield 200, 3) := by decide +kernel
theorem dm_Ma_finish_14 : decode mm_Ma_finish.2.1 14 = .ok (.iload_n 1, 1) := by decide +kernel
theorem dm_Ma_finish_15 : decode mm_Ma_finish.2.1 15 = .ok (.isub, 1) := by decide +kernel
theorem dm_Ma_finish_16 : decode mm_Ma_finish.2.1 16 = .ok (.bipush 12, 2) := by decide +kernel
theorem dm_Ma_finish_18 : decode mm_Ma_finish.2.1 18 = .ok (.if_icmp .lt 5, 3) := by decide +kernel
theorem dm_Ma_finish_21 : decode mm_Ma_finish.2.1 21 = .ok (.iconst 4, 1) := by decide +kernel
theorem dm_Ma_finish_22 : decode mm_Ma_finish.2.1 22 = .ok (.ireturn, 1) := by decide +kernel
theorem dm_Ma_finish_23 : decode mm_Ma_finish.2.1 23 = .ok (.aload_n 0, 1) := by decide +kernel
theorem dm_Ma_finish_24 : decode mm_Ma_finish.2.1 24 = .ok (.iload_n 1, 1) := by decide +kernel
theorem dm_Ma_finish_25 : decode mm_Ma_finish.2.1 25 = .ok (.invokevirtual 189, 3) := by decide +kernel
theorem dm_Ma_finish_28 : decode mm_Ma_finish.2.1 28 = .ok (.istore_n 3, 1) := by decide +kernel
theorem dm_Ma_finish_29 : decode mm_Ma_finish.2.1 29 = .ok (.iload_n 3, 1) := by decide +kernel
theorem dm_Ma_finish_30 : decode mm_Ma_finish.2.1 30 = .ok (.ifCond .ne 11, 3) := by decide +kernel
theorem dm_Ma_finish_33 : decode mm_Ma_finish.2.1 33 = .ok (.aload_n 0, 1) := by decide +kernel
theorem dm_Ma_finish_34 : decode mm_Ma_finish.2.1 34 = .ok (.getfield 21, 3) := by decide +kernel
theorem dm_Ma_finish_37 : decode mm_Ma_finish.2.1 37 = .ok (.aload_n 2, 1) := by decide +kernel
theorem dm_Ma_finish_38 : decode mm_Ma_finish.2.1 38 = .ok (.invokevirtual 197, 3) := by decide +kernel
theorem dm_Ma_finish_41 : decode mm_Ma_finish.2.1 41 = .ok (.iload_n 3, 1) := by decide +kernel
theorem dm_Ma_finish_42 : decode mm_Ma_finish.2.1 42 = .ok (.ireturn, 1) := by decide +kernel
theorem dm_Ma_finishEmptyHanded_0 : decode mm_Ma_finishEmptyHanded.2.1 0 = .ok (.aload_n 0, 1) := by decide +kernel
theorem dm_Ma_finishEmptyHanded_1 : decode mm_Ma_finishEmptyHanded.2.1 1 = .ok (.getfield 54, 3) := by decide +kernel
theorem dm_Ma_finishEmptyHanded_4 : decode mm_Ma_finishEmptyHanded.2.1 4 = .ok (.bipush 120, 2) := by decide +kernel
theorem dm_Ma_finishEmptyHanded_6 : decode mm_Ma_finishEmptyHanded.2.1 6 = .ok (.if_icmp .lt 5, 3) := by decide +kernel
theorem dm_Ma_finishEmptyHanded_9 : decode mm_Ma_finishEmptyHanded.2.1 9 = .ok (.iconst 4, 1) := by decide +kernel
theorem dm_Ma_finishEmptyHanded_10 : decode mm_Ma_finishEmptyHanded.2.1 10 = .ok (.ireturn, 1) := by decide +kernel
theorem dm_Ma_finishEmptyHanded_11 : decode mm_Ma_finishEmptyHanded.2.1 11 = .ok (.aload_n 0, 1) := by decide +kernel
theorem dm_Ma_finishEmptyHanded_12 : decode mm_Ma_finishEmptyHanded.2.1 12 = .ok (.dup, 1) := by decide +kernel
theorem dm_Ma_finishEmptyHanded_13 : decode mm_Ma_finishEmptyHanded.2.1 13 = .ok (.getfield 54, 3) := by decide +kernel
theorem dm_Ma_finishEmptyHanded_16 : decode mm_Ma_finishEmptyHanded.2.1 16 = .ok (.iconst 1, 1) := by decide +kernel
theorem dm_Ma_finishEmptyHanded_17 : decode mm_Ma_finishEmptyHanded.2.1 17 = .ok (.iadd, 1) := by decide +kernel
theorem dm_Ma_finishEmptyHanded_18 : decode mm_Ma_finishEmptyHanded.2.1 18 = .ok (.putfield 54, 3) := by decide +kernel
theorem dm_Ma_finishEmptyHanded_21 : decode mm_Ma_finishEmptyHanded.2.1 21 = .ok (.aload_n 0, 1) := by decide +kernel
theorem dm_Ma_finishEmptyHanded_22 : decode mm_Ma_finishEmptyHanded.2.1 22 = .ok (.getfield 21, 3) := by decide +kernel
theorem dm_Ma_finishEmptyHanded_25 : decode mm_Ma_finishEmptyHanded.2.1 25 = .ok (.iload_n 1, 1) := by decide +kernel
theorem dm_Ma_finishEmptyHanded_26 : decode mm_Ma_finishEmptyHanded.2.1 26 = .ok (.invokevirtual 259, 3) := by decide +kernel
theorem dm_Ma_finishEmptyHanded_29 : decode mm_Ma_finishEmptyHanded.2.1 29 = .ok (.iconst 0, 1) := by decide +kernel
theorem dm_Ma_finishEmptyHanded_30 : decode mm_Ma_finishEmptyHanded.2.1 30 = .ok (.ireturn, 1) := by decide +kernel
theorem dm_Ma_itemBelow_0 : decode mm_Ma_itemBelow.2.1 0 = .ok (.aload_n 0, 1) := by decide +kernel
theorem dm_Ma_itemBelow_1 : decode mm_Ma_itemBelow.2.1 1 = .ok (.getfield 21, 3) := by decide +kernel
theorem dm_Ma_itemBelow_4 : decode mm_Ma_itemBelow.2.1 4 = .ok (.iload_n 1, 1) := by decide +kernel
theorem dm_Ma_itemBelow_5 : decode mm_Ma_itemBelow.2.1 5 = .ok (.invokevirtual 178, 3) := by decide +kernel
theorem dm_Ma_itemBelow_8 : decode mm_Ma_itemBelow.2.1 8 = .ok (.astore_n 3, 1) := by decide +kernel
theorem dm_Ma_itemBelow_9 : decode mm_Ma_itemBelow.2.1 9 = .ok (.aload_n 3, 1) := by decide +kernel
theorem dm_Ma_itemBelow_10 : decode mm_Ma_itemBelow.2.1 10 = .ok (.ifnull 15, 3) := by decide +kernel
theorem dm_Ma_itemBelow_13 : decode mm_Ma_itemBelow.2.1 13 = .ok (.aload_n 3, 1) := by decide +kernel
theorem dm_Ma_itemBelow_14 : decode mm_Ma_itemBelow.2.1 14 = .ok (.getfield 204, 3) := by decide +kernel
theorem dm_Ma_itemBelow_17 : decode mm_Ma_itemBelow.2.1 17 = .ok (.iload_n 2, 1) := by decide +kernel
theorem dm_Ma_itemBelow_18 : decode mm_Ma_itemBelow.2.1 18 = .ok (.if_icmp .ne 7, 3) := by decide +kernel
theorem dm_Ma_itemBelow_21 : decode mm_Ma_itemBelow.2.1 21 = .ok (.aload_n 3, 1) := by decide +kernel
theorem dm_Ma_itemBelow_22 : decode mm_Ma_itemBelow.2.1 22 = .ok (.goto 4, 3) := by decide +kernel
theorem dm_Ma_itemBelow_25 : decode mm_Ma_itemBelow.2.1 25 = .ok (.aconst_null, 1) := by decide +kernel
theorem dm_Ma_itemBelow_26 : decode mm_Ma_itemBelow.2.1 26 = .ok (.areturn, 1) := by decide +kernel
theorem dm_Ma_rowBelow_0 : decode mm_Ma_rowBelow.2.1 0 = .ok (.aload_n 0, 1) := by decide +kernel
theorem dm_Ma_rowBelow_1 : decode mm_Ma_rowBelow.2.1 1 = .ok (.iload_n 1, 1) := by decide +kernel
theorem dm_Ma_rowBelow_2 : decode mm_Ma_rowBelow.2.1 2 = .ok (.iload_n 2, 1) := by decide +kernel
theorem dm_Ma_rowBelow_3 : decode mm_Ma_rowBelow.2.1 3 = .ok (.invokevirtual 118, 3) := by decide +kernel
theorem dm_Ma_rowBelow_6 : decode mm_Ma_rowBelow.2.1 6 = .ok (.astore_n 3, 1) := by decide +kernel
theorem dm_Ma_rowBelow_7 : decode mm_Ma_rowBelow.2.1 7 = .ok (.aload_n 3, 1) := by decide +kernel
theorem dm_Ma_rowBelow_8 : decode mm_Ma_rowBelow.2.1 8 = .ok (.ifnonnull 7, 3) := by decide +kernel
theorem dm_Ma_rowBelow_11 : decode mm_Ma_rowBelow.2.1 11 = .ok (.aconst_null, 1) := by decide +kernel
theorem dm_Ma_rowBelow_12 : decode mm_Ma_rowBelow.2.1 12 = .ok (.goto 7, 3) := by decide +kernel
theorem dm_Ma_rowBelow_15 : decode mm_Ma_rowBelow.2.1 15 = .ok (.aload_n 3, 1) := by decide +kernel
theorem dm_Ma_rowBelow_16 : decode mm_Ma_rowBelow.2.1 16 = .ok (.getfield 132, 3) := by decide +kernel
theorem dm_Ma_rowBelow_19 : decode mm_Ma_rowBelow.2.1 19 = .ok (.areturn, 1) := by decide +kernel
theorem dm_Ma_variableBelow_0 : decode mm_Ma_variableBelow.2.1 0 = .ok (.aload_n 0, 1) := by decide +kernel
theorem dm_Ma_variableBelow_1 : decode mm_Ma_variableBelow.2.1 1 = .ok (.iload_n 1, 1) := by decide +kernel
theorem dm_Ma_variableBelow_2 : decode mm_Ma_variableBelow.2.1 2 = .ok (.iconst 1, 1) := by decide +kernel
theorem dm_Ma_variableBelow_3 : decode mm_Ma_variableBelow.2.1 3 = .ok (.invokevirtual 65, 3) := by decide +kernel
theorem dm_Ma_variableBelow_6 : decode mm_Ma_variableBelow.2.1 6 = .ok (.astore_n 2, 1) := by decide +kernel
theorem dm_Ma_variableBelow_7 : decode mm_Ma_variableBelow.2.1 7 = .ok (.aload_n 2, 1) := by decide +kernel
theorem dm_Ma_variableBelow_8 : decode mm_Ma_variableBelow.2.1 8 = .ok (.ifnull 17, 3) := by decide +kernel
theorem dm_Ma_variableBelow_11 : decode mm_Ma_variableBelow.2.1 11 = .ok (.aload_n 2, 1) := by decide +kernel
theorem dm_Ma_variableBelow_12 : decode mm_Ma_variableBelow.2.1 12 = .ok (.iconst 0, 1) := by decide +kernel
theorem dm_Ma_variableBelow_13 : decode mm_Ma_variableBelow.2.1 13 = .ok (.invokevirtual 211, 3) := by decide +kernel
theorem dm_Ma_variableBelow_16 : decode mm_Ma_variableBelow.2.1 16 = .ok (.bipush 10, 2) := by decide +kernel
theorem dm_Ma_variableBelow_18 : decode mm_Ma_variableBelow.2.1 18 = .ok (.if_icmp .ne 7, 3) := by decide +kernel
theorem dm_Ma_variableBelow_21 : decode mm_Ma_variableBelow.2.1 21 = .ok (.aload_n 2, 1) := by decide +kernel
theorem dm_Ma_variableBelow_22 : decode mm_Ma_variableBelow.2.1 22 = .ok (.goto 4, 3) := by decide +kernel
theorem dm_Ma_variableBelow_25 : decode mm_Ma_variableBelow.2.1 25 = .ok (.aconst_null, 1) := by decide +kernel
theorem dm_Ma_variableBelow_26 : decode mm_Ma_variableBelow.2.1 26 = .ok (.areturn, 1) := by decide +kernel
theorem dm_Ma_keptFor_0 : decode mm_Ma_keptFor.2.1 0 = .ok (.iload_n 1, 1) := by decide +kernel
theorem dm_Ma_keptFor_1 : decode mm_Ma_keptFor.2.1 1 = .ok (.ifCond .lt 18, 3) := by decide +kernel
theorem dm_Ma_keptFor_4 : decode mm_Ma_keptFor.2.1 4 = .ok (.iload_n 1, 1) := by decide +kernel
theorem dm_Ma_keptFor_5 : decode mm_Ma_keptFor.2.1 5 = .ok (.bipush 6, 2) := by decide +kernel
theorem dm_Ma_keptFor_7 : decode mm_Ma_keptFor.2.1 7 = .ok (.if_icmp .ge 12, 3) := by decide +kernel
theorem dm_Ma_keptFor_10 : decode mm_Ma_keptFor.2.1 10 = .ok (.aload_n 0, 1) := by decide +kernel
theorem dm_Ma_keptFor_11 : decode mm_Ma_keptFor.2.1 11 = .ok (.getfield 33, 3) := by decide +kernel
theorem dm_Ma_keptFor_14 : decode mm_Ma_keptFor.2.1 14 = .ok (.iload_n 1, 1) := by decide +kernel
theorem dm_Ma_keptFor_15 : decode mm_Ma_keptFor.2.1 15 = .ok (.aaload, 1) := by decide +kernel
theorem dm_Ma_keptFor_16 : decode mm_Ma_keptFor.2.1 16 = .ok (.goto 4, 3) := by decide +kernel
theorem dm_Ma_keptFor_19 : decode mm_Ma_keptFor.2.1 19 = .ok (.aconst_null, 1) := by decide +kernel
theorem dm_Ma_keptFor_20 : decode mm_Ma_keptFor.2.1 20 = .ok (.areturn, 1) := by decide +kernel
theorem dm_Ma_itemAt_0 : decode mm_Ma_itemAt.2.1 0 = .ok (.iload_n 1, 1) := by decide +kernel
theorem dm_Ma_itemAt_1 : decode mm_Ma_itemAt.2.1 1 = .ok (.sipush 300, 3) := by decide +kernel
theorem dm_Ma_itemAt_4 : decode mm_Ma_itemAt.2.1 4 = .ok (.if_icmp .lt 16, 3) := by decide +kernel
theorem dm_Ma_itemAt_7 : decode mm_Ma_itemAt.2.1 7 = .ok (.aload_n 0, 1) := by decide +kernel
theorem dm_Ma_itemAt_8 : decode mm_Ma_itemAt.2.1 8 = .ok (.getfield 28, 3) := by decide +kernel
theorem dm_Ma_itemAt_11 : decode mm_Ma_itemAt.2.1 11 = .ok (.iload_n 1, 1) := by decide +kernel
theorem dm_Ma_itemAt_12 : decode mm_Ma_itemAt.2.1 12 = .ok (.sipush 300, 3) := by decide +kernel
theorem dm_Ma_itemAt_15 : decode mm_Ma_itemAt.2.1 15 = .ok (.isub, 1) := by decide +kernel
theorem dm_Ma_itemAt_16 : decode mm_Ma_itemAt.2.1 16 = .ok (.invokevirtual 262, 3) := by decide +kernel
theorem dm_Ma_itemAt_19 : decode mm_Ma_itemAt.2.1 19 = .ok (.areturn, 1) := by decide +kernel
theorem dm_Ma_itemAt_20 : decode mm_Ma_itemAt.2.1 20 = .ok (.iload_n 1, 1) := by decide +kernel
theorem dm_Ma_itemAt_21 : decode mm_Ma_itemAt.2.1 21 = .ok (.sipush 200, 3) := by decide +kernel
theorem dm_Ma_itemAt_24 : decode mm_Ma_itemAt.2.1 24 = .ok (.if_icmp .lt 16, 3) := by decide +kernel
theorem dm_Ma_itemAt_27 : decode mm_Ma_itemAt.2.1 27 = .ok (.aload_n 0, 1) := by decide +kernel
theorem dm_Ma_itemAt_28 : decode mm_Ma_itemAt.2.1 28 = .ok (.getfield 25, 3) := by decide +kernel
theorem dm_Ma_itemAt_31 : decode mm_Ma_itemAt.2.1 31 = .ok (.iload_n 1, 1) := by decide +kernel
theorem dm_Ma_itemAt_32 : decode mm_Ma_itemAt.2.1 32 = .ok (.sipush 200, 3) := by decide +kernel
theorem dm_Ma_itemAt_35 : decode mm_Ma_itemAt.2.1 35 = .ok (.isub, 1) := by decide +kernel
theorem dm_Ma_itemAt_36 : decode mm_Ma_itemAt.2.1 36 = .ok (.invokevirtual 262, 3) := by decide +kernel
theorem dm_Ma_itemAt_39 : decode mm_Ma_itemAt.2.1 39 = .ok (.areturn, 1) := by decide +kernel
theorem dm_Ma_itemAt_40 : decode mm_Ma_itemAt.2.1 40 = .ok (.iload_n 1, 1) := by decide +kernel
theorem dm_Ma_itemAt_41 : decode mm_Ma_itemAt.2.1 41 = .ok (.bipush 100, 2) := by decide +kernel
theorem dm_Ma_itemAt_43 : decode mm_Ma_itemAt.2.1 43 = .ok (.if_icmp .lt 12, 3) := by decide +kernel
theorem dm_Ma_itemAt_46 : decode mm_Ma_itemAt.2.1 46 = .ok (.aload_n 0, 1) := by decide +kernel
theorem dm_Ma_itemAt_47 : decode mm_Ma_itemAt.2.1 47 = .ok (.iload_n 1, 1) := by decide +kernel
theorem dm_Ma_itemAt_48 : decode mm_Ma_itemAt.2.1 48 = .ok (.bipush 100, 2) := by decide +kernel
theorem dm_Ma_itemAt_50 : decode mm_Ma_itemAt.2.1 50 = .ok (.isub, 1) := by decide +kernel
theorem dm_Ma_itemAt_51 : decode mm_Ma_itemAt.2.1 51 = .ok (.invokevirtual 186, 3) := by decide +kernel
theorem dm_Ma_itemAt_54 : decode mm_Ma_itemAt.2.1 54 = .ok (.areturn, 1) := by decide +kernel
theorem dm_Ma_itemAt_55 : decode mm_Ma_itemAt.2.1 55 = .ok (.aload_n 0, 1) := by decide +kernel
theorem dm_Ma_itemAt_56 : decode mm_Ma_itemAt.2.1 56 = .ok (.getfield 21, 3) := by decide +kernel
theorem dm_Ma_itemAt_59 : decode mm_Ma_itemAt.2.1 59 = .ok (.iload_n 1, 1) := by decide +kernel
theorem dm_Ma_itemAt_60 : decode mm_Ma_itemAt.2.1 60 = .ok (.invokevirtual 178, 3) := by decide +kernel
theorem dm_Ma_itemAt_63 : decode mm_Ma_itemAt.2.1 63 = .ok (.areturn, 1) := by decide +kernel
theorem dm_Ma_partAt_0 : decode mm_Ma_partAt.2.1 0 = .ok (.aload_n 0, 1) := by decide +kernel
theorem dm_Ma_partAt_1 : decode mm_Ma_partAt.2.1 1 = .ok (.iload_n 1, 1) := by decide +kernel
theorem dm_Ma_partAt_2 : decode mm_Ma_partAt.2.1 2 = .ok (.invokevirtual 201, 3) := by decide +kernel
theorem dm_Ma_partAt_5 : decode mm_Ma_partAt.2.1 5 = .ok (.astore_n 3, 1) := by decide +kernel
theorem dm_Ma_partAt_6 : decode mm_Ma_partAt.2.1 6 = .ok (.aload_n 3, 1) := by decide +kernel
theorem dm_Ma_partAt_7 : decode mm_Ma_partAt.2.1 7 = .ok (.ifnonnull 5, 3) := by decide +kernel
theorem dm_Ma_partAt_10 : decode mm_Ma_partAt.2.1 10 = .ok (.aconst_null, 1) := by decide +kernel
theorem dm_Ma_partAt_11 : decode mm_Ma_partAt.2.1 11 = .ok (.areturn, 1) := by decide +kernel
theorem dm_Ma_partAt_12 : decode mm_Ma_partAt.2.1 12 = .ok (.iload_n 2, 1) := by decide +kernel
theorem dm_Ma_partAt_13 : decode mm_Ma_partAt.2.1 13 = .ok (.ifCond .ne 10, 3) := by decide +kernel
theorem dm_Ma_partAt_16 : decode mm_Ma_partAt.2.1 16 = .ok (.aload_n 3, 1) := by decide +kernel
theorem dm_Ma_partAt_17 : decode mm_Ma_partAt.2.1 17 = .ok (.getfield 132, 3) := by decide +kernel
theorem dm_Ma_partAt_20 : decode mm_Ma_partAt.2.1 20 = .ok (.goto 13, 3) := by decide +kernel
theorem dm_Ma_partAt_23 : decode mm_Ma_partAt.2.1 23 = .ok (.aload_n 3, 1) := by decide +kernel
theorem dm_Ma_partAt_24 : decode mm_Ma_partAt.2.1 24 = .ok (.getfield 140, 3) := by decide +kernel
theorem dm_Ma_partAt_27 : decode mm_Ma_partAt.2.1 27 = .ok (.iload_n 2, 1) := by decide +kernel
theorem dm_Ma_partAt_28 : decode mm_Ma_partAt.2.1 28 = .ok (.iconst 1, 1) := by decide +kernel
theorem dm_Ma_partAt_29 : decode mm_Ma_partAt.2.1 29 = .ok (.isub, 1) := by decide +kernel
theorem dm_Ma_partAt_30 : decode mm_Ma_partAt.2.1 30 = .ok (.invokevirtual 265, 3) := by decide +kernel
theorem dm_Ma_partAt_33 : decode mm_Ma_partAt.2.1 33 = .ok (.areturn, 1) := by decide +kernel
end
section
theorem dm_Re_init_0 : decode mm_Re_init.2.1 0 = .ok (.aload_n 0, 1) := by decide +kernel
theorem dm_Re_init_1 : decode mm_Re_init.2.1 1 = .ok (.invokespecial 1, 3) := by decide +kernel
theorem dm_Re_init_4 : decode mm_Re_init.2.1 4 = .ok (.aload_n 0, 1) := by decide +kernel
theorem dm_Re_init_5 : decode mm_Re_init.2.1 5 = .ok (.sipush 10000, 3) := by decide +kernel
theorem dm_Re_init_8 : decode mm_Re_init.2.1 8 = .ok (.newarray .int, 2) := by decide +kernel
theorem dm_Re_init_10 : decode mm_Re_init.2.1 10 = .ok (.putfield 7, 3) := by decide +kernel
theorem dm_Re_init_13 : decode mm_Re_init.2.1 13 = .ok (.aload_n 0, 1) := by decide +kernel
theorem dm_Re_init_14 : decode mm_Re_init.2.1 14 = .ok (.bipush 120, 2) := by decide +kernel
theorem dm_Re_init_16 : decode mm_Re_init.2.1 16 = .ok (.newarray .int, 2) := by decide +kernel
theorem dm_Re_init_18 : decode mm_Re_init.2.1 18 = .ok (.putfield 13, 3) := by decide +kernel
theorem dm_Re_init_21 : decode mm_Re_init.2.1 21 = .ok (.aload_n 0, 1) := by decide +kernel
theorem dm_Re_init_22 : decode mm_Re_init.2.1 22 = .ok (.bipush 30, 2) := by decide +kernel
theorem dm_Re_init_24 : decode mm_Re_init.2.1 24 = .ok (.newarray .int, 2) := by decide +kernel
theorem dm_Re_init_26 : decode mm_Re_init.2.1 26 = .ok (.putfield 16, 3) := by decide +kernel
theorem dm_Re_init_29 : decode mm_Re_init.2.1 29 = .ok (.aload_n 0, 1) := by decide +kernel
theorem dm_Re_init_30 : decode mm_Re_init.2.1 30 = .ok (.bipush 30, 2) := by decide +kernel
theorem dm_Re_init_32 : decode mm_Re_init.2.1 32 = .ok (.newarray .int, 2) := by decide +kernel
theorem dm_Re_init_34 : decode mm_Re_init.2.1 34 = .ok (.putfield 19, 3) := by decide +kernel
theorem dm_Re_init_37 : decode mm_Re_init.2.1 37 = .ok (.aload_n 0, 1) := by decide +kernel
theorem dm_Re_init_38 : decode mm_Re_init.2.1 38 = .ok (.bipush 7, 2) := by decide +kernel
theorem dm_Re_init_40 : decode mm_Re_init.2.1 40 = .ok (.newarray .int, 2) := by decide +kernel
theorem dm_Re_init_42 : decode mm_Re_init.2.1 42 = .ok (.putfield 22, 3) := by decide +kernel
theorem dm_Re_init_45 : decode mm_Re_init.2.1 45 = .ok (.aload_n 0, 1) := by decide +kernel
theorem dm_Re_init_46 : decode mm_Re_init.2.1 46 = .ok (.bipush 40, 2) := by decide +kernel
theorem dm_Re_init_48 : decode mm_Re_init.2.1 48 = .ok (.newarray .int, 2) := by decide +kernel
theorem dm_Re_init_50 : decode mm_Re_init.2.1 50 = .ok (.putfield 25, 3) := by decide +kernel
theorem dm_Re_init_53 : decode mm_Re_init.2.1 53 = .ok (.bipush 12, 2) := by decide +kernel
theorem dm_Re_init_55 : decode mm_Re_init.2.1 55 = .ok (.istore_n 1, 1) := by decide +kernel
theorem dm_Re_init_56 : decode mm_Re_init.2.1 56 = .ok (.iload_n 1, 1) := by decide +kernel
theorem dm_Re_init_57 : decode mm_Re_init.2.1 57 = .ok (.bipush 18, 2) := by decide +kernel
theorem dm_Re_init_59 : decode mm_Re_init.2.1 59 = .ok (.if_icmp .ge 16, 3) := by decide +kernel
theorem dm_Re_init_62 : decode mm_Re_init.2.1 62 = .ok (.aload_n 0, 1) := by decide +kernel
theorem dm_Re_init_63 : decode mm_Re_init.2.1 63 = .ok (.getfield 16, 3) := by decide +kernel
theorem dm_Re_init_66 : decode mm_Re_init.2.1 66 = .ok (.iload_n 1, 1) := by decide +kernel
theorem dm_Re_init_67 : decode mm_Re_init.2.1 67 = .ok (.iconst (-1), 1) := by decide +kernel
theorem dm_Re_init_68 : decode mm_Re_init.2.1 68 = .ok (.iastore, 1) := by decide +kernel
theorem dm_Re_init_69 : decode mm_Re_init.2.1 69 = .ok (.iinc 1 1, 3) := by decide +kernel
theorem dm_Re_init_72 : decode mm_Re_init.2.1 72 = .ok (.goto (-16), 3) := by decide +kernel
theorem dm_Re_init_75 : decode mm_Re_init.2.1 75 = .ok (.return_, 1) := by decide +kernel
theorem dm_Re_base_0 : decode mm_Re_base.2.1 0 = .ok (.sipush 160, 3) := by decide +kernel
theorem dm_Re_base_3 : decode mm_Re_base.2.1 3 = .ok (.iload_n 0, 1) := by decide +kernel
theorem dm_Re_base_4 : decode mm_Re_base.2.1 4 = .ok (.imul, 1) := by decide +kernel
theorem dm_Re_base_5 : decode mm_Re_base.2.1 5 = .ok (.bipush 40, 2) := by decide +kernel
theorem dm_Re_base_7 : decode mm_Re_base.2.1 7 = .ok (.iload_n 1, 1) := by decide +kernel
theorem dm_Re_base_8 : decode mm_Re_base.2.1 8 = .ok (.imul, 1) := by decide +kernel
theorem dm_Re_base_9 : decode mm_Re_base.2.1 9 = .ok (.iadd, 1) := by decide +kernel
theorem dm_Re_base_10 : decode mm_Re_base.2.1 10 = .ok (.ireturn, 1) := by decide +kernel
theorem dm_Re_emit_0 : decode mm_Re_emit.2.1 0 = .ok (.aload_n 0, 1) := by decide +kernel
theorem dm_Re_emit_1 : decode mm_Re_emit.2.1 1 = .ok (.getfield 7, 3) := by decide +kernel
theorem dm_Re_emit_4 : decode mm_Re_emit.2.1 4 = .ok (.aload_n 0, 1) := by decide +kernel
theorem dm_Re_emit_5 : decode mm_Re_emit.2.1 5 = .ok (.getfield 28, 3) := by decide +kernel
theorem dm_Re_emit_8 : decode mm_Re_emit.2.1 8 = .ok (.iload_n 1, 1) := by decide +kernel
theorem dm_Re_emit_9 : decode mm_Re_emit.2.1 9 = .ok (.iastore, 1) := by decide +kernel
theorem dm_Re_emit_10 : decode mm_Re_emit.2.1 10 = .ok (.aload_n 0, 1) := by decide +kernel
theorem dm_Re_emit_11 : decode mm_Re_emit.2.1 11 = .ok (.dup, 1) := by decide +kernel
theorem dm_Re_emit_12 : decode mm_Re_emit.2.1 12 = .ok (.getfield 28, 3) := by decide +kernel
theorem dm_Re_emit_15 : decode mm_Re_emit.2.1 15 = .ok (.iconst 1, 1) := by decide +kernel
theorem dm_Re_emit_16 : decode mm_Re_emit.2.1 16 = .ok (.iadd, 1) := by decide +kernel
theorem dm_Re_emit_17 : decode mm_Re_emit.2.1 17 = .ok (.putfield 28, 3) := by decide +kernel
theorem dm_Re_emit_20 : decode mm_Re_emit.2.1 20 = .ok (.return_, 1) := by decide +kernel
theorem dm_Re_emitRow_0 : decode mm_Re_emitRow.2.1 0 = .ok (.iload_n 1, 1) := by decide +kernel
theorem dm_Re_emitRow_1 : decode mm_Re_emitRow.2.1 1 = .ok (.istore_n 3, 1) := by decide +kernel
theorem dm_Re_emitRow_2 : decode mm_Re_emitRow.2.1 2 = .ok (.iload_n 3, 1) := by decide +kernel
theorem dm_Re_emitRow_3 : decode mm_Re_emitRow.2.1 3 = .ok (.iload_n 2, 1) := by decide +kernel
theorem dm_Re_emitRow_4 : decode mm_Re_emitRow.2.1 4 = .ok (.if_icmp .ge 19, 3) := by decide +kernel
theorem dm_Re_emitRow_7 : decode mm_Re_emitRow.2.1 7 = .ok (.aload_n 0, 1) := by decide +kernel
theorem dm_Re_emitRow_8 : decode mm_Re_emitRow.2.1 8 = .ok (.aload_n 0, 1) := by decide +kernel
theorem dm_Re_emitRow_9 : decode mm_Re_emitRow.2.1 9 = .ok (.getfield 7, 3) := by decide +kernel
theorem dm_Re_emitRow_12 : decode mm_Re_emitRow.2.1 12 = .ok (.iload_n 3, 1) := by decide +kernel
theorem dm_Re_emitRow_13 : decode mm_Re_emitRow.2.1 13 = .ok (.iaload, 1) := by decide +kernel
theorem dm_Re_emitRow_14 : decode mm_Re_emitRow.2.1 14 = .ok (.invokevirtual 32, 3) := by decide +kernel
theorem dm_Re_emitRow_17 : decode mm_Re_emitRow.2.1 17 = .ok (.iinc 3 1, 3) := by decide +kernel
theorem dm_Re_emitRow_20 : decode mm_Re_emitRow.2.1 20 = .ok (.goto (-18), 3) := by decide +kernel
theorem dm_Re_emitRow_23 : decode mm_Re_emitRow.2.1 23 = .ok (.return_, 1) := by decide +kernel
theorem dm_Re_sameRow_0 : decode mm_Re_sameRow.2.1 0 = .ok (.iload_n 2, 1) := by decide +kernel
theorem dm_Re_sameRow_1 : decode mm_Re_sameRow.2.1 1 = .ok (.iload_n 1, 1) := by decide +kernel
theorem dm_Re_sameRow_2 : decode mm_Re_sameRow.2.1 2 = .ok (.isub, 1) := by decide +kernel
theorem dm_Re_sameRow_3 : decode mm_Re_sameRow.2.1 3 = .ok (.iload 4, 2) := by decide +kernel
theorem dm_Re_sameRow_5 : decode mm_Re_sameRow.2.1 5 = .ok (.iload_n 3, 1) := by decide +kernel
theorem dm_Re_sameRow_6 : decode mm_Re_sameRow.2.1 6 = .ok (.isub, 1) := by decide +kernel
theorem dm_Re_sameRow_7 : decode mm_Re_sameRow.2.1 7 = .ok (.if_icmp .ne 7, 3) := by decide +kernel
theorem dm_Re_sameRow_10 : decode mm_Re_sameRow.2.1 10 = .ok (.iconst 1, 1) := by decide +kernel
theorem dm_Re_sameRow_11 : decode mm_Re_sameRow.2.1 11 = .ok (.goto 4, 3) := by decide +kernel
theorem dm_Re_sameRow_14 : decode mm_Re_sameRow.2.1 14 = .ok (.iconst 0, 1) := by decide +kernel
theorem dm_Re_sameRow_15 : decode mm_Re_sameRow.2.1 15 = .ok (.istore 5, 2) := by decide +kernel
theorem dm_Re_sameRow_17 : decode mm_Re_sameRow.2.1 17 = .ok (.iconst 0, 1) := by decide +kernel
theorem dm_Re_sameRow_18 : decode mm_Re_sameRow.2.1 18 = .ok (.istore 6, 2) := by decide +kernel
theorem dm_Re_sameRow_20 : decode mm_Re_sameRow.2.1 20 = .ok (.iload 6, 2) := by decide +kernel
theorem dm_Re_sameRow_22 : decode mm_Re_sameRow.2.1 22 = .ok (.iload_n 2, 1) := by decide +kernel
theorem dm_Re_sameRow_23 : decode mm_Re_sameRow.2.1 23 = .ok (.iload_n 1, 1) := by decide +kernel
theorem dm_Re_sameRow_24 : decode mm_Re_sameRow.2.1 24 = .ok (.isub, 1) := by decide +kernel
theorem dm_Re_sameRow_25 : decode mm_Re_sameRow.2.1 25 = .ok (.if_icmp .ge 42, 3) := by decide +kernel
theorem dm_Re_sameRow_28 : decode mm_Re_sameRow.2.1 28 = .ok (.iload 5, 2) := by decide +kernel
theorem dm_Re_sameRow_30 : decode mm_Re_sameRow.2.1 30 = .ok (.ifCond .eq 37, 3) := by decide +kernel
theorem dm_Re_sameRow_33 : decode mm_Re_sameRow.2.1 33 = .ok (.aload_n 0, 1) := by decide +kernel
theorem dm_Re_sameRow_34 : decode mm_Re_sameRow.2.1 34 = .ok (.getfield 7, 3) := by decide +kernel
theorem dm_Re_sameRow_37 : decode mm_Re_sameRow.2.1 37 = .ok (.iload_n 1, 1) := by decide +kernel
theorem dm_Re_sameRow_38 : decode mm_Re_sameRow.2.1 38 = .ok (.iload 6, 2) := by decide +kernel
theorem dm_Re_sameRow_40 : decode mm_Re_sameRow.2.1 40 = .ok (.iadd, 1) := by decide +kernel
theorem dm_Re_sameRow_41 : decode mm_Re_sameRow.2.1 41 = .ok (.iaload, 1) := by decide +kernel
theorem dm_Re_sameRow_42 : decode mm_Re_sameRow.2.1 42 = .ok (.aload_n 0, 1) := by decide +kernel
theorem dm_Re_sameRow_43 : decode mm_Re_sameRow.2.1 43 = .ok (.getfield 7, 3) := by decide +kernel
theorem dm_Re_sameRow_46 : decode mm_Re_sameRow.2.1 46 = .ok (.iload_n 3, 1) := by decide +kernel
theorem dm_Re_sameRow_47 : decode mm_Re_sameRow.2.1 47 = .ok (.iload 6, 2) := by decide +kernel
theorem dm_Re_sameRow_49 : decode mm_Re_sameRow.2.1 49 = .ok (.iadd, 1) := by decide +kernel
theorem dm_Re_sameRow_50 : decode mm_Re_sameRow.2.1 50 = .ok (.iaload, 1) := by decide +kernel
theorem dm_Re_sameRow_51 : decode mm_Re_sameRow.2.1 51 = .ok (.if_icmp .ne 7, 3) := by decide +kernel
theorem dm_Re_sameRow_54 : decode mm_Re_sameRow.2.1 54 = .ok (.iconst 1, 1) := by decide +kernel
theorem dm_Re_sameRow_55 : decode mm_Re_sameRow.2.1 55 = .ok (.goto 4, 3) := by decide +kernel
theorem dm_Re_sameRow_58 : decode mm_Re_sameRow.2.1 58 = .ok (.iconst 0, 1) := by decide +kernel
theorem dm_Re_sameRow_59 : decode mm_Re_sameRow.2.1 59 = .ok (.istore 5, 2) := by decide +kernel
theorem dm_Re_sameRow_61 : decode mm_Re_sameRow.2.1 61 = .ok (.iinc 6 1, 3) := by decide +kernel
theorem dm_Re_sameRow_64 : decode mm_Re_sameRow.2.1 64 = .ok (.goto (-44), 3) := by decide +kernel
theorem dm_Re_sameRow_67 : decode mm_Re_sameRow.2.1 67 = .ok (.iload 5, 2) := by decide +kernel
theorem dm_Re_sameRow_69 : decode mm_Re_sameRow.2.1 69 = .ok (.ireturn, 1) := by decide +kernel
theorem dm_Re_skipType_0 : decode mm_Re_skipType.2.1 0 = .ok (.iconst 1, 1) := by decide +kernel
theorem dm_Re_skipType_1 : decode mm_Re_skipType.2.1 1 = .ok (.istore_n 2, 1) := by decide +kernel
theorem dm_Re_skipType_2 : decode mm_Re_skipType.2.1 2 = .ok (.iload_n 1, 1) := by decide +kernel
theorem dm_Re_skipType_3 : decode mm_Re_skipType.2.1 3 = .ok (.istore_n 3, 1) := by decide +kernel
theorem dm_Re_skipType_4 : decode mm_Re_skipType.2.1 4 = .ok (.iload_n 2, 1) := by decide +kernel
theorem dm_Re_skipType_5 : decode mm_Re_skipType.2.1 5 = .ok (.ifCond .le 26, 3) := by decide +kernel
theorem dm_Re_skipType_8 : decode mm_Re_skipType.2.1 8 = .ok (.iload_n 2, 1) := by decide +kernel
theorem dm_Re_skipType_9 : decode mm_Re_skipType.2.1 9 = .ok (.aload_n 0, 1) := by decide +kernel
theorem dm_Re_skipType_10 : decode mm_Re_skipType.2.1 10 = .ok (.getfield 7, 3) := by decide +kernel
theorem dm_Re_skipType_13 : decode mm_Re_skipType.2.1 13 = .ok (.iload_n 3, 1) := by decide +kernel
theorem dm_Re_skipType_14 : decode mm_Re_skipType.2.1 14 = .ok (.iaload, 1) := by decide +kernel
theorem dm_Re_skipType_15 : decode mm_Re_skipType.2.1 15 = .ok (.ifCond .ne 7, 3) := by decide +kernel
theorem dm_Re_skipType_18 : decode mm_Re_skipType.2.1 18 = .ok (.iconst 1, 1) := by decide +kernel
theorem dm_Re_skipType_19 : decode mm_Re_skipType.2.1 19 = .ok (.goto 4, 3) := by decide +kernel
theorem dm_Re_skipType_22 : decode mm_Re_skipType.2.1 22 = .ok (.iconst (-1), 1) := by decide +kernel
theorem dm_Re_skipType_23 : decode mm_Re_skipType.2.1 23 = .ok (.iadd, 1) := by decide +kernel
theorem dm_Re_skipType_24 : decode mm_Re_skipType.2.1 24 = .ok (.istore_n 2, 1) := by decide +kernel
theorem dm_Re_skipType_25 : decode mm_Re_skipType.2.1 25 = .ok (.iinc 3 1, 3) := by decide +kernel
theorem dm_Re_skipType_28 : decode mm_Re_skipType.2.1 28 = .ok (.goto (-24), 3) := by decide +kernel
theorem dm_Re_skipType_31 : decode mm_Re_skipType.2.1 31 = .ok (.iload_n 3, 1) := by decide +kernel
theorem dm_Re_skipType_32 : decode mm_Re_skipType.2.1 32 = .ok (.ireturn, 1) := by decide +kernel
theorem dm_Re_skipTerm_0 : decode mm_Re_skipTerm.2.1 0 = .ok (.iconst 1, 1) := by decide +kernel
theorem dm_Re_skipTerm_1 : decode mm_Re_skipTerm.2.1 1 = .ok (.istore_n 2, 1) := by decide +kernel
theorem dm_Re_skipTerm_2 : decode mm_Re_skipTerm.2.1 2 = .ok (.iload_n 1, 1) := by decide +kernel
theorem dm_Re_skipTerm_3 : decode mm_Re_skipTerm.2.1 3 = .ok (.istore_n 3, 1) := by decide +kernel
theorem dm_Re_skipTerm_4 : decode mm_Re_skipTerm.2.1 4 = .ok (.iload_n 2, 1) := by decide +kernel
theorem dm_Re_skipTerm_5 : decode mm_Re_skipTerm.2.1 5 = .ok (.ifCond .le 85, 3) := by decide +kernel
theorem dm_Re_skipTerm_8 : decode mm_Re_skipTerm.2.1 8 = .ok (.aload_n 0, 1) := by decide +kernel
theorem dm_Re_skipTerm_9 : decode mm_Re_skipTerm.2.1 9 = .ok (.getfield 7, 3) := by decide +kernel
theorem dm_Re_skipTerm_12 : decode mm_Re_skipTerm.2.1 12 = .ok (.iload_n 3, 1) := by decide +kernel
theorem dm_Re_skipTerm_13 : decode mm_Re_skipTerm.2.1 13 = .ok (.iaload, 1) := by decide +kernel
theorem dm_Re_skipTerm_14 : decode mm_Re_skipTerm.2.1 14 = .ok (.istore 4, 2) := by decide +kernel
theorem dm_Re_skipTerm_16 : decode mm_Re_skipTerm.2.1 16 = .ok (.iload_n 2, 1) := by decide +kernel
theorem dm_Re_skipTerm_17 : decode mm_Re_skipTerm.2.1 17 = .ok (.iload 4, 2) := by decide +kernel
theorem dm_Re_skipTerm_19 : decode mm_Re_skipTerm.2.1 19 = .ok (.bipush 12, 2) := by decide +kernel
theorem dm_Re_skipTerm_21 : decode mm_Re_skipTerm.2.1 21 = .ok (.if_icmp .ne 7, 3) := by decide +kernel
theorem dm_Re_skipTerm_24 : decode mm_Re_skipTerm.2.1 24 = .ok (.iconst 1, 1) := by decide +kernel
theorem dm_Re_skipTerm_25 : decode mm_Re_skipTerm.2.1 25 = .ok (.goto 15, 3) := by decide +kernel
theorem dm_Re_skipTerm_28 : decode mm_Re_skipTerm.2.1 28 = .ok (.iload 4, 2) := by decide +kernel
theorem dm_Re_skipTerm_30 : decode mm_Re_skipTerm.2.1 30 = .ok (.bipush 13, 2) := by decide +kernel
theorem dm_Re_skipTerm_32 : decode mm_Re_skipTerm.2.1 32 = .ok (.if_icmp .ne 7, 3) := by decide +kernel
theorem dm_Re_skipTerm_35 : decode mm_Re_skipTerm.2.1 35 = .ok (.iconst 0, 1) := by decide +kernel
theorem dm_Re_skipTerm_36 : decode mm_Re_skipTerm.2.1 36 = .ok (.goto 4, 3) := by decide +kernel
theorem dm_Re_skipTerm_39 : decode mm_Re_skipTerm.2.1 39 = .ok (.iconst (-1), 1) := by decide +kernel
theorem dm_Re_skipTerm_40 : decode mm_Re_skipTerm.2.1 40 = .ok (.iadd, 1) := by decide +kernel
theorem dm_Re_skipTerm_41 : decode mm_Re_skipTerm.2.1 41 = .ok (.istore_n 2, 1) := by decide +kernel
theorem dm_Re_skipTerm_42 : decode mm_Re_skipTerm.2.1 42 = .ok (.iload 4, 2) := by decide +kernel
theorem dm_Re_skipTerm_44 : decode mm_Re_skipTerm.2.1 44 = .ok (.bipush 13, 2) := by decide +kernel
theorem dm_Re_skipTerm_46 : decode mm_Re_skipTerm.2.1 46 = .ok (.if_icmp .ne 13, 3) := by decide +kernel
theorem dm_Re_skipTerm_49 : decode mm_Re_skipTerm.2.1 49 = .ok (.aload_n 0, 1) := by decide +kernel
theorem dm_Re_skipTerm_50 : decode mm_Re_skipTerm.2.1 50 = .ok (.iload_n 3, 1) := by decide +kernel
theorem dm_Re_skipTerm_51 : decode mm_Re_skipTerm.2.1 51 = .ok (.iconst 1, 1) := by decide +kernel
theorem dm_Re_skipTerm_52 : decode mm_Re_skipTerm.2.1 52 = .ok (.iadd, 1) := by decide +kernel
theorem dm_Re_skipTerm_53 : decode mm_Re_skipTerm.2.1 53 = .ok (.invokevirtual 36, 3) := by decide +kernel
theorem dm_Re_skipTerm_56 : decode mm_Re_skipTerm.2.1 56 = .ok (.goto 30, 3) := by decide +kernel
theorem dm_Re_skipTerm_59 : decode mm_Re_skipTerm.2.1 59 = .ok (.iload 4, 2) := by decide +kernel
theorem dm_Re_skipTerm_61 : decode mm_Re_skipTerm.2.1 61 = .ok (.bipush 10, 2) := by decide +kernel
theorem dm_Re_skipTerm_63 : decode mm_Re_skipTerm.2.1 63 = .ok (.if_icmp .eq 10, 3) := by decide +kernel
theorem dm_Re_skipTerm_66 : decode mm_Re_skipTerm.2.1 66 = .ok (.iload 4, 2) := by decide +kernel
theorem dm_Re_skipTerm_68 : decode mm_Re_skipTerm.2.1 68 = .ok (.bipush 11, 2) := by decide +kernel
theorem dm_Re_skipTerm_70 : decode mm_Re_skipTerm.2.1 70 = .ok (.if_icmp .ne 13, 3) := by decide +kernel
theorem dm_Re_skipTerm_73 : decode mm_Re_skipTerm.2.1 73 = .ok (.aload_n 0, 1) := by decide +kernel
theorem dm_Re_skipTerm_74 : decode mm_Re_skipTerm.2.1 74 = .ok (.iload_n 3, 1) := by decide +kernel
theorem dm_Re_skipTerm_75 : decode mm_Re_skipTerm.2.1 75 = .ok (.iconst 2, 1) := by decide +kernel
theorem dm_Re_skipTerm_76 : decode mm_Re_skipTerm.2.1 76 = .ok (.iadd, 1) := by decide +kernel
theorem dm_Re_skipTerm_77 : decode mm_Re_skipTerm.2.1 77 = .ok (.invokevirtual 36, 3) := by decide +kernel
theorem dm_Re_skipTerm_80 : decode mm_Re_skipTerm.2.1 80 = .ok (.goto 6, 3) := by decide +kernel
theorem dm_Re_skipTerm_83 : decode mm_Re_skipTerm.2.1 83 = .ok (.iload_n 3, 1) := by decide +kernel
theorem dm_Re_skipTerm_84 : decode mm_Re_skipTerm.2.1 84 = .ok (.iconst 1, 1) := by decide +kernel
theorem dm_Re_skipTerm_85 : decode mm_Re_skipTerm.2.1 85 = .ok (.iadd, 1) := by decide +kernel
theorem dm_Re_skipTerm_86 : decode mm_Re_skipTerm.2.1 86 = .ok (.istore_n 3, 1) := by decide +kernel
theorem dm_Re_skipTerm_87 : decode mm_Re_skipTerm.2.1 87 = .ok (.goto (-83), 3) := by decide +kernel
theorem dm_Re_skipTerm_90 : decode mm_Re_skipTerm.2.1 90 = .ok (.iload_n 3, 1) := by decide +kernel
theorem dm_Re_skipTerm_91 : decode mm_Re_skipTerm.2.1 91 = .ok (.ireturn, 1) := by decide +kernel
theorem dm_Re_depth_0 : decode mm_Re_depth.2.1 0 = .ok (.iconst 0, 1) := by decide +kernel
theorem dm_Re_depth_1 : decode mm_Re_depth.2.1 1 = .ok (.istore_n 3, 1) := by decide +kernel
theorem dm_Re_depth_2 : decode mm_Re_depth.2.1 2 = .ok (.iload_n 1, 1) := by decide +kernel
theorem dm_Re_depth_3 : decode mm_Re_depth.2.1 3 = .ok (.istore 4, 2) := by decide +kernel
theorem dm_Re_depth_5 : decode mm_Re_depth.2.1 5 = .ok (.iload 4, 2) := by decide +kernel
theorem dm_Re_depth_7 : decode mm_Re_depth.2.1 7 = .ok (.iload_n 2, 1) := by decide +kernel
theorem dm_Re_depth_8 : decode mm_Re_depth.2.1 8 = .ok (.if_icmp .ge 39, 3) := by decide +kernel
theorem dm_Re_depth_11 : decode mm_Re_depth.2.1 11 = .ok (.aload_n 0, 1) := by decide +kernel
theorem dm_Re_depth_12 : decode mm_Re_depth.2.1 12 = .ok (.getfield 7, 3) := by decide +kernel
theorem dm_Re_depth_15 : decode mm_Re_depth.2.1 15 = .ok (.iload 4, 2) := by decide +kernel
theorem dm_Re_depth_17 : decode mm_Re_depth.2.1 17 = .ok (.iaload, 1) := by decide +kernel
theorem dm_Re_depth_18 : decode mm_Re_depth.2.1 18 = .ok (.bipush 13, 2) := by decide +kernel
theorem dm_Re_depth_20 : decode mm_Re_depth.2.1 20 = .ok (.if_icmp .ne 21, 3) := by decide +kernel
theorem dm_Re_depth_23 : decode mm_Re_depth.2.1 23 = .ok (.iload_n 3, 1) := by decide +kernel
theorem dm_Re_depth_24 : decode mm_Re_depth.2.1 24 = .ok (.aload_n 0, 1) := by decide +kernel
theorem dm_Re_depth_25 : decode mm_Re_depth.2.1 25 = .ok (.iload 4, 2) := by decide +kernel
theorem dm_Re_depth_27 : decode mm_Re_depth.2.1 27 = .ok (.invokevirtual 40, 3) := by decide +kernel
theorem dm_Re_depth_30 : decode mm_Re_depth.2.1 30 = .ok (.iload_n 2, 1) := by decide +kernel
theorem dm_Re_depth_31 : decode mm_Re_depth.2.1 31 = .ok (.if_icmp .le 7, 3) := by decide +kernel
theorem dm_Re_depth_34 : decode mm_Re_depth.2.1 34 = .ok (.iconst 1, 1) := by decide +kernel
theorem dm_Re_depth_35 : decode mm_Re_depth.2.1 35 = .ok (.goto 4, 3) := by decide +kernel
theorem dm_Re_depth_38 : decode mm_Re_depth.2.1 38 = .ok (.iconst 0, 1) := by decide +kernel
theorem dm_Re_depth_39 : decode mm_Re_depth.2.1 39 = .ok (.iadd, 1) := by decide +kernel
theorem dm_Re_depth_40 : decode mm_Re_depth.2.1 40 = .ok (.istore_n 3, 1) := by decide +kernel
theorem dm_Re_depth_41 : decode mm_Re_depth.2.1 41 = .ok (.iinc 4 1, 3) := by decide +kernel
theorem dm_Re_depth_44 : decode mm_Re_depth.2.1 44 = .ok (.goto (-39), 3) := by decide +kernel
theorem dm_Re_depth_47 : decode mm_Re_depth.2.1 47 = .ok (.iload_n 3, 1) := by decide +kernel
theorem dm_Re_depth_48 : decode mm_Re_depth.2.1 48 = .ok (.ireturn, 1) := by decide +kernel
theorem dm_Re_typeOf_0 : decode mm_Re_typeOf.2.1 0 = .ok (.aload_n 0, 1) := by decide +kernel
theorem dm_Re_typeOf_1 : decode mm_Re_typeOf.2.1 1 = .ok (.getfield 28, 3) := by decide +kernel
theorem dm_Re_typeOf_4 : decode mm_Re_typeOf.2.1 4 = .ok (.istore_n 2, 1) := by decide +kernel
theorem dm_Re_typeOf_5 : decode mm_Re_typeOf.2.1 5 = .ok (.iload_n 1, 1) := by decide +kernel
theorem dm_Re_typeOf_6 : decode mm_Re_typeOf.2.1 6 = .ok (.istore_n 3, 1) := by decide +kernel
theorem dm_Re_typeOf_7 : decode mm_Re_typeOf.2.1 7 = .ok (.iconst 0, 1) := by decide +kernel
theorem dm_Re_typeOf_8 : decode mm_Re_typeOf.2.1 8 = .ok (.istore 4, 2) := by decide +kernel
theorem dm_Re_typeOf_10 : decode mm_Re_typeOf.2.1 10 = .ok (.iconst 0, 1) := by decide +kernel
theorem dm_Re_typeOf_11 : decode mm_Re_typeOf.2.1 11 = .ok (.istore 5, 2) := by decide +kernel
theorem dm_Re_typeOf_13 : decode mm_Re_typeOf.2.1 13 = .ok (.aload_n 0, 1) := by decide +kernel
theorem dm_Re_typeOf_14 : decode mm_Re_typeOf.2.1 14 = .ok (.getfield 7, 3) := by decide +kernel
theorem dm_Re_typeOf_17 : decode mm_Re_typeOf.2.1 17 = .ok (.iload_n 3, 1) := by decide +kernel
theorem dm_Re_typeOf_18 : decode mm_Re_typeOf.2.1 18 = .ok (.iaload, 1) := by decide +kernel
theorem dm_Re_typeOf_19 : decode mm_Re_typeOf.2.1 19 = .ok (.bipush 12, 2) := by decide +kernel
theorem dm_Re_typeOf_21 : decode mm_Re_typeOf.2.1 21 = .ok (.if_icmp .eq 14, 3) := by decide +kernel
theorem dm_Re_typeOf_24 : decode mm_Re_typeOf.2.1 24 = .ok (.aload_n 0, 1) := by decide +kernel
theorem dm_Re_typeOf_25 : decode mm_Re_typeOf.2.1 25 = .ok (.getfield 7, 3) := by decide +kernel
theorem dm_Re_typeOf_28 : decode mm_Re_typeOf.2.1 28 = .ok (.iload_n 3, 1) := by decide +kernel
theorem dm_Re_typeOf_29 : decode mm_Re_typeOf.2.1 29 = .ok (.iaload, 1) := by decide +kernel
theorem dm_Re_typeOf_30 : decode mm_Re_typeOf.2.1 30 = .ok (.bipush 13, 2) := by decide +kernel
theorem dm_Re_typeOf_32 : decode mm_Re_typeOf.2.1 32 = .ok (.if_icmp .ne 78, 3) := by decide +kernel
theorem dm_Re_typeOf_35 : decode mm_Re_typeOf.2.1 35 = .ok (.iload_n 3, 1) := by decide +kernel
theorem dm_Re_typeOf_36 : decode mm_Re_typeOf.2.1 36 = .ok (.iconst 1, 1) := by decide +kernel
theorem dm_Re_typeOf_37 : decode mm_Re_typeOf.2.1 37 = .ok (.iadd, 1) := by decide +kernel
theorem dm_Re_typeOf_38 : decode mm_Re_typeOf.2.1 38 = .ok (.istore 6, 2) := by decide +kernel
theorem dm_Re_typeOf_40 : decode mm_Re_typeOf.2.1 40 = .ok (.aload_n 0, 1) := by decide +kernel
theorem dm_Re_typeOf_41 : decode mm_Re_typeOf.2.1 41 = .ok (.getfield 7, 3) := by decide +kernel
theorem dm_Re_typeOf_44 : decode mm_Re_typeOf.2.1 44 = .ok (.iload_n 3, 1) := by decide +kernel
theorem dm_Re_typeOf_45 : decode mm_Re_typeOf.2.1 45 = .ok (.iaload, 1) := by decide +kernel
theorem dm_Re_typeOf_46 : decode mm_Re_typeOf.2.1 46 = .ok (.bipush 12, 2) := by decide +kernel
theorem dm_Re_typeOf_48 : decode mm_Re_typeOf.2.1 48 = .ok (.if_icmp .ne 9, 3) := by decide +kernel
theorem dm_Re_typeOf_51 : decode mm_Re_typeOf.2.1 51 = .ok (.iinc 4 1, 3) := by decide +kernel
theorem dm_Re_typeOf_54 : decode mm_Re_typeOf.2.1 54 = .ok (.goto 50, 3) := by decide +kernel
theorem dm_Re_typeOf_57 : decode mm_Re_typeOf.2.1 57 = .ok (.aload_n 0, 1) := by decide +kernel
theorem dm_Re_typeOf_58 : decode mm_Re_typeOf.2.1 58 = .ok (.iload_n 3, 1) := by decide +kernel
theorem dm_Re_typeOf_59 : decode mm_Re_typeOf.2.1 59 = .ok (.iconst 1, 1) := by decide +kernel
theorem dm_Re_typeOf_60 : decode mm_Re_typeOf.2.1 60 = .ok (.iadd, 1) := by decide +kernel
theorem dm_Re_typeOf_61 : decode mm_Re_typeOf.2.1 61 = .ok (.invokevirtual 36, 3) := by decide +kernel
theorem dm_Re_typeOf_64 : decode mm_Re_typeOf.2.1 64 = .ok (.istore 6, 2) := by decide +kernel
theorem dm_Re_typeOf_66 : decode mm_Re_typeOf.2.1 66 = .ok (.aload_n 0, 1) := by decide +kernel
theorem dm_Re_typeOf_67 : decode mm_Re_typeOf.2.1 67 = .ok (.getfield 25, 3) := by decide +kernel
theorem dm_Re_typeOf_70 : decode mm_Re_typeOf.2.1 70 = .ok (.iload 5, 2) := by decide +kernel
theorem dm_Re_typeOf_72 : decode mm_Re_typeOf.2.1 72 = .ok (.iload_n 3, 1) := by decide +kernel
theorem dm_Re_typeOf_73 : decode mm_Re_typeOf.2.1 73 = .ok (.iconst 1, 1) := by decide +kernel
theorem dm_Re_typeOf_74 : decode mm_Re_typeOf.2.1 74 = .ok (.iadd, 1) := by decide +kernel
theorem dm_Re_typeOf_75 : decode mm_Re_typeOf.2.1 75 = .ok (.iastore, 1) := by decide +kernel
theorem dm_Re_typeOf_76 : decode mm_Re_typeOf.2.1 76 = .ok (.iinc 5 1, 3) := by decide +kernel
theorem dm_Re_typeOf_79 : decode mm_Re_typeOf.2.1 79 = .ok (.iload 4, 2) := by decide +kernel
theorem dm_Re_typeOf_81 : decode mm_Re_typeOf.2.1 81 = .ok (.ifCond .le 9, 3) := by decide +kernel
theorem dm_Re_typeOf_84 : decode mm_Re_typeOf.2.1 84 = .ok (.iinc 4 (-1), 3) := by decide +kernel
theorem dm_Re_typeOf_87 : decode mm_Re_typeOf.2.1 87 = .ok (.goto 17, 3) := by decide +kernel
theorem dm_Re_typeOf_90 : decode mm_Re_typeOf.2.1 90 = .ok (.aload_n 0, 1) := by decide +kernel
theorem dm_Re_typeOf_91 : decode mm_Re_typeOf.2.1 91 = .ok (.iconst 0, 1) := by decide +kernel
theorem dm_Re_typeOf_92 : decode mm_Re_typeOf.2.1 92 = .ok (.invokevirtual 32, 3) := by decide +kernel
theorem dm_Re_typeOf_95 : decode mm_Re_typeOf.2.1 95 = .ok (.aload_n 0, 1) := by decide +kernel
theorem dm_Re_typeOf_96 : decode mm_Re_typeOf.2.1 96 = .ok (.iload_n 3, 1) := by decide +kernel
theorem dm_Re_typeOf_97 : decode mm_Re_typeOf.2.1 97 = .ok (.iconst 1, 1) := by decide +kernel
theorem dm_Re_typeOf_98 : decode mm_Re_typeOf.2.1 98 = .ok (.iadd, 1) := by decide +kernel
theorem dm_Re_typeOf_99 : decode mm_Re_typeOf.2.1 99 = .ok (.iload 6, 2) := by decide +kernel
theorem dm_Re_typeOf_101 : decode mm_Re_typeOf.2.1 101 = .ok (.invokevirtual 43, 3) := by decide +kernel
theorem dm_Re_typeOf_104 : decode mm_Re_typeOf.2.1 104 = .ok (.iload 6, 2) := by decide +kernel
theorem dm_Re_typeOf_106 : decode mm_Re_typeOf.2.1 106 = .ok (.istore_n 3, 1) := by decide +kernel
theorem dm_Re_typeOf_107 : decode mm_Re_typeOf.2.1 107 = .ok (.goto (-94), 3) := by decide +kernel
theorem dm_Re_typeOf_110 : decode mm_Re_typeOf.2.1 110 = .ok (.aload_n 0, 1) := by decide +kernel
theorem dm_Re_typeOf_111 : decode mm_Re_typeOf.2.1 111 = .ok (.getfield 7, 3) := by decide +kernel
theorem dm_Re_typeOf_114 : decode mm_Re_typeOf.2.1 114 = .ok (.iload_n 3, 1) := by decide +kernel
theorem dm_Re_typeOf_115 : decode mm_Re_typeOf.2.1 115 = .ok (.iaload, 1) := by decide +kernel
theorem dm_Re_typeOf_116 : decode mm_Re_typeOf.2.1 116 = .ok (.bipush 11, 2) := by decide +kernel
theorem dm_Re_typeOf_118 : decode mm_Re_typeOf.2.1 118 = .ok (.if_icmp .ne 25, 3) := by decide +kernel
theorem dm_Re_typeOf_121 : decode mm_Re_typeOf.2.1 121 = .ok (.aload_n 0, 1) := by decide +kernel
theorem dm_Re_typeOf_122 : decode mm_Re_typeOf.2.1 122 = .ok (.getfield 7, 3) := by decide +kernel
theorem dm_Re_typeOf_125 : decode mm_Re_typeOf.2.1 125 = .ok (.iload_n 3, 1) := by decide +kernel
theorem dm_Re_typeOf_126 : decode mm_Re_typeOf.2.1 126 = .ok (.iconst 1, 1) := by decide +kernel
theorem dm_Re_typeOf_127 : decode mm_Re_typeOf.2.1 127 = .ok (.iadd, 1) := by decide +kernel
theorem dm_Re_typeOf_128 : decode mm_Re_typeOf.2.1 128 = .ok (.iaload, 1) := by decide +kernel
theorem dm_Re_typeOf_129 : decode mm_Re_typeOf.2.1 129 = .ok (.ifCond .ne 14, 3) := by decide +kernel
theorem dm_Re_typeOf_132 : decode mm_Re_typeOf.2.1 132 = .ok (.aload_n 0, 1) := by decide +kernel
theorem dm_Re_typeOf_133 : decode mm_Re_typeOf.2.1 133 = .ok (.iload_n 3, 1) := by decide +kernel
theorem dm_Re_typeOf_134 : decode mm_Re_typeOf.2.1 134 = .ok (.iconst 2, 1) := by decide +kernel
theorem dm_Re_typeOf_135 : decode mm_Re_typeOf.2.1 135 = .ok (.iadd, 1) := by decide +kernel
theorem dm_Re_typeOf_136 : decode mm_Re_typeOf.2.1 136 = .ok (.iload 4, 2) := by decide +kernel
theorem dm_Re_typeOf_138 : decode mm_Re_typeOf.2.1 138 = .ok (.invokevirtual 47, 3) := by decide +kernel
theorem dm_Re_typeOf_141 : decode mm_Re_typeOf.2.1 141 = .ok (.iload_n 2, 1) := by decide +kernel
theorem dm_Re_typeOf_142 : decode mm_Re_typeOf.2.1 142 = .ok (.ireturn, 1) := by decide +kernel
theorem dm_Re_typeOf_143 : decode mm_Re_typeOf.2.1 143 = .ok (.aload_n 0, 1) := by decide +kernel
theorem dm_Re_typeOf_144 : decode mm_Re_typeOf.2.1 144 = .ok (.getfield 7, 3) := by decide +kernel
theorem dm_Re_typeOf_147 : decode mm_Re_typeOf.2.1 147 = .ok (.iload_n 3, 1) := by decide +kernel
theorem dm_Re_typeOf_148 : decode mm_Re_typeOf.2.1 148 = .ok (.iaload, 1) := by decide +kernel
theorem dm_Re_typeOf_149 : decode mm_Re_typeOf.2.1 149 = .ok (.bipush 20, 2) := by decide +kernel
theorem dm_Re_typeOf_151 : decode mm_Re_typeOf.2.1 151 = .ok (.if_icmp .lt 25, 3) := by decide +kernel
theorem dm_Re_typeOf_154 : decode mm_Re_typeOf.2.1 154 = .ok (.aload_n 0, 1) := by decide +kernel
theorem dm_Re_typeOf_155 : decode mm_Re_typeOf.2.1 155 = .ok (.getfield 25, 3) := by decide +kernel
theorem dm_Re_typeOf_158 : decode mm_Re_typeOf.2.1 158 = .ok (.iload 5, 2) := by decide +kernel
theorem dm_Re_typeOf_160 : decode mm_Re_typeOf.2.1 160 = .ok (.iconst 1, 1) := by decide +kernel
theorem dm_Re_typeOf_161 : decode mm_Re_typeOf.2.1 161 = .ok (.isub, 1) := by decide +kernel
theorem dm_Re_typeOf_162 : decode mm_Re_typeOf.2.1 162 = .ok (.aload_n 0, 1) := by decide +kernel
theorem dm_Re_typeOf_163 : decode mm_Re_typeOf.2.1 163 = .ok (.getfield 7, 3) := by decide +kernel
theorem dm_Re_typeOf_166 : decode mm_Re_typeOf.2.1 166 = .ok (.iload_n 3, 1) := by decide +kernel
theorem dm_Re_typeOf_167 : decode mm_Re_typeOf.2.1 167 = .ok (.iaload, 1) := by decide +kernel
theorem dm_Re_typeOf_168 : decode mm_Re_typeOf.2.1 168 = .ok (.bipush 20, 2) := by decide +kernel
theorem dm_Re_typeOf_170 : decode mm_Re_typeOf.2.1 170 = .ok (.isub, 1) := by decide +kernel
theorem dm_Re_typeOf_171 : decode mm_Re_typeOf.2.1 171 = .ok (.isub, 1) := by decide +kernel
theorem dm_Re_typeOf_172 : decode mm_Re_typeOf.2.1 172 = .ok (.iaload, 1) := by decide +kernel
theorem dm_Re_typeOf_173 : decode mm_Re_typeOf.2.1 173 = .ok (.goto 6, 3) := by decide +kernel
theorem dm_Re_typeOf_176 : decode mm_Re_typeOf.2.1 176 = .ok (.iload_n 3, 1) := by decide +kernel
theorem dm_Re_typeOf_177 : decode mm_Re_typeOf.2.1 177 = .ok (.iconst 2, 1) := by decide +kernel
theorem dm_Re_typeOf_178 : decode mm_Re_typeOf.2.1 178 = .ok (.iadd, 1) := by decide +kernel
theorem dm_Re_typeOf_179 : decode mm_Re_typeOf.2.1 179 = .ok (.istore 6, 2) := by decide +kernel
theorem dm_Re_typeOf_181 : decode mm_Re_typeOf.2.1 181 = .ok (.iconst 0, 1) := by decide +kernel
theorem dm_Re_typeOf_182 : decode mm_Re_typeOf.2.1 182 = .ok (.istore 7, 2) := by decide +kernel
theorem dm_Re_typeOf_184 : decode mm_Re_typeOf.2.1 184 = .ok (.iload 7, 2) := by decide +kernel
theorem dm_Re_typeOf_186 : decode mm_Re_typeOf.2.1 186 = .ok (.iload 4, 2) := by decide +kernel
theorem dm_Re_typeOf_188 : decode mm_Re_typeOf.2.1 188 = .ok (.if_icmp .ge 19, 3) := by decide +kernel
theorem dm_Re_typeOf_191 : decode mm_Re_typeOf.2.1 191 = .ok (.aload_n 0, 1) := by decide +kernel
theorem dm_Re_typeOf_192 : decode mm_Re_typeOf.2.1 192 = .ok (.iload 6, 2) := by decide +kernel
theorem dm_Re_typeOf_194 : decode mm_Re_typeOf.2.1 194 = .ok (.iconst 1, 1) := by decide +kernel
theorem dm_Re_typeOf_195 : decode mm_Re_typeOf.2.1 195 = .ok (.iadd, 1) := by decide +kernel
theorem dm_Re_typeOf_196 : decode mm_Re_typeOf.2.1 196 = .ok (.invokevirtual 36, 3) := by decide +kernel
theorem dm_Re_typeOf_199 : decode mm_Re_typeOf.2.1 199 = .ok (.istore 6, 2) := by decide +kernel
theorem dm_Re_typeOf_201 : decode mm_Re_typeOf.2.1 201 = .ok (.iinc 7 1, 3) := by decide +kernel
theorem dm_Re_typeOf_204 : decode mm_Re_typeOf.2.1 204 = .ok (.goto (-20), 3) := by decide +kernel
theorem dm_Re_typeOf_207 : decode mm_Re_typeOf.2.1 207 = .ok (.aload_n 0, 1) := by decide +kernel
theorem dm_Re_typeOf_208 : decode mm_Re_typeOf.2.1 208 = .ok (.iload 6, 2) := by decide +kernel
theorem dm_Re_typeOf_210 : decode mm_Re_typeOf.2.1 210 = .ok (.invokevirtual 36, 3) := by decide +kernel
theorem dm_Re_typeOf_213 : decode mm_Re_typeOf.2.1 213 = .ok (.istore 7, 2) := by decide +kernel
theorem dm_Re_typeOf_215 : decode mm_Re_typeOf.2.1 215 = .ok (.aload_n 0, 1) := by decide +kernel
theorem dm_Re_typeOf_216 : decode mm_Re_typeOf.2.1 216 = .ok (.iload 6, 2) := by decide +kernel
theorem dm_Re_typeOf_218 : decode mm_Re_typeOf.2.1 218 = .ok (.iload 7, 2) := by decide +kernel
theorem dm_Re_typeOf_220 : decode mm_Re_typeOf.2.1 220 = .ok (.invokevirtual 43, 3) := by decide +kernel
theorem dm_Re_typeOf_223 : decode mm_Re_typeOf.2.1 223 = .ok (.iload_n 2, 1) := by decide +kernel
theorem dm_Re_typeOf_224 : decode mm_Re_typeOf.2.1 224 = .ok (.ireturn, 1) := by decide +kernel
theorem dm_Re_equalAt_0 : decode mm_Re_equalAt.2.1 0 = .ok (.aload_n 0, 1) := by decide +kernel
theorem dm_Re_equalAt_1 : decode mm_Re_equalAt.2.1 1 = .ok (.iload_n 1, 1) := by decide +kernel
theorem dm_Re_equalAt_2 : decode mm_Re_equalAt.2.1 2 = .ok (.invokevirtual 36, 3) := by decide +kernel
theorem dm_Re_equalAt_5 : decode mm_Re_equalAt.2.1 5 = .ok (.istore_n 3, 1) := by decide +kernel
theorem dm_Re_equalAt_6 : decode mm_Re_equalAt.2.1 6 = .ok (.iload_n 2, 1) := by decide +kernel
theorem dm_Re_equalAt_7 : decode mm_Re_equalAt.2.1 7 = .ok (.istore 4, 2) := by decide +kernel
theorem dm_Re_equalAt_9 : decode mm_Re_equalAt.2.1 9 = .ok (.iload 4, 2) := by decide +kernel
theorem dm_Re_equalAt_11 : decode mm_Re_equalAt.2.1 11 = .ok (.iconst 2, 1) := by decide +kernel
theorem dm_Re_equalAt_12 : decode mm_Re_equalAt.2.1 12 = .ok (.if_icmp .ge 20, 3) := by decide +kernel
theorem dm_Re_equalAt_15 : decode mm_Re_equalAt.2.1 15 = .ok (.aload_n 0, 1) := by decide +kernel
theorem dm_Re_equalAt_16 : decode mm_Re_equalAt.2.1 16 = .ok (.iconst 0, 1) := by decide +kernel
theorem dm_Re_equalAt_17 : decode mm_Re_equalAt.2.1 17 = .ok (.invokevirtual 32, 3) := by decide +kernel
theorem dm_Re_equalAt_20 : decode mm_Re_equalAt.2.1 20 = .ok (.aload_n 0, 1) := by decide +kernel
theorem dm_Re_equalAt_21 : decode mm_Re_equalAt.2.1 21 = .ok (.iload_n 1, 1) := by decide +kernel
theorem dm_Re_equalAt_22 : decode mm_Re_equalAt.2.1 22 = .ok (.iload_n 3, 1) := by decide +kernel
theorem dm_Re_equalAt_23 : decode mm_Re_equalAt.2.1 23 = .ok (.invokevirtual 43, 3) := by decide +kernel
theorem dm_Re_equalAt_26 : decode mm_Re_equalAt.2.1 26 = .ok (.iinc 4 1, 3) := by decide +kernel
theorem dm_Re_equalAt_29 : decode mm_Re_equalAt.2.1 29 = .ok (.goto (-20), 3) := by decide +kernel
theorem dm_Re_equalAt_32 : decode mm_Re_equalAt.2.1 32 = .ok (.aload_n 0, 1) := by decide +kernel
theorem dm_Re_equalAt_33 : decode mm_Re_equalAt.2.1 33 = .ok (.iconst 1, 1) := by decide +kernel
theorem dm_Re_equalAt_34 : decode mm_Re_equalAt.2.1 34 = .ok (.invokevirtual 32, 3) := by decide +kernel
theorem dm_Re_equalAt_37 : decode mm_Re_equalAt.2.1 37 = .ok (.return_, 1) := by decide +kernel
theorem dm_Re_isEquation_0 : decode mm_Re_isEquation.2.1 0 = .ok (.aload_n 0, 1) := by decide +kernel
theorem dm_Re_isEquation_1 : decode mm_Re_isEquation.2.1 1 = .ok (.getfield 7, 3) := by decide +kernel
theorem dm_Re_isEquation_4 : decode mm_Re_isEquation.2.1 4 = .ok (.iload_n 1, 1) := by decide +kernel
theorem dm_Re_isEquation_5 : decode mm_Re_isEquation.2.1 5 = .ok (.iaload, 1) := by decide +kernel
theorem dm_Re_isEquation_6 : decode mm_Re_isEquation.2.1 6 = .ok (.bipush 12, 2) := by decide +kernel
theorem dm_Re_isEquation_8 : decode mm_Re_isEquation.2.1 8 = .ok (.if_icmp .ne 44, 3) := by decide +kernel
theorem dm_Re_isEquation_11 : decode mm_Re_isEquation.2.1 11 = .ok (.aload_n 0, 1) := by decide +kernel
theorem dm_Re_isEquation_12 : decode mm_Re_isEquation.2.1 12 = .ok (.getfield 7, 3) := by decide +kernel
theorem dm_Re_isEquation_15 : decode mm_Re_isEquation.2.1 15 = .ok (.iload_n 1, 1) := by decide +kernel
theorem dm_Re_isEquation_16 : decode mm_Re_isEquation.2.1 16 = .ok (.iconst 1, 1) := by decide +kernel
theorem dm_Re_isEquation_17 : decode mm_Re_isEquation.2.1 17 = .ok (.iadd, 1) := by decide +kernel
theorem dm_Re_isEquation_18 : decode mm_Re_isEquation.2.1 18 = .ok (.iaload, 1) := by decide +kernel
theorem dm_Re_isEquation_19 : decode mm_Re_isEquation.2.1 19 = .ok (.bipush 12, 2) := by decide +kernel
theorem dm_Re_isEquation_21 : decode mm_Re_isEquation.2.1 21 = .ok (.if_icmp .ne 31, 3) := by decide +kernel
theorem dm_Re_isEquation_24 : decode mm_Re_isEquation.2.1 24 = .ok (.aload_n 0, 1) := by decide +kernel
theorem dm_Re_isEquation_25 : decode mm_Re_isEquation.2.1 25 = .ok (.getfield 7, 3) := by decide +kernel
theorem dm_Re_isEquation_28 : decode mm_Re_isEquation.2.1 28 = .ok (.iload_n 1, 1) := by decide +kernel
theorem dm_Re_isEquation_29 : decode mm_Re_isEquation.2.1 29 = .ok (.iconst 2, 1) := by decide +kernel
theorem dm_Re_isEquation_30 : decode mm_Re_isEquation.2.1 30 = .ok (.iadd, 1) := by decide +kernel
theorem dm_Re_isEquation_31 : decode mm_Re_isEquation.2.1 31 = .ok (.iaload, 1) := by decide +kernel
theorem dm_Re_isEquation_32 : decode mm_Re_isEquation.2.1 32 = .ok (.bipush 11, 2) := by decide +kernel
theorem dm_Re_isEquation_34 : decode mm_Re_isEquation.2.1 34 = .ok (.if_icmp .ne 18, 3) := by decide +kernel
theorem dm_Re_isEquation_37 : decode mm_Re_isEquation.2.1 37 = .ok (.aload_n 0, 1) := by decide +kernel
theorem dm_Re_isEquation_38 : decode mm_Re_isEquation.2.1 38 = .ok (.getfield 7, 3) := by decide +kernel
theorem dm_Re_isEquation_41 : decode mm_Re_isEquation.2.1 41 = .ok (.iload_n 1, 1) := by decide +kernel
theorem dm_Re_isEquation_42 : decode mm_Re_isEquation.2.1 42 = .ok (.iconst 3, 1) := by decide +kernel
theorem dm_Re_isEquation_43 : decode mm_Re_isEquation.2.1 43 = .ok (.iadd, 1) := by decide +kernel
theorem dm_Re_isEquation_44 : decode mm_Re_isEquation.2.1 44 = .ok (.iaload, 1) := by decide +kernel
theorem dm_Re_isEquation_45 : decode mm_Re_isEquation.2.1 45 = .ok (.ifCond .ne 7, 3) := by decide +kernel
theorem dm_Re_isEquation_48 : decode mm_Re_isEquation.2.1 48 = .ok (.iconst 1, 1) := by decide +kernel
theorem dm_Re_isEquation_49 : decode mm_Re_isEquation.2.1 49 = .ok (.goto 4, 3) := by decide +kernel
theorem dm_Re_isEquation_52 : decode mm_Re_isEquation.2.1 52 = .ok (.iconst 0, 1) := by decide +kernel
theorem dm_Re_isEquation_53 : decode mm_Re_isEquation.2.1 53 = .ok (.ireturn, 1) := by decide +kernel
theorem dm_Re_left_0 : decode mm_Re_left.2.1 0 = .ok (.aload_n 0, 1) := by decide +kernel
theorem dm_Re_left_1 : decode mm_Re_left.2.1 1 = .ok (.iload_n 1, 1) := by decide +kernel
theorem dm_Re_left_2 : decode mm_Re_left.2.1 2 = .ok (.iconst 4, 1) := by decide +kernel
theorem dm_Re_left_3 : decode mm_Re_left.2.1 3 = .ok (.iadd, 1) := by decide +kernel
theorem dm_Re_left_4 : decode mm_Re_left.2.1 4 = .ok (.invokevirtual 36, 3) := by decide +kernel
theorem dm_Re_left_7 : decode mm_Re_left.2.1 7 = .ok (.ireturn, 1) := by decide +kernel
theorem dm_Re_begin_0 : decode mm_Re_begin.2.1 0 = .ok (.aload_n 0, 1) := by decide +kernel
theorem dm_Re_begin_1 : decode mm_Re_begin.2.1 1 = .ok (.sipush 5200, 3) := by decide +kernel
theorem dm_Re_begin_4 : decode mm_Re_begin.2.1 4 = .ok (.putfield 28, 3) := by decide +kernel
theorem dm_Re_begin_7 : decode mm_Re_begin.2.1 7 = .ok (.aload_n 0, 1) := by decide +kernel
theorem dm_Re_begin_8 : decode mm_Re_begin.2.1 8 = .ok (.iconst 0, 1) := by decide +kernel
theorem dm_Re_begin_9 : decode mm_Re_begin.2.1 9 = .ok (.putfield 50, 3) := by decide +kernel
theorem dm_Re_begin_12 : decode mm_Re_begin.2.1 12 = .ok (.aload_n 0, 1) := by decide +kernel
theorem dm_Re_begin_13 : decode mm_Re_begin.2.1 13 = .ok (.getfield 19, 3) := by decide +kernel
theorem dm_Re_begin_16 : decode mm_Re_begin.2.1 16 = .ok (.bipush 28, 2) := by decide +kernel
theorem dm_Re_begin_18 : decode mm_Re_begin.2.1 18 = .ok (.iconst 0, 1) := by decide +kernel
theorem dm_Re_begin_19 : decode mm_Re_begin.2.1 19 = .ok (.iastore, 1) := by decide +kernel
theorem dm_Re_begin_20 : decode mm_Re_begin.2.1 20 = .ok (.aload_n 0, 1) := by decide +kernel
theorem dm_Re_begin_21 : decode mm_Re_begin.2.1 21 = .ok (.getfield 16, 3) := by decide +kernel
theorem dm_Re_begin_24 : decode mm_Re_begin.2.1 24 = .ok (.bipush 28, 2) := by decide +kernel
theorem dm_Re_begin_26 : decode mm_Re_begin.2.1 26 = .ok (.iconst 2, 1) := by decide +kernel
theorem dm_Re_begin_27 : decode mm_Re_begin.2.1 27 = .ok (.iastore, 1) := by decide +kernel
theorem dm_Re_begin_28 : decode mm_Re_begin.2.1 28 = .ok (.return_, 1) := by decide +kernel
theorem dm_Re_part_0 : decode mm_Re_part.2.1 0 = .ok (.aload_n 0, 1) := by decide +kernel
theorem dm_Re_part_1 : decode mm_Re_part.2.1 1 = .ok (.getfield 28, 3) := by decide +kernel
theorem dm_Re_part_4 : decode mm_Re_part.2.1 4 = .ok (.iload_n 2, 1) := by decide +kernel
theorem dm_Re_part_5 : decode mm_Re_part.2.1 5 = .ok (.isub, 1) := by decide +kernel
theorem dm_Re_part_6 : decode mm_Re_part.2.1 6 = .ok (.istore_n 3, 1) := by decide +kernel
theorem dm_Re_part_7 : decode mm_Re_part.2.1 7 = .ok (.iload_n 3, 1) := by decide +kernel
theorem dm_Re_part_8 : decode mm_Re_part.2.1 8 = .ok (.bipush 40, 2) := by decide +kernel
theorem dm_Re_part_10 : decode mm_Re_part.2.1 10 = .ok (.if_icmp .le 11, 3) := by decide +kernel
theorem dm_Re_part_13 : decode mm_Re_part.2.1 13 = .ok (.aload_n 0, 1) := by decide +kernel
theorem dm_Re_part_14 : decode mm_Re_part.2.1 14 = .ok (.iconst 1, 1) := by decide +kernel
theorem dm_Re_part_15 : decode mm_Re_part.2.1 15 = .ok (.putfield 50, 3) := by decide +kernel
theorem dm_Re_part_18 : decode mm_Re_part.2.1 18 = .ok (.bipush 40, 2) := by decide +kernel
theorem dm_Re_part_20 : decode mm_Re_part.2.1 20 = .ok (.istore_n 3, 1) := by decide +kernel
theorem dm_Re_part_21 : decode mm_Re_part.2.1 21 = .ok (.bipush 28, 2) := by decide +kernel
theorem dm_Re_part_23 : decode mm_Re_part.2.1 23 = .ok (.iload_n 1, 1) := by decide +kernel
theorem dm_Re_part_24 : decode mm_Re_part.2.1 24 = .ok (.invokestatic 54, 3) := by decide +kernel
theorem dm_Re_part_27 : decode mm_Re_part.2.1 27 = .ok (.istore 4, 2) := by decide +kernel
theorem dm_Re_part_29 : decode mm_Re_part.2.1 29 = .ok (.iconst 0, 1) := by decide +kernel
theorem dm_Re_part_30 : decode mm_Re_part.2.1 30 = .ok (.istore 5, 2) := by decide +kernel
theorem dm_Re_part_32 : decode mm_Re_part.2.1 32 = .ok (.iload 5, 2) := by decide +kernel
theorem dm_Re_part_34 : decode mm_Re_part.2.1 34 = .ok (.iload_n 3, 1) := by decide +kernel
theorem dm_Re_part_35 : decode mm_Re_part.2.1 35 = .ok (.if_icmp .ge 28, 3) := by decide +kernel
theorem dm_Re_part_38 : decode mm_Re_part.2.1 38 = .ok (.aload_n 0, 1) := by decide +kernel
theorem dm_Re_part_39 : decode mm_Re_part.2.1 39 = .ok (.getfield 7, 3) := by decide +kernel
theorem dm_Re_part_42 : decode mm_Re_part.2.1 42 = .ok (.iload 4, 2) := by decide +kernel
theorem dm_Re_part_44 : decode mm_Re_part.2.1 44 = .ok (.iload 5, 2) := by decide +kernel
theorem dm_Re_part_46 : decode mm_Re_part.2.1 46 = .ok (.iadd, 1) := by decide +kernel
theorem dm_Re_part_47 : decode mm_Re_part.2.1 47 = .ok (.aload_n 0, 1) := by decide +kernel
theorem dm_Re_part_48 : decode mm_Re_part.2.1 48 = .ok (.getfield 7, 3) := by decide +kernel
theorem dm_Re_part_51 : decode mm_Re_part.2.1 51 = .ok (.iload_n 2, 1) := by decide +kernel
theorem dm_Re_part_52 : decode mm_Re_part.2.1 52 = .ok (.iload 5, 2) := by decide +kernel
theorem dm_Re_part_54 : decode mm_Re_part.2.1 54 = .ok (.iadd, 1) := by decide +kernel
theorem dm_Re_part_55 : decode mm_Re_part.2.1 55 = .ok (.iaload, 1) := by decide +kernel
theorem dm_Re_part_56 : decode mm_Re_part.2.1 56 = .ok (.iastore, 1) := by decide +kernel
theorem dm_Re_part_57 : decode mm_Re_part.2.1 57 = .ok (.iinc 5 1, 3) := by decide +kernel
theorem dm_Re_part_60 : decode mm_Re_part.2.1 60 = .ok (.goto (-28), 3) := by decide +kernel
theorem dm_Re_part_63 : decode mm_Re_part.2.1 63 = .ok (.aload_n 0, 1) := by decide +kernel
theorem dm_Re_part_64 : decode mm_Re_part.2.1 64 = .ok (.getfield 13, 3) := by decide +kernel
theorem dm_Re_part_67 : decode mm_Re_part.2.1 67 = .ok (.bipush 112, 2) := by decide +kernel
theorem dm_Re_part_69 : decode mm_Re_part.2.1 69 = .ok (.iload_n 1, 1) := by decide +kernel
theorem dm_Re_part_70 : decode mm_Re_part.2.1 70 = .ok (.iadd, 1) := by decide +kernel
theorem dm_Re_part_71 : decode mm_Re_part.2.1 71 = .ok (.iload_n 3, 1) := by decide +kernel
theorem dm_Re_part_72 : decode mm_Re_part.2.1 72 = .ok (.iastore, 1) := by decide +kernel
theorem dm_Re_part_73 : decode mm_Re_part.2.1 73 = .ok (.return_, 1) := by decide +kernel
theorem dm_Re_compare_0 : decode mm_Re_compare.2.1 0 = .ok (.iconst 0, 1) := by decide +kernel
theorem dm_Re_compare_1 : decode mm_Re_compare.2.1 1 = .ok (.istore 5, 2) := by decide +kernel
theorem dm_Re_compare_3 : decode mm_Re_compare.2.1 3 = .ok (.iload_n 1, 1) := by decide +kernel
theorem dm_Re_compare_4 : decode mm_Re_compare.2.1 4 = .ok (.iload 5, 2) := by decide +kernel
theorem dm_Re_compare_6 : decode mm_Re_compare.2.1 6 = .ok (.iadd, 1) := by decide +kernel
theorem dm_Re_compare_7 : decode mm_Re_compare.2.1 7 = .ok (.iload_n 2, 1) := by decide +kernel
theorem dm_Re_compare_8 : decode mm_Re_compare.2.1 8 = .ok (.if_icmp .ge 66, 3) := by decide +kernel
theorem dm_Re_compare_11 : decode mm_Re_compare.2.1 11 = .ok (.iload_n 3, 1) := by decide +kernel
theorem dm_Re_compare_12 : decode mm_Re_compare.2.1 12 = .ok (.iload 5, 2) := by decide +kernel
theorem dm_Re_compare_14 : decode mm_Re_compare.2.1 14 = .ok (.iadd, 1) := by decide +kernel
theorem dm_Re_compare_15 : decode mm_Re_compare.2.1 15 = .ok (.iload 4, 2) := by decide +kernel
theorem dm_Re_compare_17 : decode mm_Re_compare.2.1 17 = .ok (.if_icmp .ge 57, 3) := by decide +kernel
theorem dm_Re_compare_20 : decode mm_Re_compare.2.1 20 = .ok (.aload_n 0, 1) := by decide +kernel
theorem dm_Re_compare_21 : decode mm_Re_compare.2.1 21 = .ok (.getfield 7, 3) := by decide +kernel
theorem dm_Re_compare_24 : decode mm_Re_compare.2.1 24 = .ok (.iload_n 1, 1) := by decide +kernel
theorem dm_Re_compare_25 : decode mm_Re_compare.2.1 25 = .ok (.iload 5, 2) := by decide +kernel
theorem dm_Re_compare_27 : decode mm_Re_compare.2.1 27 = .ok (.iadd, 1) := by decide +kernel
theorem dm_Re_compare_28 : decode mm_Re_compare.2.1 28 = .ok (.iaload, 1) := by decide +kernel
theorem dm_Re_compare_29 : decode mm_Re_compare.2.1 29 = .ok (.aload_n 0, 1) := by decide +kernel
theorem dm_Re_compare_30 : decode mm_Re_compare.2.1 30 = .ok (.getfield 7, 3) := by decide +kernel
theorem dm_Re_compare_33 : decode mm_Re_compare.2.1 33 = .ok (.iload_n 3, 1) := by decide +kernel
theorem dm_Re_compare_34 : decode mm_Re_compare.2.1 34 = .ok (.iload 5, 2) := by decide +kernel
theorem dm_Re_compare_36 : decode mm_Re_compare.2.1 36 = .ok (.iadd, 1) := by decide +kernel
theorem dm_Re_compare_37 : decode mm_Re_compare.2.1 37 = .ok (.iaload, 1) := by decide +kernel
theorem dm_Re_compare_38 : decode mm_Re_compare.2.1 38 = .ok (.if_icmp .eq 30, 3) := by decide +kernel
theorem dm_Re_compare_41 : decode mm_Re_compare.2.1 41 = .ok (.aload_n 0, 1) := by decide +kernel
theorem dm_Re_compare_42 : decode mm_Re_compare.2.1 42 = .ok (.getfield 7, 3) := by decide +kernel
theorem dm_Re_compare_45 : decode mm_Re_compare.2.1 45 = .ok (.iload_n 1, 1) := by decide +kernel
theorem dm_Re_compare_46 : decode mm_Re_compare.2.1 46 = .ok (.iload 5, 2) := by decide +kernel
theorem dm_Re_compare_48 : decode mm_Re_compare.2.1 48 = .ok (.iadd, 1) := by decide +kernel
theorem dm_Re_compare_49 : decode mm_Re_compare.2.1 49 = .ok (.iaload, 1) := by decide +kernel
theorem dm_Re_compare_50 : decode mm_Re_compare.2.1 50 = .ok (.aload_n 0, 1) := by decide +kernel
theorem dm_Re_compare_51 : decode mm_Re_compare.2.1 51 = .ok (.getfield 7, 3) := by decide +kernel
theorem dm_Re_compare_54 : decode mm_Re_compare.2.1 54 = .ok (.iload_n 3, 1) := by decide +kernel
theorem dm_Re_compare_55 : decode mm_Re_compare.2.1 55 = .ok (.iload 5, 2) := by decide +kernel
theorem dm_Re_compare_57 : decode mm_Re_compare.2.1 57 = .ok (.iadd, 1) := by decide +kernel
theorem dm_Re_compare_58 : decode mm_Re_compare.2.1 58 = .ok (.iaload, 1) := by decide +kernel
theorem dm_Re_compare_59 : decode mm_Re_compare.2.1 59 = .ok (.if_icmp .ge 7, 3) := by decide +kernel
theorem dm_Re_compare_62 : decode mm_Re_compare.2.1 62 = .ok (.iconst (-1), 1) := by decide +kernel
theorem dm_Re_compare_63 : decode mm_Re_compare.2.1 63 = .ok (.goto 4, 3) := by decide +kernel
theorem dm_Re_compare_66 : decode mm_Re_compare.2.1 66 = .ok (.iconst 1, 1) := by decide +kernel
theorem dm_Re_compare_67 : decode mm_Re_compare.2.1 67 = .ok (.ireturn, 1) := by decide +kernel
theorem dm_Re_compare_68 : decode mm_Re_compare.2.1 68 = .ok (.iinc 5 1, 3) := by decide +kernel
theorem dm_Re_compare_71 : decode mm_Re_compare.2.1 71 = .ok (.goto (-68), 3) := by decide +kernel
theorem dm_Re_compare_74 : decode mm_Re_compare.2.1 74 = .ok (.iconst 0, 1) := by decide +kernel
theorem dm_Re_compare_75 : decode mm_Re_compare.2.1 75 = .ok (.ireturn, 1) := by decide +kernel
theorem dm_Re_hypothesis_0 : decode mm_Re_hypothesis.2.1 0 = .ok (.iconst 1, 1) := by decide +kernel
theorem dm_Re_hypothesis_1 : decode mm_Re_hypothesis.2.1 1 = .ok (.istore_n 2, 1) := by decide +kernel
theorem dm_Re_hypothesis_2 : decode mm_Re_hypothesis.2.1 2 = .ok (.iload_n 2, 1) := by decide +kernel
theorem dm_Re_hypothesis_3 : decode mm_Re_hypothesis.2.1 3 = .ok (.aload_n 0, 1) := by decide +kernel
theorem dm_Re_hypothesis_4 : decode mm_Re_hypothesis.2.1 4 = .ok (.getfield 19, 3) := by decide +kernel
theorem dm_Re_hypothesis_7 : decode mm_Re_hypothesis.2.1 7 = .ok (.bipush 28, 2) := by decide +kernel
theorem dm_Re_hypothesis_9 : decode mm_Re_hypothesis.2.1 9 = .ok (.iaload, 1) := by decide +kernel
theorem dm_Re_hypothesis_10 : decode mm_Re_hypothesis.2.1 10 = .ok (.if_icmp .gt 53, 3) := by decide +kernel
theorem dm_Re_hypothesis_13 : decode mm_Re_hypothesis.2.1 13 = .ok (.bipush 28, 2) := by decide +kernel
theorem dm_Re_hypothesis_15 : decode mm_Re_hypothesis.2.1 15 = .ok (.iload_n 2, 1) := by decide +kernel
theorem dm_Re_hypothesis_16 : decode mm_Re_hypothesis.2.1 16 = .ok (.invokestatic 54, 3) := by decide +kernel
theorem dm_Re_hypothesis_19 : decode mm_Re_hypothesis.2.1 19 = .ok (.istore_n 3, 1) := by decide +kernel
theorem dm_Re_hypothesis_20 : decode mm_Re_hypothesis.2.1 20 = .ok (.aload_n 0, 1) := by decide +kernel
theorem dm_Re_hypothesis_21 : decode mm_Re_hypothesis.2.1 21 = .ok (.iload_n 1, 1) := by decide +kernel
theorem dm_Re_hypothesis_22 : decode mm_Re_hypothesis.2.1 22 = .ok (.aload_n 0, 1) := by decide +kernel
theorem dm_Re_hypothesis_23 : decode mm_Re_hypothesis.2.1 23 = .ok (.getfield 28, 3) := by decide +kernel
theorem dm_Re_hypothesis_26 : decode mm_Re_hypothesis.2.1 26 = .ok (.iload_n 3, 1) := by decide +kernel
theorem dm_Re_hypothesis_27 : decode mm_Re_hypothesis.2.1 27 = .ok (.iload_n 3, 1) := by decide +kernel
theorem dm_Re_hypothesis_28 : decode mm_Re_hypothesis.2.1 28 = .ok (.aload_n 0, 1) := by decide +kernel
theorem dm_Re_hypothesis_29 : decode mm_Re_hypothesis.2.1 29 = .ok (.getfield 13, 3) := by decide +kernel
theorem dm_Re_hypothesis_32 : decode mm_Re_hypothesis.2.1 32 = .ok (.bipush 112, 2) := by decide +kernel
theorem dm_Re_hypothesis_34 : decode mm_Re_hypothesis.2.1 34 = .ok (.iload_n 2, 1) := by decide +kernel
theorem dm_Re_hypothesis_35 : decode mm_Re_hypothesis.2.1 35 = .ok (.iadd, 1) := by decide +kernel
theorem dm_Re_hypothesis_36 : decode mm_Re_hypothesis.2.1 36 = .ok (.iaload, 1) := by decide +kernel
theorem dm_Re_hypothesis_37 : decode mm_Re_hypothesis.2.1 37 = .ok (.iadd, 1) := by decide +kernel
theorem dm_Re_hypothesis_38 : decode mm_Re_hypothesis.2.1 38 = .ok (.invokevirtual 58, 3) := by decide +kernel
theorem dm_Re_hypothesis_41 : decode mm_Re_hypothesis.2.1 41 = .ok (.istore 4, 2) := by decide +kernel
theorem dm_Re_hypothesis_43 : decode mm_Re_hypothesis.2.1 43 = .ok (.iload 4, 2) := by decide +kernel
theorem dm_Re_hypothesis_45 : decode mm_Re_hypothesis.2.1 45 = .ok (.ifCond .ne 4, 3) := by decide +kernel
theorem dm_Re_hypothesis_48 : decode mm_Re_hypothesis.2.1 48 = .ok (.return_, 1) := by decide +kernel
theorem dm_Re_hypothesis_49 : decode mm_Re_hypothesis.2.1 49 = .ok (.iload 4, 2) := by decide +kernel
theorem dm_Re_hypothesis_51 : decode mm_Re_hypothesis.2.1 51 = .ok (.ifCond .ge 6, 3) := by decide +kernel
theorem dm_Re_hypothesis_54 : decode mm_Re_hypothesis.2.1 54 = .ok (.goto 9, 3) := by decide +kernel
theorem dm_Re_hypothesis_57 : decode mm_Re_hypothesis.2.1 57 = .ok (.iinc 2 1, 3) := by decide +kernel
theorem dm_Re_hypothesis_60 : decode mm_Re_hypothesis.2.1 60 = .ok (.goto (-58), 3) := by decide +kernel
theorem dm_Re_hypothesis_63 : decode mm_Re_hypothesis.2.1 63 = .ok (.aload_n 0, 1) := by decide +kernel
theorem dm_Re_hypothesis_64 : decode mm_Re_hypothesis.2.1 64 = .ok (.getfield 19, 3) := by decide +kernel
theorem dm_Re_hypothesis_67 : decode mm_Re_hypothesis.2.1 67 = .ok (.bipush 28, 2) := by decide +kernel
theorem dm_Re_hypothesis_69 : decode mm_Re_hypothesis.2.1 69 = .ok (.iaload, 1) := by decide +kernel
theorem dm_Re_hypothesis_70 : decode mm_Re_hypothesis.2.1 70 = .ok (.iconst 3, 1) := by decide +kernel
theorem dm_Re_hypothesis_71 : decode mm_Re_hypothesis.2.1 71 = .ok (.if_icmp .eq 14, 3) := by decide +kernel
theorem dm_Re_hypothesis_74 : decode mm_Re_hypothesis.2.1 74 = .ok (.aload_n 0, 1) := by decide +kernel
theorem dm_Re_hypothesis_75 : decode mm_Re_hypothesis.2.1 75 = .ok (.getfield 28, 3) := by decide +kernel
theorem dm_Re_hypothesis_78 : decode mm_Re_hypothesis.2.1 78 = .ok (.iload_n 1, 1) := by decide +kernel
theorem dm_Re_hypothesis_79 : decode mm_Re_hypothesis.2.1 79 = .ok (.isub, 1) := by decide +kernel
theorem dm_Re_hypothesis_80 : decode mm_Re_hypothesis.2.1 80 = .ok (.bipush 40, 2) := by decide +kernel
theorem dm_Re_hypothesis_82 : decode mm_Re_hypothesis.2.1 82 = .ok (.if_icmp .le 9, 3) := by decide +kernel
theorem dm_Re_hypothesis_85 : decode mm_Re_hypothesis.2.1 85 = .ok (.aload_n 0, 1) := by decide +kernel
theorem dm_Re_hypothesis_86 : decode mm_Re_hypothesis.2.1 86 = .ok (.iconst 1, 1) := by decide +kernel
theorem dm_Re_hypothesis_87 : decode mm_Re_hypothesis.2.1 87 = .ok (.putfield 50, 3) := by decide +kernel
theorem dm_Re_hypothesis_90 : decode mm_Re_hypothesis.2.1 90 = .ok (.return_, 1) := by decide +kernel
theorem dm_Re_hypothesis_91 : decode mm_Re_hypothesis.2.1 91 = .ok (.aload_n 0, 1) := by decide +kernel
theorem dm_Re_hypothesis_92 : decode mm_Re_hypothesis.2.1 92 = .ok (.getfield 19, 3) := by decide +kernel
theorem dm_Re_hypothesis_95 : decode mm_Re_hypothesis.2.1 95 = .ok (.bipush 28, 2) := by decide +kernel
theorem dm_Re_hypothesis_97 : decode mm_Re_hypothesis.2.1 97 = .ok (.iaload, 1) := by decide +kernel
theorem dm_Re_hypothesis_98 : decode mm_Re_hypothesis.2.1 98 = .ok (.istore_n 3, 1) := by decide +kernel
theorem dm_Re_hypothesis_99 : decode mm_Re_hypothesis.2.1 99 = .ok (.iload_n 3, 1) := by decide +kernel
theorem dm_Re_hypothesis_100 : decode mm_Re_hypothesis.2.1 100 = .ok (.iload_n 2, 1) := by decide +kernel
theorem dm_Re_hypothesis_101 : decode mm_Re_hypothesis.2.1 101 = .ok (.if_icmp .lt 21, 3) := by decide +kernel
theorem dm_Re_hypothesis_104 : decode mm_Re_hypothesis.2.1 104 = .ok (.aload_n 0, 1) := by decide +kernel
theorem dm_Re_hypothesis_105 : decode mm_Re_hypothesis.2.1 105 = .ok (.bipush 28, 2) := by decide +kernel
theorem dm_Re_hypothesis_107 : decode mm_Re_hypothesis.2.1 107 = .ok (.iload_n 3, 1) := by decide +kernel
theorem dm_Re_hypothesis_108 : decode mm_Re_hypothesis.2.1 108 = .ok (.bipush 28, 2) := by decide +kernel
theorem dm_Re_hypothesis_110 : decode mm_Re_hypothesis.2.1 110 = .ok (.iload_n 3, 1) := by decide +kernel
theorem dm_Re_hypothesis_111 : decode mm_Re_hypothesis.2.1 111 = .ok (.iconst 1, 1) := by decide +kernel
theorem dm_Re_hypothesis_112 : decode mm_Re_hypothesis.2.1 112 = .ok (.iadd, 1) := by decide +kernel
theorem dm_Re_hypothesis_113 : decode mm_Re_hypothesis.2.1 113 = .ok (.invokevirtual 62, 3) := by decide +kernel
theorem dm_Re_hypothesis_116 : decode mm_Re_hypothesis.2.1 116 = .ok (.iinc 3 (-1), 3) := by decide +kernel
theorem dm_Re_hypothesis_119 : decode mm_Re_hypothesis.2.1 119 = .ok (.goto (-20), 3) := by decide +kernel
theorem dm_Re_hypothesis_122 : decode mm_Re_hypothesis.2.1 122 = .ok (.aload_n 0, 1) := by decide +kernel
theorem dm_Re_hypothesis_123 : decode mm_Re_hypothesis.2.1 123 = .ok (.getfield 19, 3) := by decide +kernel
theorem dm_Re_hypothesis_126 : decode mm_Re_hypothesis.2.1 126 = .ok (.bipush 28, 2) := by decide +kernel
theorem dm_Re_hypothesis_128 : decode mm_Re_hypothesis.2.1 128 = .ok (.dup2, 1) := by decide +kernel
theorem dm_Re_hypothesis_129 : decode mm_Re_hypothesis.2.1 129 = .ok (.iaload, 1) := by decide +kernel
theorem dm_Re_hypothesis_130 : decode mm_Re_hypothesis.2.1 130 = .ok (.iconst 1, 1) := by decide +kernel
theorem dm_Re_hypothesis_131 : decode mm_Re_hypothesis.2.1 131 = .ok (.iadd, 1) := by decide +kernel
theorem dm_Re_hypothesis_132 : decode mm_Re_hypothesis.2.1 132 = .ok (.iastore, 1) := by decide +kernel
theorem dm_Re_hypothesis_133 : decode mm_Re_hypothesis.2.1 133 = .ok (.aload_n 0, 1) := by decide +kernel
theorem dm_Re_hypothesis_134 : decode mm_Re_hypothesis.2.1 134 = .ok (.iload_n 2, 1) := by decide +kernel
theorem dm_Re_hypothesis_135 : decode mm_Re_hypothesis.2.1 135 = .ok (.iload_n 1, 1) := by decide +kernel
theorem dm_Re_hypothesis_136 : decode mm_Re_hypothesis.2.1 136 = .ok (.invokevirtual 66, 3) := by decide +kernel
theorem dm_Re_hypothesis_139 : decode mm_Re_hypothesis.2.1 139 = .ok (.return_, 1) := by decide +kernel
theorem dm_Re_movePart_0 : decode mm_Re_movePart.2.1 0 = .ok (.iload_n 1, 1) := by decide +kernel
theorem dm_Re_movePart_1 : decode mm_Re_movePart.2.1 1 = .ok (.iload_n 2, 1) := by decide +kernel
theorem dm_Re_movePart_2 : decode mm_Re_movePart.2.1 2 = .ok (.invokestatic 54, 3) := by decide +kernel
theorem dm_Re_movePart_5 : decode mm_Re_movePart.2.1 5 = .ok (.istore 5, 2) := by decide +kernel
theorem dm_Re_movePart_7 : decode mm_Re_movePart.2.1 7 = .ok (.iload_n 3, 1) := by decide +kernel
theorem dm_Re_movePart_8 : decode mm_Re_movePart.2.1 8 = .ok (.iload 4, 2) := by decide +kernel
theorem dm_Re_movePart_10 : decode mm_Re_movePart.2.1 10 = .ok (.invokestatic 54, 3) := by decide +kernel
theorem dm_Re_movePart_13 : decode mm_Re_movePart.2.1 13 = .ok (.istore 6, 2) := by decide +kernel
theorem dm_Re_movePart_15 : decode mm_Re_movePart.2.1 15 = .ok (.aload_n 0, 1) := by decide +kernel
theorem dm_Re_movePart_16 : decode mm_Re_movePart.2.1 16 = .ok (.getfield 13, 3) := by decide +kernel
theorem dm_Re_movePart_19 : decode mm_Re_movePart.2.1 19 = .ok (.iconst 4, 1) := by decide +kernel
theorem dm_Re_movePart_20 : decode mm_Re_movePart.2.1 20 = .ok (.iload_n 1, 1) := by decide +kernel
theorem dm_Re_movePart_21 : decode mm_Re_movePart.2.1 21 = .ok (.imul, 1) := by decide +kernel
theorem dm_Re_movePart_22 : decode mm_Re_movePart.2.1 22 = .ok (.iload_n 2, 1) := by decide +kernel
theorem dm_Re_movePart_23 : decode mm_Re_movePart.2.1 23 = .ok (.iadd, 1) := by decide +kernel
theorem dm_Re_movePart_24 : decode mm_Re_movePart.2.1 24 = .ok (.iaload, 1) := by decide +kernel
theorem dm_Re_movePart_25 : decode mm_Re_movePart.2.1 25 = .ok (.istore 7, 2) := by decide +kernel
theorem dm_Re_movePart_27 : decode mm_Re_movePart.2.1 27 = .ok (.iconst 0, 1) := by decide +kernel
theorem dm_Re_movePart_28 : decode mm_Re_movePart.2.1 28 = .ok (.istore 8, 2) := by decide +kernel
theorem dm_Re_movePart_30 : decode mm_Re_movePart.2.1 30 = .ok (.iload 8, 2) := by decide +kernel
theorem dm_Re_movePart_32 : decode mm_Re_movePart.2.1 32 = .ok (.iload 7, 2) := by decide +kernel
theorem dm_Re_movePart_34 : decode mm_Re_movePart.2.1 34 = .ok (.if_icmp .ge 29, 3) := by decide +kernel
theorem dm_Re_movePart_37 : decode mm_Re_movePart.2.1 37 = .ok (.aload_n 0, 1) := by decide +kernel
theorem dm_Re_movePart_38 : decode mm_Re_movePart.2.1 38 = .ok (.getfield 7, 3) := by decide +kernel
theorem dm_Re_movePart_41 : decode mm_Re_movePart.2.1 41 = .ok (.iload 6, 2) := by decide +kernel
theorem dm_Re_movePart_43 : decode mm_Re_movePart.2.1 43 = .ok (.iload 8, 2) := by decide +kernel
theorem dm_Re_movePart_45 : decode mm_Re_movePart.2.1 45 = .ok (.iadd, 1) := by decide +kernel
theorem dm_Re_movePart_46 : decode mm_Re_movePart.2.1 46 = .ok (.aload_n 0, 1) := by decide +kernel
theorem dm_Re_movePart_47 : decode mm_Re_movePart.2.1 47 = .ok (.getfield 7, 3) := by decide +kernel
theorem dm_Re_movePart_50 : decode mm_Re_movePart.2.1 50 = .ok (.iload 5, 2) := by decide +kernel
theorem dm_Re_movePart_52 : decode mm_Re_movePart.2.1 52 = .ok (.iload 8, 2) := by decide +kernel
theorem dm_Re_movePart_54 : decode mm_Re_movePart.2.1 54 = .ok (.iadd, 1) := by decide +kernel
theorem dm_Re_movePart_55 : decode mm_Re_movePart.2.1 55 = .ok (.iaload, 1) := by decide +kernel
theorem dm_Re_movePart_56 : decode mm_Re_movePart.2.1 56 = .ok (.iastore, 1) := by decide +kernel
theorem dm_Re_movePart_57 : decode mm_Re_movePart.2.1 57 = .ok (.iinc 8 1, 3) := by decide +kernel
theorem dm_Re_movePart_60 : decode mm_Re_movePart.2.1 60 = .ok (.goto (-30), 3) := by decide +kernel
theorem dm_Re_movePart_63 : decode mm_Re_movePart.2.1 63 = .ok (.aload_n 0, 1) := by decide +kernel
theorem dm_Re_movePart_64 : decode mm_Re_movePart.2.1 64 = .ok (.getfield 13, 3) := by decide +kernel
theorem dm_Re_movePart_67 : decode mm_Re_movePart.2.1 67 = .ok (.iconst 4, 1) := by decide +kernel
theorem dm_Re_movePart_68 : decode mm_Re_movePart.2.1 68 = .ok (.iload_n 3, 1) := by decide +kernel
theorem dm_Re_movePart_69 : decode mm_Re_movePart.2.1 69 = .ok (.imul, 1) := by decide +kernel
theorem dm_Re_movePart_70 : decode mm_Re_movePart.2.1 70 = .ok (.iload 4, 2) := by decide +kernel
theorem dm_Re_movePart_72 : decode mm_Re_movePart.2.1 72 = .ok (.iadd, 1) := by decide +kernel
theorem dm_Re_movePart_73 : decode mm_Re_movePart.2.1 73 = .ok (.iload 7, 2) := by decide +kernel
theorem dm_Re_movePart_75 : decode mm_Re_movePart.2.1 75 = .ok (.iastore, 1) := by decide +kernel
theorem dm_Re_movePart_76 : decode mm_Re_movePart.2.1 76 = .ok (.return_, 1) := by decide +kernel
theorem dm_Re_copyObject_0 : decode mm_Re_copyObject.2.1 0 = .ok (.aload_n 0, 1) := by decide +kernel
theorem dm_Re_copyObject_1 : decode mm_Re_copyObject.2.1 1 = .ok (.getfield 16, 3) := by decide +kernel
theorem dm_Re_copyObject_4 : decode mm_Re_copyObject.2.1 4 = .ok (.iload_n 2, 1) := by decide +kernel
theorem dm_Re_copyObject_5 : decode mm_Re_copyObject.2.1 5 = .ok (.aload_n 0, 1) := by decide +kernel
theorem dm_Re_copyObject_6 : decode mm_Re_copyObject.2.1 6 = .ok (.getfield 16, 3) := by decide +kernel
theorem dm_Re_copyObject_9 : decode mm_Re_copyObject.2.1 9 = .ok (.iload_n 1, 1) := by decide +kernel
theorem dm_Re_copyObject_10 : decode mm_Re_copyObject.2.1 10 = .ok (.iaload, 1) := by decide +kernel
theorem dm_Re_copyObject_11 : decode mm_Re_copyObject.2.1 11 = .ok (.iastore, 1) := by decide +kernel
theorem dm_Re_copyObject_12 : decode mm_Re_copyObject.2.1 12 = .ok (.aload_n 0, 1) := by decide +kernel
theorem dm_Re_copyObject_13 : decode mm_Re_copyObject.2.1 13 = .ok (.getfield 19, 3) := by decide +kernel
theorem dm_Re_copyObject_16 : decode mm_Re_copyObject.2.1 16 = .ok (.iload_n 2, 1) := by decide +kernel
theorem dm_Re_copyObject_17 : decode mm_Re_copyObject.2.1 17 = .ok (.aload_n 0, 1) := by decide +kernel
theorem dm_Re_copyObject_18 : decode mm_Re_copyObject.2.1 18 = .ok (.getfield 19, 3) := by decide +kernel
theorem dm_Re_copyObject_21 : decode mm_Re_copyObject.2.1 21 = .ok (.iload_n 1, 1) := by decide +kernel
theorem dm_Re_copyObject_22 : decode mm_Re_copyObject.2.1 22 = .ok (.iaload, 1) := by decide +kernel
theorem dm_Re_copyObject_23 : decode mm_Re_copyObject.2.1 23 = .ok (.iastore, 1) := by decide +kernel
theorem dm_Re_copyObject_24 : decode mm_Re_copyObject.2.1 24 = .ok (.iconst 0, 1) := by decide +kernel
theorem dm_Re_copyObject_25 : decode mm_Re_copyObject.2.1 25 = .ok (.istore_n 3, 1) := by decide +kernel
theorem dm_Re_copyObject_26 : decode mm_Re_copyObject.2.1 26 = .ok (.iload_n 3, 1) := by decide +kernel
theorem dm_Re_copyObject_27 : decode mm_Re_copyObject.2.1 27 = .ok (.iconst 4, 1) := by decide +kernel
theorem dm_Re_copyObject_28 : decode mm_Re_copyObject.2.1 28 = .ok (.if_icmp .ge 17, 3) := by decide +kernel
theorem dm_Re_copyObject_31 : decode mm_Re_copyObject.2.1 31 = .ok (.aload_n 0, 1) := by decide +kernel
theorem dm_Re_copyObject_32 : decode mm_Re_copyObject.2.1 32 = .ok (.iload_n 1, 1) := by decide +kernel
theorem dm_Re_copyObject_33 : decode mm_Re_copyObject.2.1 33 = .ok (.iload_n 3, 1) := by decide +kernel
theorem dm_Re_copyObject_34 : decode mm_Re_copyObject.2.1 34 = .ok (.iload_n 2, 1) := by decide +kernel
theorem dm_Re_copyObject_35 : decode mm_Re_copyObject.2.1 35 = .ok (.iload_n 3, 1) := by decide +kernel
theorem dm_Re_copyObject_36 : decode mm_Re_copyObject.2.1 36 = .ok (.invokevirtual 62, 3) := by decide +kernel
theorem dm_Re_copyObject_39 : decode mm_Re_copyObject.2.1 39 = .ok (.iinc 3 1, 3) := by decide +kernel
theorem dm_Re_copyObject_42 : decode mm_Re_copyObject.2.1 42 = .ok (.goto (-16), 3) := by decide +kernel
theorem dm_Re_copyObject_45 : decode mm_Re_copyObject.2.1 45 = .ok (.return_, 1) := by decide +kernel
theorem dm_Re_bring_0 : decode mm_Re_bring.2.1 0 = .ok (.iconst 1, 1) := by decide +kernel
theorem dm_Re_bring_1 : decode mm_Re_bring.2.1 1 = .ok (.istore 4, 2) := by decide +kernel
theorem dm_Re_bring_3 : decode mm_Re_bring.2.1 3 = .ok (.iload 4, 2) := by decide +kernel
theorem dm_Re_bring_5 : decode mm_Re_bring.2.1 5 = .ok (.aload_n 0, 1) := by decide +kernel
theorem dm_Re_bring_6 : decode mm_Re_bring.2.1 6 = .ok (.getfield 19, 3) := by decide +kernel
theorem dm_Re_bring_9 : decode mm_Re_bring.2.1 9 = .ok (.iload_n 1, 1) := by decide +kernel
theorem dm_Re_bring_10 : decode mm_Re_bring.2.1 10 = .ok (.iaload, 1) := by decide +kernel
theorem dm_Re_bring_11 : decode mm_Re_bring.2.1 11 = .ok (.if_icmp .gt 72, 3) := by decide +kernel
theorem dm_Re_bring_14 : decode mm_Re_bring.2.1 14 = .ok (.iload_n 1, 1) := by decide +kernel
theorem dm_Re_bring_15 : decode mm_Re_bring.2.1 15 = .ok (.iload 4, 2) := by decide +kernel
theorem dm_Re_bring_17 : decode mm_Re_bring.2.1 17 = .ok (.invokestatic 54, 3) := by decide +kernel
theorem dm_Re_bring_20 : decode mm_Re_bring.2.1 20 = .ok (.istore 5, 2) := by decide +kernel
theorem dm_Re_bring_22 : decode mm_Re_bring.2.1 22 = .ok (.iload 5, 2) := by decide +kernel
theorem dm_Re_bring_24 : decode mm_Re_bring.2.1 24 = .ok (.aload_n 0, 1) := by decide +kernel
theorem dm_Re_bring_25 : decode mm_Re_bring.2.1 25 = .ok (.getfield 13, 3) := by decide +kernel
theorem dm_Re_bring_28 : decode mm_Re_bring.2.1 28 = .ok (.iconst 4, 1) := by decide +kernel
theorem dm_Re_bring_29 : decode mm_Re_bring.2.1 29 = .ok (.iload_n 1, 1) := by decide +kernel
theorem dm_Re_bring_30 : decode mm_Re_bring.2.1 30 = .ok (.imul, 1) := by decide +kernel
theorem dm_Re_bring_31 : decode mm_Re_bring.2.1 31 = .ok (.iload 4, 2) := by decide +kernel
theorem dm_Re_bring_33 : decode mm_Re_bring.2.1 33 = .ok (.iadd, 1) := by decide +kernel
theorem dm_Re_bring_34 : decode mm_Re_bring.2.1 34 = .ok (.iaload, 1) := by decide +kernel
theorem dm_Re_bring_35 : decode mm_Re_bring.2.1 35 = .ok (.iadd, 1) := by decide +kernel
theorem dm_Re_bring_36 : decode mm_Re_bring.2.1 36 = .ok (.istore 6, 2) := by decide +kernel
theorem dm_Re_bring_38 : decode mm_Re_bring.2.1 38 = .ok (.aload_n 0, 1) := by decide +kernel
theorem dm_Re_bring_39 : decode mm_Re_bring.2.1 39 = .ok (.iload 5, 2) := by decide +kernel
theorem dm_Re_bring_41 : decode mm_Re_bring.2.1 41 = .ok (.iload 6, 2) := by decide +kernel
end
section
theorem dm_Re_bring_43 : decode mm_Re_bring.2.1 43 = .ok (.iload_n 2, 1) := by decide +kernel
theorem dm_Re_bring_44 : decode mm_Re_bring.2.1 44 = .ok (.iload_n 3, 1) := by decide +kernel
theorem dm_Re_bring_45 : decode mm_Re_bring.2.1 45 = .ok (.invokevirtual 69, 3) := by decide +kernel
theorem dm_Re_bring_48 : decode mm_Re_bring.2.1 48 = .ok (.ifCond .ne 29, 3) := by decide +kernel
theorem dm_Re_bring_51 : decode mm_Re_bring.2.1 51 = .ok (.aload_n 0, 1) := by decide +kernel
theorem dm_Re_bring_52 : decode mm_Re_bring.2.1 52 = .ok (.getfield 28, 3) := by decide +kernel
theorem dm_Re_bring_55 : decode mm_Re_bring.2.1 55 = .ok (.istore 7, 2) := by decide +kernel
theorem dm_Re_bring_57 : decode mm_Re_bring.2.1 57 = .ok (.aload_n 0, 1) := by decide +kernel
theorem dm_Re_bring_58 : decode mm_Re_bring.2.1 58 = .ok (.iload 5, 2) := by decide +kernel
theorem dm_Re_bring_60 : decode mm_Re_bring.2.1 60 = .ok (.iload 6, 2) := by decide +kernel
theorem dm_Re_bring_62 : decode mm_Re_bring.2.1 62 = .ok (.invokevirtual 43, 3) := by decide +kernel
theorem dm_Re_bring_65 : decode mm_Re_bring.2.1 65 = .ok (.aload_n 0, 1) := by decide +kernel
theorem dm_Re_bring_66 : decode mm_Re_bring.2.1 66 = .ok (.iload 7, 2) := by decide +kernel
theorem dm_Re_bring_68 : decode mm_Re_bring.2.1 68 = .ok (.invokevirtual 73, 3) := by decide +kernel
theorem dm_Re_bring_71 : decode mm_Re_bring.2.1 71 = .ok (.aload_n 0, 1) := by decide +kernel
theorem dm_Re_bring_72 : decode mm_Re_bring.2.1 72 = .ok (.iload 7, 2) := by decide +kernel
theorem dm_Re_bring_74 : decode mm_Re_bring.2.1 74 = .ok (.putfield 28, 3) := by decide +kernel
theorem dm_Re_bring_77 : decode mm_Re_bring.2.1 77 = .ok (.iinc 4 1, 3) := by decide +kernel
theorem dm_Re_bring_80 : decode mm_Re_bring.2.1 80 = .ok (.goto (-77), 3) := by decide +kernel
theorem dm_Re_bring_83 : decode mm_Re_bring.2.1 83 = .ok (.return_, 1) := by decide +kernel
theorem dm_Re_beginEquation_0 : decode mm_Re_beginEquation.2.1 0 = .ok (.aload_n 0, 1) := by decide +kernel
theorem dm_Re_beginEquation_1 : decode mm_Re_beginEquation.2.1 1 = .ok (.bipush 12, 2) := by decide +kernel
theorem dm_Re_beginEquation_3 : decode mm_Re_beginEquation.2.1 3 = .ok (.invokevirtual 32, 3) := by decide +kernel
theorem dm_Re_beginEquation_6 : decode mm_Re_beginEquation.2.1 6 = .ok (.aload_n 0, 1) := by decide +kernel
theorem dm_Re_beginEquation_7 : decode mm_Re_beginEquation.2.1 7 = .ok (.bipush 12, 2) := by decide +kernel
theorem dm_Re_beginEquation_9 : decode mm_Re_beginEquation.2.1 9 = .ok (.invokevirtual 32, 3) := by decide +kernel
theorem dm_Re_beginEquation_12 : decode mm_Re_beginEquation.2.1 12 = .ok (.aload_n 0, 1) := by decide +kernel
theorem dm_Re_beginEquation_13 : decode mm_Re_beginEquation.2.1 13 = .ok (.bipush 11, 2) := by decide +kernel
theorem dm_Re_beginEquation_15 : decode mm_Re_beginEquation.2.1 15 = .ok (.invokevirtual 32, 3) := by decide +kernel
theorem dm_Re_beginEquation_18 : decode mm_Re_beginEquation.2.1 18 = .ok (.aload_n 0, 1) := by decide +kernel
theorem dm_Re_beginEquation_19 : decode mm_Re_beginEquation.2.1 19 = .ok (.iconst 0, 1) := by decide +kernel
theorem dm_Re_beginEquation_20 : decode mm_Re_beginEquation.2.1 20 = .ok (.invokevirtual 32, 3) := by decide +kernel
theorem dm_Re_beginEquation_23 : decode mm_Re_beginEquation.2.1 23 = .ok (.aload_n 0, 1) := by decide +kernel
theorem dm_Re_beginEquation_24 : decode mm_Re_beginEquation.2.1 24 = .ok (.iload_n 1, 1) := by decide +kernel
theorem dm_Re_beginEquation_25 : decode mm_Re_beginEquation.2.1 25 = .ok (.iload_n 2, 1) := by decide +kernel
theorem dm_Re_beginEquation_26 : decode mm_Re_beginEquation.2.1 26 = .ok (.invokevirtual 43, 3) := by decide +kernel
theorem dm_Re_beginEquation_29 : decode mm_Re_beginEquation.2.1 29 = .ok (.return_, 1) := by decide +kernel
theorem dm_Re_done_0 : decode mm_Re_done.2.1 0 = .ok (.aload_n 0, 1) := by decide +kernel
theorem dm_Re_done_1 : decode mm_Re_done.2.1 1 = .ok (.getfield 50, 3) := by decide +kernel
theorem dm_Re_done_4 : decode mm_Re_done.2.1 4 = .ok (.ifCond .ne 12, 3) := by decide +kernel
theorem dm_Re_done_7 : decode mm_Re_done.2.1 7 = .ok (.aload_n 0, 1) := by decide +kernel
theorem dm_Re_done_8 : decode mm_Re_done.2.1 8 = .ok (.getfield 76, 3) := by decide +kernel
theorem dm_Re_done_11 : decode mm_Re_done.2.1 11 = .ok (.bipush 120, 2) := by decide +kernel
theorem dm_Re_done_13 : decode mm_Re_done.2.1 13 = .ok (.if_icmp .ne 5, 3) := by decide +kernel
theorem dm_Re_done_16 : decode mm_Re_done.2.1 16 = .ok (.iconst 4, 1) := by decide +kernel
theorem dm_Re_done_17 : decode mm_Re_done.2.1 17 = .ok (.ireturn, 1) := by decide +kernel
theorem dm_Re_done_18 : decode mm_Re_done.2.1 18 = .ok (.aload_n 0, 1) := by decide +kernel
theorem dm_Re_done_19 : decode mm_Re_done.2.1 19 = .ok (.dup, 1) := by decide +kernel
theorem dm_Re_done_20 : decode mm_Re_done.2.1 20 = .ok (.getfield 76, 3) := by decide +kernel
theorem dm_Re_done_23 : decode mm_Re_done.2.1 23 = .ok (.iconst 1, 1) := by decide +kernel
theorem dm_Re_done_24 : decode mm_Re_done.2.1 24 = .ok (.iadd, 1) := by decide +kernel
theorem dm_Re_done_25 : decode mm_Re_done.2.1 25 = .ok (.putfield 76, 3) := by decide +kernel
theorem dm_Re_done_28 : decode mm_Re_done.2.1 28 = .ok (.aload_n 0, 1) := by decide +kernel
theorem dm_Re_done_29 : decode mm_Re_done.2.1 29 = .ok (.dup, 1) := by decide +kernel
theorem dm_Re_done_30 : decode mm_Re_done.2.1 30 = .ok (.getfield 79, 3) := by decide +kernel
theorem dm_Re_done_33 : decode mm_Re_done.2.1 33 = .ok (.iload_n 1, 1) := by decide +kernel
theorem dm_Re_done_34 : decode mm_Re_done.2.1 34 = .ok (.isub, 1) := by decide +kernel
theorem dm_Re_done_35 : decode mm_Re_done.2.1 35 = .ok (.putfield 79, 3) := by decide +kernel
theorem dm_Re_done_38 : decode mm_Re_done.2.1 38 = .ok (.aload_n 0, 1) := by decide +kernel
theorem dm_Re_done_39 : decode mm_Re_done.2.1 39 = .ok (.bipush 28, 2) := by decide +kernel
theorem dm_Re_done_41 : decode mm_Re_done.2.1 41 = .ok (.aload_n 0, 1) := by decide +kernel
theorem dm_Re_done_42 : decode mm_Re_done.2.1 42 = .ok (.getfield 79, 3) := by decide +kernel
theorem dm_Re_done_45 : decode mm_Re_done.2.1 45 = .ok (.invokevirtual 82, 3) := by decide +kernel
theorem dm_Re_done_48 : decode mm_Re_done.2.1 48 = .ok (.aload_n 0, 1) := by decide +kernel
theorem dm_Re_done_49 : decode mm_Re_done.2.1 49 = .ok (.dup, 1) := by decide +kernel
theorem dm_Re_done_50 : decode mm_Re_done.2.1 50 = .ok (.getfield 79, 3) := by decide +kernel
theorem dm_Re_done_53 : decode mm_Re_done.2.1 53 = .ok (.iconst 1, 1) := by decide +kernel
theorem dm_Re_done_54 : decode mm_Re_done.2.1 54 = .ok (.iadd, 1) := by decide +kernel
theorem dm_Re_done_55 : decode mm_Re_done.2.1 55 = .ok (.putfield 79, 3) := by decide +kernel
theorem dm_Re_done_58 : decode mm_Re_done.2.1 58 = .ok (.iconst 0, 1) := by decide +kernel
theorem dm_Re_done_59 : decode mm_Re_done.2.1 59 = .ok (.ireturn, 1) := by decide +kernel
theorem dm_Re_top_0 : decode mm_Re_top.2.1 0 = .ok (.iload_n 1, 1) := by decide +kernel
theorem dm_Re_top_1 : decode mm_Re_top.2.1 1 = .ok (.aload_n 0, 1) := by decide +kernel
theorem dm_Re_top_2 : decode mm_Re_top.2.1 2 = .ok (.getfield 79, 3) := by decide +kernel
theorem dm_Re_top_5 : decode mm_Re_top.2.1 5 = .ok (.if_icmp .ge 19, 3) := by decide +kernel
theorem dm_Re_top_8 : decode mm_Re_top.2.1 8 = .ok (.aload_n 0, 1) := by decide +kernel
theorem dm_Re_top_9 : decode mm_Re_top.2.1 9 = .ok (.getfield 16, 3) := by decide +kernel
theorem dm_Re_top_12 : decode mm_Re_top.2.1 12 = .ok (.aload_n 0, 1) := by decide +kernel
theorem dm_Re_top_13 : decode mm_Re_top.2.1 13 = .ok (.getfield 79, 3) := by decide +kernel
theorem dm_Re_top_16 : decode mm_Re_top.2.1 16 = .ok (.iconst 1, 1) := by decide +kernel
theorem dm_Re_top_17 : decode mm_Re_top.2.1 17 = .ok (.isub, 1) := by decide +kernel
theorem dm_Re_top_18 : decode mm_Re_top.2.1 18 = .ok (.iload_n 1, 1) := by decide +kernel
theorem dm_Re_top_19 : decode mm_Re_top.2.1 19 = .ok (.isub, 1) := by decide +kernel
theorem dm_Re_top_20 : decode mm_Re_top.2.1 20 = .ok (.iaload, 1) := by decide +kernel
theorem dm_Re_top_21 : decode mm_Re_top.2.1 21 = .ok (.goto 4, 3) := by decide +kernel
theorem dm_Re_top_24 : decode mm_Re_top.2.1 24 = .ok (.iconst (-1), 1) := by decide +kernel
theorem dm_Re_top_25 : decode mm_Re_top.2.1 25 = .ok (.ireturn, 1) := by decide +kernel
theorem dm_Re_variable_0 : decode mm_Re_variable.2.1 0 = .ok (.aload_n 0, 1) := by decide +kernel
theorem dm_Re_variable_1 : decode mm_Re_variable.2.1 1 = .ok (.iload_n 1, 1) := by decide +kernel
theorem dm_Re_variable_2 : decode mm_Re_variable.2.1 2 = .ok (.invokevirtual 85, 3) := by decide +kernel
theorem dm_Re_variable_5 : decode mm_Re_variable.2.1 5 = .ok (.iconst 1, 1) := by decide +kernel
theorem dm_Re_variable_6 : decode mm_Re_variable.2.1 6 = .ok (.if_icmp .ne 29, 3) := by decide +kernel
theorem dm_Re_variable_9 : decode mm_Re_variable.2.1 9 = .ok (.aload_n 0, 1) := by decide +kernel
theorem dm_Re_variable_10 : decode mm_Re_variable.2.1 10 = .ok (.getfield 7, 3) := by decide +kernel
theorem dm_Re_variable_13 : decode mm_Re_variable.2.1 13 = .ok (.aload_n 0, 1) := by decide +kernel
theorem dm_Re_variable_14 : decode mm_Re_variable.2.1 14 = .ok (.getfield 79, 3) := by decide +kernel
theorem dm_Re_variable_17 : decode mm_Re_variable.2.1 17 = .ok (.iconst 1, 1) := by decide +kernel
theorem dm_Re_variable_18 : decode mm_Re_variable.2.1 18 = .ok (.isub, 1) := by decide +kernel
theorem dm_Re_variable_19 : decode mm_Re_variable.2.1 19 = .ok (.iload_n 1, 1) := by decide +kernel
theorem dm_Re_variable_20 : decode mm_Re_variable.2.1 20 = .ok (.isub, 1) := by decide +kernel
theorem dm_Re_variable_21 : decode mm_Re_variable.2.1 21 = .ok (.iconst 0, 1) := by decide +kernel
theorem dm_Re_variable_22 : decode mm_Re_variable.2.1 22 = .ok (.invokestatic 54, 3) := by decide +kernel
theorem dm_Re_variable_25 : decode mm_Re_variable.2.1 25 = .ok (.iaload, 1) := by decide +kernel
theorem dm_Re_variable_26 : decode mm_Re_variable.2.1 26 = .ok (.bipush 10, 2) := by decide +kernel
theorem dm_Re_variable_28 : decode mm_Re_variable.2.1 28 = .ok (.if_icmp .ne 7, 3) := by decide +kernel
theorem dm_Re_variable_31 : decode mm_Re_variable.2.1 31 = .ok (.iconst 1, 1) := by decide +kernel
theorem dm_Re_variable_32 : decode mm_Re_variable.2.1 32 = .ok (.goto 4, 3) := by decide +kernel
theorem dm_Re_variable_35 : decode mm_Re_variable.2.1 35 = .ok (.iconst 0, 1) := by decide +kernel
theorem dm_Re_variable_36 : decode mm_Re_variable.2.1 36 = .ok (.ireturn, 1) := by decide +kernel
theorem dm_Re_rowOf_0 : decode mm_Re_rowOf.2.1 0 = .ok (.aload_n 0, 1) := by decide +kernel
theorem dm_Re_rowOf_1 : decode mm_Re_rowOf.2.1 1 = .ok (.getfield 79, 3) := by decide +kernel
theorem dm_Re_rowOf_4 : decode mm_Re_rowOf.2.1 4 = .ok (.iconst 1, 1) := by decide +kernel
theorem dm_Re_rowOf_5 : decode mm_Re_rowOf.2.1 5 = .ok (.isub, 1) := by decide +kernel
theorem dm_Re_rowOf_6 : decode mm_Re_rowOf.2.1 6 = .ok (.iload_n 1, 1) := by decide +kernel
theorem dm_Re_rowOf_7 : decode mm_Re_rowOf.2.1 7 = .ok (.isub, 1) := by decide +kernel
theorem dm_Re_rowOf_8 : decode mm_Re_rowOf.2.1 8 = .ok (.iconst 0, 1) := by decide +kernel
theorem dm_Re_rowOf_9 : decode mm_Re_rowOf.2.1 9 = .ok (.invokestatic 54, 3) := by decide +kernel
theorem dm_Re_rowOf_12 : decode mm_Re_rowOf.2.1 12 = .ok (.ireturn, 1) := by decide +kernel
theorem dm_Re_rowEnd_0 : decode mm_Re_rowEnd.2.1 0 = .ok (.aload_n 0, 1) := by decide +kernel
theorem dm_Re_rowEnd_1 : decode mm_Re_rowEnd.2.1 1 = .ok (.getfield 79, 3) := by decide +kernel
theorem dm_Re_rowEnd_4 : decode mm_Re_rowEnd.2.1 4 = .ok (.iconst 1, 1) := by decide +kernel
theorem dm_Re_rowEnd_5 : decode mm_Re_rowEnd.2.1 5 = .ok (.isub, 1) := by decide +kernel
theorem dm_Re_rowEnd_6 : decode mm_Re_rowEnd.2.1 6 = .ok (.iload_n 1, 1) := by decide +kernel
theorem dm_Re_rowEnd_7 : decode mm_Re_rowEnd.2.1 7 = .ok (.isub, 1) := by decide +kernel
theorem dm_Re_rowEnd_8 : decode mm_Re_rowEnd.2.1 8 = .ok (.iconst 0, 1) := by decide +kernel
theorem dm_Re_rowEnd_9 : decode mm_Re_rowEnd.2.1 9 = .ok (.invokestatic 54, 3) := by decide +kernel
theorem dm_Re_rowEnd_12 : decode mm_Re_rowEnd.2.1 12 = .ok (.aload_n 0, 1) := by decide +kernel
theorem dm_Re_rowEnd_13 : decode mm_Re_rowEnd.2.1 13 = .ok (.getfield 13, 3) := by decide +kernel
theorem dm_Re_rowEnd_16 : decode mm_Re_rowEnd.2.1 16 = .ok (.iconst 4, 1) := by decide +kernel
theorem dm_Re_rowEnd_17 : decode mm_Re_rowEnd.2.1 17 = .ok (.aload_n 0, 1) := by decide +kernel
theorem dm_Re_rowEnd_18 : decode mm_Re_rowEnd.2.1 18 = .ok (.getfield 79, 3) := by decide +kernel
theorem dm_Re_rowEnd_21 : decode mm_Re_rowEnd.2.1 21 = .ok (.iconst 1, 1) := by decide +kernel
theorem dm_Re_rowEnd_22 : decode mm_Re_rowEnd.2.1 22 = .ok (.isub, 1) := by decide +kernel
theorem dm_Re_rowEnd_23 : decode mm_Re_rowEnd.2.1 23 = .ok (.iload_n 1, 1) := by decide +kernel
theorem dm_Re_rowEnd_24 : decode mm_Re_rowEnd.2.1 24 = .ok (.isub, 1) := by decide +kernel
theorem dm_Re_rowEnd_25 : decode mm_Re_rowEnd.2.1 25 = .ok (.imul, 1) := by decide +kernel
theorem dm_Re_rowEnd_26 : decode mm_Re_rowEnd.2.1 26 = .ok (.iaload, 1) := by decide +kernel
theorem dm_Re_rowEnd_27 : decode mm_Re_rowEnd.2.1 27 = .ok (.iadd, 1) := by decide +kernel
theorem dm_Re_rowEnd_28 : decode mm_Re_rowEnd.2.1 28 = .ok (.ireturn, 1) := by decide +kernel
theorem dm_Re_type_0 : decode mm_Re_type.2.1 0 = .ok (.iload_n 1, 1) := by decide +kernel
theorem dm_Re_type_1 : decode mm_Re_type.2.1 1 = .ok (.iconst (-1), 1) := by decide +kernel
theorem dm_Re_type_2 : decode mm_Re_type.2.1 2 = .ok (.if_icmp .lt 8, 3) := by decide +kernel
theorem dm_Re_type_5 : decode mm_Re_type.2.1 5 = .ok (.iload_n 1, 1) := by decide +kernel
theorem dm_Re_type_6 : decode mm_Re_type.2.1 6 = .ok (.iconst 4, 1) := by decide +kernel
theorem dm_Re_type_7 : decode mm_Re_type.2.1 7 = .ok (.if_icmp .le 5, 3) := by decide +kernel
theorem dm_Re_type_10 : decode mm_Re_type.2.1 10 = .ok (.iconst 2, 1) := by decide +kernel
theorem dm_Re_type_11 : decode mm_Re_type.2.1 11 = .ok (.ireturn, 1) := by decide +kernel
theorem dm_Re_type_12 : decode mm_Re_type.2.1 12 = .ok (.iload_n 1, 1) := by decide +kernel
theorem dm_Re_type_13 : decode mm_Re_type.2.1 13 = .ok (.iconst 4, 1) := by decide +kernel
theorem dm_Re_type_14 : decode mm_Re_type.2.1 14 = .ok (.if_icmp .ne 21, 3) := by decide +kernel
theorem dm_Re_type_17 : decode mm_Re_type.2.1 17 = .ok (.aload_n 0, 1) := by decide +kernel
theorem dm_Re_type_18 : decode mm_Re_type.2.1 18 = .ok (.iconst 0, 1) := by decide +kernel
theorem dm_Re_type_19 : decode mm_Re_type.2.1 19 = .ok (.invokevirtual 85, 3) := by decide +kernel
theorem dm_Re_type_22 : decode mm_Re_type.2.1 22 = .ok (.ifCond .ne 11, 3) := by decide +kernel
theorem dm_Re_type_25 : decode mm_Re_type.2.1 25 = .ok (.aload_n 0, 1) := by decide +kernel
theorem dm_Re_type_26 : decode mm_Re_type.2.1 26 = .ok (.iconst 1, 1) := by decide +kernel
theorem dm_Re_type_27 : decode mm_Re_type.2.1 27 = .ok (.invokevirtual 85, 3) := by decide +kernel
theorem dm_Re_type_30 : decode mm_Re_type.2.1 30 = .ok (.ifCond .eq 5, 3) := by decide +kernel
theorem dm_Re_type_33 : decode mm_Re_type.2.1 33 = .ok (.iconst 1, 1) := by decide +kernel
theorem dm_Re_type_34 : decode mm_Re_type.2.1 34 = .ok (.ireturn, 1) := by decide +kernel
theorem dm_Re_type_35 : decode mm_Re_type.2.1 35 = .ok (.aload_n 0, 1) := by decide +kernel
theorem dm_Re_type_36 : decode mm_Re_type.2.1 36 = .ok (.invokevirtual 88, 3) := by decide +kernel
theorem dm_Re_type_39 : decode mm_Re_type.2.1 39 = .ok (.aload_n 0, 1) := by decide +kernel
theorem dm_Re_type_40 : decode mm_Re_type.2.1 40 = .ok (.getfield 16, 3) := by decide +kernel
theorem dm_Re_type_43 : decode mm_Re_type.2.1 43 = .ok (.bipush 28, 2) := by decide +kernel
theorem dm_Re_type_45 : decode mm_Re_type.2.1 45 = .ok (.iconst 0, 1) := by decide +kernel
theorem dm_Re_type_46 : decode mm_Re_type.2.1 46 = .ok (.iastore, 1) := by decide +kernel
theorem dm_Re_type_47 : decode mm_Re_type.2.1 47 = .ok (.iload_n 1, 1) := by decide +kernel
theorem dm_Re_type_48 : decode mm_Re_type.2.1 48 = .ok (.iconst 4, 1) := by decide +kernel
theorem dm_Re_type_49 : decode mm_Re_type.2.1 49 = .ok (.if_icmp .ge 35, 3) := by decide +kernel
theorem dm_Re_type_52 : decode mm_Re_type.2.1 52 = .ok (.aload_n 0, 1) := by decide +kernel
theorem dm_Re_type_53 : decode mm_Re_type.2.1 53 = .ok (.getfield 79, 3) := by decide +kernel
theorem dm_Re_type_56 : decode mm_Re_type.2.1 56 = .ok (.bipush 12, 2) := by decide +kernel
theorem dm_Re_type_58 : decode mm_Re_type.2.1 58 = .ok (.if_icmp .ne 5, 3) := by decide +kernel
theorem dm_Re_type_61 : decode mm_Re_type.2.1 61 = .ok (.iconst 4, 1) := by decide +kernel
theorem dm_Re_type_62 : decode mm_Re_type.2.1 62 = .ok (.ireturn, 1) := by decide +kernel
theorem dm_Re_type_63 : decode mm_Re_type.2.1 63 = .ok (.aload_n 0, 1) := by decide +kernel
theorem dm_Re_type_64 : decode mm_Re_type.2.1 64 = .ok (.iload_n 1, 1) := by decide +kernel
theorem dm_Re_type_65 : decode mm_Re_type.2.1 65 = .ok (.iconst 2, 1) := by decide +kernel
theorem dm_Re_type_66 : decode mm_Re_type.2.1 66 = .ok (.iadd, 1) := by decide +kernel
theorem dm_Re_type_67 : decode mm_Re_type.2.1 67 = .ok (.invokevirtual 32, 3) := by decide +kernel
theorem dm_Re_type_70 : decode mm_Re_type.2.1 70 = .ok (.aload_n 0, 1) := by decide +kernel
theorem dm_Re_type_71 : decode mm_Re_type.2.1 71 = .ok (.iconst 0, 1) := by decide +kernel
theorem dm_Re_type_72 : decode mm_Re_type.2.1 72 = .ok (.sipush 5200, 3) := by decide +kernel
theorem dm_Re_type_75 : decode mm_Re_type.2.1 75 = .ok (.invokevirtual 66, 3) := by decide +kernel
theorem dm_Re_type_78 : decode mm_Re_type.2.1 78 = .ok (.aload_n 0, 1) := by decide +kernel
theorem dm_Re_type_79 : decode mm_Re_type.2.1 79 = .ok (.iconst 0, 1) := by decide +kernel
theorem dm_Re_type_80 : decode mm_Re_type.2.1 80 = .ok (.invokevirtual 91, 3) := by decide +kernel
theorem dm_Re_type_83 : decode mm_Re_type.2.1 83 = .ok (.ireturn, 1) := by decide +kernel
theorem dm_Re_type_84 : decode mm_Re_type.2.1 84 = .ok (.aload_n 0, 1) := by decide +kernel
theorem dm_Re_type_85 : decode mm_Re_type.2.1 85 = .ok (.iconst 0, 1) := by decide +kernel
theorem dm_Re_type_86 : decode mm_Re_type.2.1 86 = .ok (.invokevirtual 32, 3) := by decide +kernel
theorem dm_Re_type_89 : decode mm_Re_type.2.1 89 = .ok (.aload_n 0, 1) := by decide +kernel
theorem dm_Re_type_90 : decode mm_Re_type.2.1 90 = .ok (.aload_n 0, 1) := by decide +kernel
theorem dm_Re_type_91 : decode mm_Re_type.2.1 91 = .ok (.iconst 1, 1) := by decide +kernel
theorem dm_Re_type_92 : decode mm_Re_type.2.1 92 = .ok (.invokevirtual 94, 3) := by decide +kernel
theorem dm_Re_type_95 : decode mm_Re_type.2.1 95 = .ok (.aload_n 0, 1) := by decide +kernel
theorem dm_Re_type_96 : decode mm_Re_type.2.1 96 = .ok (.iconst 1, 1) := by decide +kernel
theorem dm_Re_type_97 : decode mm_Re_type.2.1 97 = .ok (.invokevirtual 97, 3) := by decide +kernel
theorem dm_Re_type_100 : decode mm_Re_type.2.1 100 = .ok (.invokevirtual 43, 3) := by decide +kernel
theorem dm_Re_type_103 : decode mm_Re_type.2.1 103 = .ok (.aload_n 0, 1) := by decide +kernel
theorem dm_Re_type_104 : decode mm_Re_type.2.1 104 = .ok (.aload_n 0, 1) := by decide +kernel
theorem dm_Re_type_105 : decode mm_Re_type.2.1 105 = .ok (.iconst 0, 1) := by decide +kernel
theorem dm_Re_type_106 : decode mm_Re_type.2.1 106 = .ok (.invokevirtual 94, 3) := by decide +kernel
theorem dm_Re_type_109 : decode mm_Re_type.2.1 109 = .ok (.aload_n 0, 1) := by decide +kernel
theorem dm_Re_type_110 : decode mm_Re_type.2.1 110 = .ok (.iconst 0, 1) := by decide +kernel
theorem dm_Re_type_111 : decode mm_Re_type.2.1 111 = .ok (.invokevirtual 97, 3) := by decide +kernel
theorem dm_Re_type_114 : decode mm_Re_type.2.1 114 = .ok (.invokevirtual 43, 3) := by decide +kernel
theorem dm_Re_type_117 : decode mm_Re_type.2.1 117 = .ok (.aload_n 0, 1) := by decide +kernel
theorem dm_Re_type_118 : decode mm_Re_type.2.1 118 = .ok (.getfield 28, 3) := by decide +kernel
theorem dm_Re_type_121 : decode mm_Re_type.2.1 121 = .ok (.sipush 5200, 3) := by decide +kernel
theorem dm_Re_type_124 : decode mm_Re_type.2.1 124 = .ok (.isub, 1) := by decide +kernel
theorem dm_Re_type_125 : decode mm_Re_type.2.1 125 = .ok (.bipush 15, 2) := by decide +kernel
theorem dm_Re_type_127 : decode mm_Re_type.2.1 127 = .ok (.if_icmp .le 5, 3) := by decide +kernel
theorem dm_Re_type_130 : decode mm_Re_type.2.1 130 = .ok (.iconst 4, 1) := by decide +kernel
theorem dm_Re_type_131 : decode mm_Re_type.2.1 131 = .ok (.ireturn, 1) := by decide +kernel
theorem dm_Re_type_132 : decode mm_Re_type.2.1 132 = .ok (.aload_n 0, 1) := by decide +kernel
theorem dm_Re_type_133 : decode mm_Re_type.2.1 133 = .ok (.iconst 0, 1) := by decide +kernel
theorem dm_Re_type_134 : decode mm_Re_type.2.1 134 = .ok (.sipush 5200, 3) := by decide +kernel
theorem dm_Re_type_137 : decode mm_Re_type.2.1 137 = .ok (.invokevirtual 66, 3) := by decide +kernel
theorem dm_Re_type_140 : decode mm_Re_type.2.1 140 = .ok (.aload_n 0, 1) := by decide +kernel
theorem dm_Re_type_141 : decode mm_Re_type.2.1 141 = .ok (.iconst 2, 1) := by decide +kernel
theorem dm_Re_type_142 : decode mm_Re_type.2.1 142 = .ok (.invokevirtual 91, 3) := by decide +kernel
theorem dm_Re_type_145 : decode mm_Re_type.2.1 145 = .ok (.ireturn, 1) := by decide +kernel
theorem dm_Re_leaf_0 : decode mm_Re_leaf.2.1 0 = .ok (.aload_n 0, 1) := by decide +kernel
theorem dm_Re_leaf_1 : decode mm_Re_leaf.2.1 1 = .ok (.invokevirtual 88, 3) := by decide +kernel
theorem dm_Re_leaf_4 : decode mm_Re_leaf.2.1 4 = .ok (.aload_n 0, 1) := by decide +kernel
theorem dm_Re_leaf_5 : decode mm_Re_leaf.2.1 5 = .ok (.getfield 16, 3) := by decide +kernel
theorem dm_Re_leaf_8 : decode mm_Re_leaf.2.1 8 = .ok (.bipush 28, 2) := by decide +kernel
theorem dm_Re_leaf_10 : decode mm_Re_leaf.2.1 10 = .ok (.iconst 1, 1) := by decide +kernel
theorem dm_Re_leaf_11 : decode mm_Re_leaf.2.1 11 = .ok (.iastore, 1) := by decide +kernel
theorem dm_Re_leaf_12 : decode mm_Re_leaf.2.1 12 = .ok (.aload_n 0, 1) := by decide +kernel
theorem dm_Re_leaf_13 : decode mm_Re_leaf.2.1 13 = .ok (.iload_n 1, 1) := by decide +kernel
theorem dm_Re_leaf_14 : decode mm_Re_leaf.2.1 14 = .ok (.invokevirtual 32, 3) := by decide +kernel
theorem dm_Re_leaf_17 : decode mm_Re_leaf.2.1 17 = .ok (.aload_n 0, 1) := by decide +kernel
theorem dm_Re_leaf_18 : decode mm_Re_leaf.2.1 18 = .ok (.iload_n 2, 1) := by decide +kernel
theorem dm_Re_leaf_19 : decode mm_Re_leaf.2.1 19 = .ok (.invokevirtual 32, 3) := by decide +kernel
theorem dm_Re_leaf_22 : decode mm_Re_leaf.2.1 22 = .ok (.aload_n 0, 1) := by decide +kernel
theorem dm_Re_leaf_23 : decode mm_Re_leaf.2.1 23 = .ok (.aload_n 0, 1) := by decide +kernel
theorem dm_Re_leaf_24 : decode mm_Re_leaf.2.1 24 = .ok (.iconst 0, 1) := by decide +kernel
theorem dm_Re_leaf_25 : decode mm_Re_leaf.2.1 25 = .ok (.invokevirtual 94, 3) := by decide +kernel
theorem dm_Re_leaf_28 : decode mm_Re_leaf.2.1 28 = .ok (.aload_n 0, 1) := by decide +kernel
theorem dm_Re_leaf_29 : decode mm_Re_leaf.2.1 29 = .ok (.iconst 0, 1) := by decide +kernel
theorem dm_Re_leaf_30 : decode mm_Re_leaf.2.1 30 = .ok (.invokevirtual 97, 3) := by decide +kernel
theorem dm_Re_leaf_33 : decode mm_Re_leaf.2.1 33 = .ok (.invokevirtual 43, 3) := by decide +kernel
theorem dm_Re_leaf_36 : decode mm_Re_leaf.2.1 36 = .ok (.aload_n 0, 1) := by decide +kernel
theorem dm_Re_leaf_37 : decode mm_Re_leaf.2.1 37 = .ok (.iconst 0, 1) := by decide +kernel
theorem dm_Re_leaf_38 : decode mm_Re_leaf.2.1 38 = .ok (.sipush 5200, 3) := by decide +kernel
theorem dm_Re_leaf_41 : decode mm_Re_leaf.2.1 41 = .ok (.invokevirtual 66, 3) := by decide +kernel
theorem dm_Re_leaf_44 : decode mm_Re_leaf.2.1 44 = .ok (.aload_n 0, 1) := by decide +kernel
theorem dm_Re_leaf_45 : decode mm_Re_leaf.2.1 45 = .ok (.iconst 1, 1) := by decide +kernel
theorem dm_Re_leaf_46 : decode mm_Re_leaf.2.1 46 = .ok (.invokevirtual 91, 3) := by decide +kernel
theorem dm_Re_leaf_49 : decode mm_Re_leaf.2.1 49 = .ok (.ireturn, 1) := by decide +kernel
theorem dm_Re_var_0 : decode mm_Re_var.2.1 0 = .ok (.aload_n 0, 1) := by decide +kernel
theorem dm_Re_var_1 : decode mm_Re_var.2.1 1 = .ok (.iconst 0, 1) := by decide +kernel
theorem dm_Re_var_2 : decode mm_Re_var.2.1 2 = .ok (.invokevirtual 85, 3) := by decide +kernel
theorem dm_Re_var_5 : decode mm_Re_var.2.1 5 = .ok (.ifCond .eq 5, 3) := by decide +kernel
theorem dm_Re_var_8 : decode mm_Re_var.2.1 8 = .ok (.iconst 1, 1) := by decide +kernel
theorem dm_Re_var_9 : decode mm_Re_var.2.1 9 = .ok (.ireturn, 1) := by decide +kernel
theorem dm_Re_var_10 : decode mm_Re_var.2.1 10 = .ok (.iload_n 1, 1) := by decide +kernel
theorem dm_Re_var_11 : decode mm_Re_var.2.1 11 = .ok (.ifCond .lt 9, 3) := by decide +kernel
theorem dm_Re_var_14 : decode mm_Re_var.2.1 14 = .ok (.iload_n 1, 1) := by decide +kernel
theorem dm_Re_var_15 : decode mm_Re_var.2.1 15 = .ok (.bipush 7, 2) := by decide +kernel
theorem dm_Re_var_17 : decode mm_Re_var.2.1 17 = .ok (.if_icmp .le 7, 3) := by decide +kernel
theorem dm_Re_var_20 : decode mm_Re_var.2.1 20 = .ok (.iconst 2, 1) := by decide +kernel
theorem dm_Re_var_21 : decode mm_Re_var.2.1 21 = .ok (.goto 10, 3) := by decide +kernel
theorem dm_Re_var_24 : decode mm_Re_var.2.1 24 = .ok (.aload_n 0, 1) := by decide +kernel
theorem dm_Re_var_25 : decode mm_Re_var.2.1 25 = .ok (.bipush 10, 2) := by decide +kernel
theorem dm_Re_var_27 : decode mm_Re_var.2.1 27 = .ok (.iload_n 1, 1) := by decide +kernel
theorem dm_Re_var_28 : decode mm_Re_var.2.1 28 = .ok (.invokevirtual 100, 3) := by decide +kernel
theorem dm_Re_var_31 : decode mm_Re_var.2.1 31 = .ok (.ireturn, 1) := by decide +kernel
theorem dm_Re_constant_0 : decode mm_Re_constant.2.1 0 = .ok (.iload_n 1, 1) := by decide +kernel
theorem dm_Re_constant_1 : decode mm_Re_constant.2.1 1 = .ok (.ifCond .ne 23, 3) := by decide +kernel
theorem dm_Re_constant_4 : decode mm_Re_constant.2.1 4 = .ok (.aload_n 0, 1) := by decide +kernel
theorem dm_Re_constant_5 : decode mm_Re_constant.2.1 5 = .ok (.iconst 0, 1) := by decide +kernel
theorem dm_Re_constant_6 : decode mm_Re_constant.2.1 6 = .ok (.invokevirtual 85, 3) := by decide +kernel
theorem dm_Re_constant_9 : decode mm_Re_constant.2.1 9 = .ok (.ifCond .eq 7, 3) := by decide +kernel
theorem dm_Re_constant_12 : decode mm_Re_constant.2.1 12 = .ok (.iconst 1, 1) := by decide +kernel
theorem dm_Re_constant_13 : decode mm_Re_constant.2.1 13 = .ok (.goto 10, 3) := by decide +kernel
theorem dm_Re_constant_16 : decode mm_Re_constant.2.1 16 = .ok (.aload_n 0, 1) := by decide +kernel
theorem dm_Re_constant_17 : decode mm_Re_constant.2.1 17 = .ok (.bipush 11, 2) := by decide +kernel
theorem dm_Re_constant_19 : decode mm_Re_constant.2.1 19 = .ok (.iconst 0, 1) := by decide +kernel
theorem dm_Re_constant_20 : decode mm_Re_constant.2.1 20 = .ok (.invokevirtual 100, 3) := by decide +kernel
theorem dm_Re_constant_23 : decode mm_Re_constant.2.1 23 = .ok (.ireturn, 1) := by decide +kernel
theorem dm_Re_constant_24 : decode mm_Re_constant.2.1 24 = .ok (.iload_n 1, 1) := by decide +kernel
theorem dm_Re_constant_25 : decode mm_Re_constant.2.1 25 = .ok (.ifCond .lt 11, 3) := by decide +kernel
theorem dm_Re_constant_28 : decode mm_Re_constant.2.1 28 = .ok (.iload_n 1, 1) := by decide +kernel
theorem dm_Re_constant_29 : decode mm_Re_constant.2.1 29 = .ok (.aload_n 0, 1) := by decide +kernel
theorem dm_Re_constant_30 : decode mm_Re_constant.2.1 30 = .ok (.getfield 103, 3) := by decide +kernel
theorem dm_Re_constant_33 : decode mm_Re_constant.2.1 33 = .ok (.if_icmp .le 5, 3) := by decide +kernel
theorem dm_Re_constant_36 : decode mm_Re_constant.2.1 36 = .ok (.iconst 2, 1) := by decide +kernel
theorem dm_Re_constant_37 : decode mm_Re_constant.2.1 37 = .ok (.ireturn, 1) := by decide +kernel
theorem dm_Re_constant_38 : decode mm_Re_constant.2.1 38 = .ok (.aload_n 0, 1) := by decide +kernel
theorem dm_Re_constant_39 : decode mm_Re_constant.2.1 39 = .ok (.getfield 79, 3) := by decide +kernel
theorem dm_Re_constant_42 : decode mm_Re_constant.2.1 42 = .ok (.bipush 12, 2) := by decide +kernel
theorem dm_Re_constant_44 : decode mm_Re_constant.2.1 44 = .ok (.if_icmp .ne 5, 3) := by decide +kernel
theorem dm_Re_constant_47 : decode mm_Re_constant.2.1 47 = .ok (.iconst 4, 1) := by decide +kernel
theorem dm_Re_constant_48 : decode mm_Re_constant.2.1 48 = .ok (.ireturn, 1) := by decide +kernel
theorem dm_Re_constant_49 : decode mm_Re_constant.2.1 49 = .ok (.aload_n 0, 1) := by decide +kernel
theorem dm_Re_constant_50 : decode mm_Re_constant.2.1 50 = .ok (.invokevirtual 88, 3) := by decide +kernel
theorem dm_Re_constant_53 : decode mm_Re_constant.2.1 53 = .ok (.aload_n 0, 1) := by decide +kernel
theorem dm_Re_constant_54 : decode mm_Re_constant.2.1 54 = .ok (.getfield 16, 3) := by decide +kernel
theorem dm_Re_constant_57 : decode mm_Re_constant.2.1 57 = .ok (.bipush 28, 2) := by decide +kernel
theorem dm_Re_constant_59 : decode mm_Re_constant.2.1 59 = .ok (.iconst 1, 1) := by decide +kernel
theorem dm_Re_constant_60 : decode mm_Re_constant.2.1 60 = .ok (.iastore, 1) := by decide +kernel
theorem dm_Re_constant_61 : decode mm_Re_constant.2.1 61 = .ok (.aload_n 0, 1) := by decide +kernel
theorem dm_Re_constant_62 : decode mm_Re_constant.2.1 62 = .ok (.bipush 11, 2) := by decide +kernel
theorem dm_Re_constant_64 : decode mm_Re_constant.2.1 64 = .ok (.invokevirtual 32, 3) := by decide +kernel
theorem dm_Re_constant_67 : decode mm_Re_constant.2.1 67 = .ok (.aload_n 0, 1) := by decide +kernel
theorem dm_Re_constant_68 : decode mm_Re_constant.2.1 68 = .ok (.iload_n 1, 1) := by decide +kernel
theorem dm_Re_constant_69 : decode mm_Re_constant.2.1 69 = .ok (.invokevirtual 32, 3) := by decide +kernel
theorem dm_Re_constant_72 : decode mm_Re_constant.2.1 72 = .ok (.aload_n 0, 1) := by decide +kernel
theorem dm_Re_constant_73 : decode mm_Re_constant.2.1 73 = .ok (.sipush 4800, 3) := by decide +kernel
theorem dm_Re_constant_76 : decode mm_Re_constant.2.1 76 = .ok (.bipush 40, 2) := by decide +kernel
theorem dm_Re_constant_78 : decode mm_Re_constant.2.1 78 = .ok (.iload_n 1, 1) := by decide +kernel
theorem dm_Re_constant_79 : decode mm_Re_constant.2.1 79 = .ok (.imul, 1) := by decide +kernel
theorem dm_Re_constant_80 : decode mm_Re_constant.2.1 80 = .ok (.iadd, 1) := by decide +kernel
theorem dm_Re_constant_81 : decode mm_Re_constant.2.1 81 = .ok (.sipush 4800, 3) := by decide +kernel
theorem dm_Re_constant_84 : decode mm_Re_constant.2.1 84 = .ok (.bipush 40, 2) := by decide +kernel
theorem dm_Re_constant_86 : decode mm_Re_constant.2.1 86 = .ok (.iload_n 1, 1) := by decide +kernel
theorem dm_Re_constant_87 : decode mm_Re_constant.2.1 87 = .ok (.imul, 1) := by decide +kernel
theorem dm_Re_constant_88 : decode mm_Re_constant.2.1 88 = .ok (.iadd, 1) := by decide +kernel
theorem dm_Re_constant_89 : decode mm_Re_constant.2.1 89 = .ok (.aload_n 0, 1) := by decide +kernel
theorem dm_Re_constant_90 : decode mm_Re_constant.2.1 90 = .ok (.getfield 22, 3) := by decide +kernel
theorem dm_Re_constant_93 : decode mm_Re_constant.2.1 93 = .ok (.iload_n 1, 1) := by decide +kernel
theorem dm_Re_constant_94 : decode mm_Re_constant.2.1 94 = .ok (.iaload, 1) := by decide +kernel
theorem dm_Re_constant_95 : decode mm_Re_constant.2.1 95 = .ok (.iadd, 1) := by decide +kernel
theorem dm_Re_constant_96 : decode mm_Re_constant.2.1 96 = .ok (.invokevirtual 43, 3) := by decide +kernel
theorem dm_Re_constant_99 : decode mm_Re_constant.2.1 99 = .ok (.aload_n 0, 1) := by decide +kernel
theorem dm_Re_constant_100 : decode mm_Re_constant.2.1 100 = .ok (.iconst 0, 1) := by decide +kernel
theorem dm_Re_constant_101 : decode mm_Re_constant.2.1 101 = .ok (.sipush 5200, 3) := by decide +kernel
theorem dm_Re_constant_104 : decode mm_Re_constant.2.1 104 = .ok (.invokevirtual 66, 3) := by decide +kernel
theorem dm_Re_constant_107 : decode mm_Re_constant.2.1 107 = .ok (.aload_n 0, 1) := by decide +kernel
theorem dm_Re_constant_108 : decode mm_Re_constant.2.1 108 = .ok (.iconst 0, 1) := by decide +kernel
theorem dm_Re_constant_109 : decode mm_Re_constant.2.1 109 = .ok (.invokevirtual 91, 3) := by decide +kernel
theorem dm_Re_constant_112 : decode mm_Re_constant.2.1 112 = .ok (.ireturn, 1) := by decide +kernel
theorem dm_Re_fits_0 : decode mm_Re_fits.2.1 0 = .ok (.aload_n 0, 1) := by decide +kernel
theorem dm_Re_fits_1 : decode mm_Re_fits.2.1 1 = .ok (.iload_n 1, 1) := by decide +kernel
theorem dm_Re_fits_2 : decode mm_Re_fits.2.1 2 = .ok (.invokevirtual 106, 3) := by decide +kernel
theorem dm_Re_fits_5 : decode mm_Re_fits.2.1 5 = .ok (.istore_n 3, 1) := by decide +kernel
theorem dm_Re_fits_6 : decode mm_Re_fits.2.1 6 = .ok (.aload_n 0, 1) := by decide +kernel
theorem dm_Re_fits_7 : decode mm_Re_fits.2.1 7 = .ok (.getfield 28, 3) := by decide +kernel
theorem dm_Re_fits_10 : decode mm_Re_fits.2.1 10 = .ok (.istore 4, 2) := by decide +kernel
theorem dm_Re_fits_12 : decode mm_Re_fits.2.1 12 = .ok (.aload_n 0, 1) := by decide +kernel
theorem dm_Re_fits_13 : decode mm_Re_fits.2.1 13 = .ok (.iload_n 2, 1) := by decide +kernel
theorem dm_Re_fits_14 : decode mm_Re_fits.2.1 14 = .ok (.invokevirtual 106, 3) := by decide +kernel
theorem dm_Re_fits_17 : decode mm_Re_fits.2.1 17 = .ok (.istore 5, 2) := by decide +kernel
theorem dm_Re_fits_19 : decode mm_Re_fits.2.1 19 = .ok (.aload_n 0, 1) := by decide +kernel
theorem dm_Re_fits_20 : decode mm_Re_fits.2.1 20 = .ok (.getfield 28, 3) := by decide +kernel
theorem dm_Re_fits_23 : decode mm_Re_fits.2.1 23 = .ok (.istore 6, 2) := by decide +kernel
theorem dm_Re_fits_25 : decode mm_Re_fits.2.1 25 = .ok (.aload_n 0, 1) := by decide +kernel
theorem dm_Re_fits_26 : decode mm_Re_fits.2.1 26 = .ok (.getfield 7, 3) := by decide +kernel
theorem dm_Re_fits_29 : decode mm_Re_fits.2.1 29 = .ok (.iload_n 3, 1) := by decide +kernel
theorem dm_Re_fits_30 : decode mm_Re_fits.2.1 30 = .ok (.iaload, 1) := by decide +kernel
theorem dm_Re_fits_31 : decode mm_Re_fits.2.1 31 = .ok (.ifCond .eq 5, 3) := by decide +kernel
theorem dm_Re_fits_34 : decode mm_Re_fits.2.1 34 = .ok (.iconst 0, 1) := by decide +kernel
theorem dm_Re_fits_35 : decode mm_Re_fits.2.1 35 = .ok (.ireturn, 1) := by decide +kernel
theorem dm_Re_fits_36 : decode mm_Re_fits.2.1 36 = .ok (.aload_n 0, 1) := by decide +kernel
theorem dm_Re_fits_37 : decode mm_Re_fits.2.1 37 = .ok (.iload_n 3, 1) := by decide +kernel
theorem dm_Re_fits_38 : decode mm_Re_fits.2.1 38 = .ok (.iconst 1, 1) := by decide +kernel
theorem dm_Re_fits_39 : decode mm_Re_fits.2.1 39 = .ok (.iadd, 1) := by decide +kernel
theorem dm_Re_fits_40 : decode mm_Re_fits.2.1 40 = .ok (.invokevirtual 36, 3) := by decide +kernel
theorem dm_Re_fits_43 : decode mm_Re_fits.2.1 43 = .ok (.istore 7, 2) := by decide +kernel
theorem dm_Re_fits_45 : decode mm_Re_fits.2.1 45 = .ok (.aload_n 0, 1) := by decide +kernel
theorem dm_Re_fits_46 : decode mm_Re_fits.2.1 46 = .ok (.iload_n 3, 1) := by decide +kernel
theorem dm_Re_fits_47 : decode mm_Re_fits.2.1 47 = .ok (.iconst 1, 1) := by decide +kernel
theorem dm_Re_fits_48 : decode mm_Re_fits.2.1 48 = .ok (.iadd, 1) := by decide +kernel
theorem dm_Re_fits_49 : decode mm_Re_fits.2.1 49 = .ok (.iload 7, 2) := by decide +kernel
theorem dm_Re_fits_51 : decode mm_Re_fits.2.1 51 = .ok (.iload 5, 2) := by decide +kernel
theorem dm_Re_fits_53 : decode mm_Re_fits.2.1 53 = .ok (.iload 6, 2) := by decide +kernel
theorem dm_Re_fits_55 : decode mm_Re_fits.2.1 55 = .ok (.invokevirtual 69, 3) := by decide +kernel
theorem dm_Re_fits_58 : decode mm_Re_fits.2.1 58 = .ok (.istore 8, 2) := by decide +kernel
theorem dm_Re_fits_60 : decode mm_Re_fits.2.1 60 = .ok (.aload_n 0, 1) := by decide +kernel
theorem dm_Re_fits_61 : decode mm_Re_fits.2.1 61 = .ok (.iload 7, 2) := by decide +kernel
theorem dm_Re_fits_63 : decode mm_Re_fits.2.1 63 = .ok (.putfield 109, 3) := by decide +kernel
theorem dm_Re_fits_66 : decode mm_Re_fits.2.1 66 = .ok (.aload_n 0, 1) := by decide +kernel
theorem dm_Re_fits_67 : decode mm_Re_fits.2.1 67 = .ok (.iload 4, 2) := by decide +kernel
theorem dm_Re_fits_69 : decode mm_Re_fits.2.1 69 = .ok (.putfield 112, 3) := by decide +kernel
theorem dm_Re_fits_72 : decode mm_Re_fits.2.1 72 = .ok (.iload 8, 2) := by decide +kernel
theorem dm_Re_fits_74 : decode mm_Re_fits.2.1 74 = .ok (.ireturn, 1) := by decide +kernel
theorem dm_Re_app_0 : decode mm_Re_app.2.1 0 = .ok (.aload_n 0, 1) := by decide +kernel
theorem dm_Re_app_1 : decode mm_Re_app.2.1 1 = .ok (.iconst 0, 1) := by decide +kernel
theorem dm_Re_app_2 : decode mm_Re_app.2.1 2 = .ok (.invokevirtual 85, 3) := by decide +kernel
theorem dm_Re_app_5 : decode mm_Re_app.2.1 5 = .ok (.iconst 1, 1) := by decide +kernel
theorem dm_Re_app_6 : decode mm_Re_app.2.1 6 = .ok (.if_icmp .ne 12, 3) := by decide +kernel
theorem dm_Re_app_9 : decode mm_Re_app.2.1 9 = .ok (.aload_n 0, 1) := by decide +kernel
theorem dm_Re_app_10 : decode mm_Re_app.2.1 10 = .ok (.iconst 1, 1) := by decide +kernel
theorem dm_Re_app_11 : decode mm_Re_app.2.1 11 = .ok (.invokevirtual 85, 3) := by decide +kernel
theorem dm_Re_app_14 : decode mm_Re_app.2.1 14 = .ok (.iconst 1, 1) := by decide +kernel
theorem dm_Re_app_15 : decode mm_Re_app.2.1 15 = .ok (.if_icmp .eq 5, 3) := by decide +kernel
theorem dm_Re_app_18 : decode mm_Re_app.2.1 18 = .ok (.iconst 1, 1) := by decide +kernel
theorem dm_Re_app_19 : decode mm_Re_app.2.1 19 = .ok (.ireturn, 1) := by decide +kernel
theorem dm_Re_app_20 : decode mm_Re_app.2.1 20 = .ok (.aload_n 0, 1) := by decide +kernel
theorem dm_Re_app_21 : decode mm_Re_app.2.1 21 = .ok (.invokevirtual 88, 3) := by decide +kernel
theorem dm_Re_app_24 : decode mm_Re_app.2.1 24 = .ok (.aload_n 0, 1) := by decide +kernel
theorem dm_Re_app_25 : decode mm_Re_app.2.1 25 = .ok (.getfield 16, 3) := by decide +kernel
theorem dm_Re_app_28 : decode mm_Re_app.2.1 28 = .ok (.bipush 28, 2) := by decide +kernel
theorem dm_Re_app_30 : decode mm_Re_app.2.1 30 = .ok (.iconst 1, 1) := by decide +kernel
theorem dm_Re_app_31 : decode mm_Re_app.2.1 31 = .ok (.iastore, 1) := by decide +kernel
theorem dm_Re_app_32 : decode mm_Re_app.2.1 32 = .ok (.aload_n 0, 1) := by decide +kernel
theorem dm_Re_app_33 : decode mm_Re_app.2.1 33 = .ok (.aload_n 0, 1) := by decide +kernel
theorem dm_Re_app_34 : decode mm_Re_app.2.1 34 = .ok (.iconst 1, 1) := by decide +kernel
theorem dm_Re_app_35 : decode mm_Re_app.2.1 35 = .ok (.invokevirtual 94, 3) := by decide +kernel
theorem dm_Re_app_38 : decode mm_Re_app.2.1 38 = .ok (.aload_n 0, 1) := by decide +kernel
theorem dm_Re_app_39 : decode mm_Re_app.2.1 39 = .ok (.iconst 0, 1) := by decide +kernel
theorem dm_Re_app_40 : decode mm_Re_app.2.1 40 = .ok (.invokevirtual 94, 3) := by decide +kernel
theorem dm_Re_app_43 : decode mm_Re_app.2.1 43 = .ok (.invokevirtual 115, 3) := by decide +kernel
theorem dm_Re_app_46 : decode mm_Re_app.2.1 46 = .ok (.ifCond .ne 5, 3) := by decide +kernel
theorem dm_Re_app_49 : decode mm_Re_app.2.1 49 = .ok (.iconst 2, 1) := by decide +kernel
theorem dm_Re_app_50 : decode mm_Re_app.2.1 50 = .ok (.ireturn, 1) := by decide +kernel
theorem dm_Re_app_51 : decode mm_Re_app.2.1 51 = .ok (.aload_n 0, 1) := by decide +kernel
theorem dm_Re_app_52 : decode mm_Re_app.2.1 52 = .ok (.getfield 28, 3) := by decide +kernel
theorem dm_Re_app_55 : decode mm_Re_app.2.1 55 = .ok (.istore_n 1, 1) := by decide +kernel
theorem dm_Re_app_56 : decode mm_Re_app.2.1 56 = .ok (.aload_n 0, 1) := by decide +kernel
theorem dm_Re_app_57 : decode mm_Re_app.2.1 57 = .ok (.bipush 12, 2) := by decide +kernel
theorem dm_Re_app_59 : decode mm_Re_app.2.1 59 = .ok (.invokevirtual 32, 3) := by decide +kernel
theorem dm_Re_app_62 : decode mm_Re_app.2.1 62 = .ok (.aload_n 0, 1) := by decide +kernel
theorem dm_Re_app_63 : decode mm_Re_app.2.1 63 = .ok (.aload_n 0, 1) := by decide +kernel
theorem dm_Re_app_64 : decode mm_Re_app.2.1 64 = .ok (.iconst 1, 1) := by decide +kernel
theorem dm_Re_app_65 : decode mm_Re_app.2.1 65 = .ok (.invokevirtual 94, 3) := by decide +kernel
theorem dm_Re_app_68 : decode mm_Re_app.2.1 68 = .ok (.aload_n 0, 1) := by decide +kernel
theorem dm_Re_app_69 : decode mm_Re_app.2.1 69 = .ok (.iconst 1, 1) := by decide +kernel
theorem dm_Re_app_70 : decode mm_Re_app.2.1 70 = .ok (.invokevirtual 97, 3) := by decide +kernel
theorem dm_Re_app_73 : decode mm_Re_app.2.1 73 = .ok (.invokevirtual 43, 3) := by decide +kernel
theorem dm_Re_app_76 : decode mm_Re_app.2.1 76 = .ok (.aload_n 0, 1) := by decide +kernel
theorem dm_Re_app_77 : decode mm_Re_app.2.1 77 = .ok (.aload_n 0, 1) := by decide +kernel
theorem dm_Re_app_78 : decode mm_Re_app.2.1 78 = .ok (.iconst 0, 1) := by decide +kernel
theorem dm_Re_app_79 : decode mm_Re_app.2.1 79 = .ok (.invokevirtual 94, 3) := by decide +kernel
theorem dm_Re_app_82 : decode mm_Re_app.2.1 82 = .ok (.aload_n 0, 1) := by decide +kernel
theorem dm_Re_app_83 : decode mm_Re_app.2.1 83 = .ok (.iconst 0, 1) := by decide +kernel
theorem dm_Re_app_84 : decode mm_Re_app.2.1 84 = .ok (.invokevirtual 97, 3) := by decide +kernel
theorem dm_Re_app_87 : decode mm_Re_app.2.1 87 = .ok (.invokevirtual 43, 3) := by decide +kernel
theorem dm_Re_app_90 : decode mm_Re_app.2.1 90 = .ok (.aload_n 0, 1) := by decide +kernel
theorem dm_Re_app_91 : decode mm_Re_app.2.1 91 = .ok (.iconst 0, 1) := by decide +kernel
theorem dm_Re_app_92 : decode mm_Re_app.2.1 92 = .ok (.iload_n 1, 1) := by decide +kernel
theorem dm_Re_app_93 : decode mm_Re_app.2.1 93 = .ok (.invokevirtual 66, 3) := by decide +kernel
theorem dm_Re_app_96 : decode mm_Re_app.2.1 96 = .ok (.aload_n 0, 1) := by decide +kernel
theorem dm_Re_app_97 : decode mm_Re_app.2.1 97 = .ok (.iconst 2, 1) := by decide +kernel
theorem dm_Re_app_98 : decode mm_Re_app.2.1 98 = .ok (.invokevirtual 91, 3) := by decide +kernel
theorem dm_Re_app_101 : decode mm_Re_app.2.1 101 = .ok (.ireturn, 1) := by decide +kernel
theorem dm_Re_stands_0 : decode mm_Re_stands.2.1 0 = .ok (.aload_n 0, 1) := by decide +kernel
theorem dm_Re_stands_1 : decode mm_Re_stands.2.1 1 = .ok (.getfield 7, 3) := by decide +kernel
theorem dm_Re_stands_4 : decode mm_Re_stands.2.1 4 = .ok (.iload_n 1, 1) := by decide +kernel
theorem dm_Re_stands_5 : decode mm_Re_stands.2.1 5 = .ok (.iaload, 1) := by decide +kernel
theorem dm_Re_stands_6 : decode mm_Re_stands.2.1 6 = .ok (.bipush 10, 2) := by decide +kernel
theorem dm_Re_stands_8 : decode mm_Re_stands.2.1 8 = .ok (.if_icmp .ne 24, 3) := by decide +kernel
theorem dm_Re_stands_11 : decode mm_Re_stands.2.1 11 = .ok (.aload_n 0, 1) := by decide +kernel
theorem dm_Re_stands_12 : decode mm_Re_stands.2.1 12 = .ok (.iload_n 1, 1) := by decide +kernel
theorem dm_Re_stands_13 : decode mm_Re_stands.2.1 13 = .ok (.aload_n 0, 1) := by decide +kernel
theorem dm_Re_stands_14 : decode mm_Re_stands.2.1 14 = .ok (.iload_n 1, 1) := by decide +kernel
theorem dm_Re_stands_15 : decode mm_Re_stands.2.1 15 = .ok (.iconst 2, 1) := by decide +kernel
theorem dm_Re_stands_16 : decode mm_Re_stands.2.1 16 = .ok (.iadd, 1) := by decide +kernel
theorem dm_Re_stands_17 : decode mm_Re_stands.2.1 17 = .ok (.invokevirtual 36, 3) := by decide +kernel
theorem dm_Re_stands_20 : decode mm_Re_stands.2.1 20 = .ok (.iload_n 2, 1) := by decide +kernel
theorem dm_Re_stands_21 : decode mm_Re_stands.2.1 21 = .ok (.iload_n 3, 1) := by decide +kernel
theorem dm_Re_stands_22 : decode mm_Re_stands.2.1 22 = .ok (.invokevirtual 69, 3) := by decide +kernel
theorem dm_Re_stands_25 : decode mm_Re_stands.2.1 25 = .ok (.ifCond .eq 7, 3) := by decide +kernel
theorem dm_Re_stands_28 : decode mm_Re_stands.2.1 28 = .ok (.iconst 1, 1) := by decide +kernel
theorem dm_Re_stands_29 : decode mm_Re_stands.2.1 29 = .ok (.goto 4, 3) := by decide +kernel
theorem dm_Re_stands_32 : decode mm_Re_stands.2.1 32 = .ok (.iconst 0, 1) := by decide +kernel
theorem dm_Re_stands_33 : decode mm_Re_stands.2.1 33 = .ok (.ireturn, 1) := by decide +kernel
theorem dm_Re_emitAbs_0 : decode mm_Re_emitAbs.2.1 0 = .ok (.aload_n 0, 1) := by decide +kernel
theorem dm_Re_emitAbs_1 : decode mm_Re_emitAbs.2.1 1 = .ok (.bipush 13, 2) := by decide +kernel
theorem dm_Re_emitAbs_3 : decode mm_Re_emitAbs.2.1 3 = .ok (.invokevirtual 32, 3) := by decide +kernel
theorem dm_Re_emitAbs_6 : decode mm_Re_emitAbs.2.1 6 = .ok (.aload_n 0, 1) := by decide +kernel
theorem dm_Re_emitAbs_7 : decode mm_Re_emitAbs.2.1 7 = .ok (.iload_n 1, 1) := by decide +kernel
theorem dm_Re_emitAbs_8 : decode mm_Re_emitAbs.2.1 8 = .ok (.iconst 2, 1) := by decide +kernel
theorem dm_Re_emitAbs_9 : decode mm_Re_emitAbs.2.1 9 = .ok (.iadd, 1) := by decide +kernel
theorem dm_Re_emitAbs_10 : decode mm_Re_emitAbs.2.1 10 = .ok (.iload_n 2, 1) := by decide +kernel
theorem dm_Re_emitAbs_11 : decode mm_Re_emitAbs.2.1 11 = .ok (.invokevirtual 43, 3) := by decide +kernel
theorem dm_Re_emitAbs_14 : decode mm_Re_emitAbs.2.1 14 = .ok (.iload_n 3, 1) := by decide +kernel
theorem dm_Re_emitAbs_15 : decode mm_Re_emitAbs.2.1 15 = .ok (.istore 5, 2) := by decide +kernel
theorem dm_Re_emitAbs_17 : decode mm_Re_emitAbs.2.1 17 = .ok (.iload 5, 2) := by decide +kernel
theorem dm_Re_emitAbs_19 : decode mm_Re_emitAbs.2.1 19 = .ok (.iload 4, 2) := by decide +kernel
theorem dm_Re_emitAbs_21 : decode mm_Re_emitAbs.2.1 21 = .ok (.if_icmp .ge 56, 3) := by decide +kernel
theorem dm_Re_emitAbs_24 : decode mm_Re_emitAbs.2.1 24 = .ok (.aload_n 0, 1) := by decide +kernel
theorem dm_Re_emitAbs_25 : decode mm_Re_emitAbs.2.1 25 = .ok (.iload 5, 2) := by decide +kernel
theorem dm_Re_emitAbs_27 : decode mm_Re_emitAbs.2.1 27 = .ok (.iload_n 1, 1) := by decide +kernel
theorem dm_Re_emitAbs_28 : decode mm_Re_emitAbs.2.1 28 = .ok (.iload_n 2, 1) := by decide +kernel
theorem dm_Re_emitAbs_29 : decode mm_Re_emitAbs.2.1 29 = .ok (.invokevirtual 119, 3) := by decide +kernel
theorem dm_Re_emitAbs_32 : decode mm_Re_emitAbs.2.1 32 = .ok (.ifCond .eq 28, 3) := by decide +kernel
theorem dm_Re_emitAbs_35 : decode mm_Re_emitAbs.2.1 35 = .ok (.aload_n 0, 1) := by decide +kernel
theorem dm_Re_emitAbs_36 : decode mm_Re_emitAbs.2.1 36 = .ok (.bipush 20, 2) := by decide +kernel
theorem dm_Re_emitAbs_38 : decode mm_Re_emitAbs.2.1 38 = .ok (.aload_n 0, 1) := by decide +kernel
theorem dm_Re_emitAbs_39 : decode mm_Re_emitAbs.2.1 39 = .ok (.iload_n 3, 1) := by decide +kernel
theorem dm_Re_emitAbs_40 : decode mm_Re_emitAbs.2.1 40 = .ok (.iload 5, 2) := by decide +kernel
theorem dm_Re_emitAbs_42 : decode mm_Re_emitAbs.2.1 42 = .ok (.invokevirtual 123, 3) := by decide +kernel
theorem dm_Re_emitAbs_45 : decode mm_Re_emitAbs.2.1 45 = .ok (.iadd, 1) := by decide +kernel
theorem dm_Re_emitAbs_46 : decode mm_Re_emitAbs.2.1 46 = .ok (.invokevirtual 32, 3) := by decide +kernel
theorem dm_Re_emitAbs_49 : decode mm_Re_emitAbs.2.1 49 = .ok (.iload 5, 2) := by decide +kernel
theorem dm_Re_emitAbs_51 : decode mm_Re_emitAbs.2.1 51 = .ok (.iload_n 2, 1) := by decide +kernel
theorem dm_Re_emitAbs_52 : decode mm_Re_emitAbs.2.1 52 = .ok (.iload_n 1, 1) := by decide +kernel
theorem dm_Re_emitAbs_53 : decode mm_Re_emitAbs.2.1 53 = .ok (.isub, 1) := by decide +kernel
theorem dm_Re_emitAbs_54 : decode mm_Re_emitAbs.2.1 54 = .ok (.iadd, 1) := by decide +kernel
theorem dm_Re_emitAbs_55 : decode mm_Re_emitAbs.2.1 55 = .ok (.istore 5, 2) := by decide +kernel
theorem dm_Re_emitAbs_57 : decode mm_Re_emitAbs.2.1 57 = .ok (.goto (-40), 3) := by decide +kernel
theorem dm_Re_emitAbs_60 : decode mm_Re_emitAbs.2.1 60 = .ok (.aload_n 0, 1) := by decide +kernel
theorem dm_Re_emitAbs_61 : decode mm_Re_emitAbs.2.1 61 = .ok (.aload_n 0, 1) := by decide +kernel
theorem dm_Re_emitAbs_62 : decode mm_Re_emitAbs.2.1 62 = .ok (.getfield 7, 3) := by decide +kernel
theorem dm_Re_emitAbs_65 : decode mm_Re_emitAbs.2.1 65 = .ok (.iload 5, 2) := by decide +kernel
theorem dm_Re_emitAbs_67 : decode mm_Re_emitAbs.2.1 67 = .ok (.iaload, 1) := by decide +kernel
theorem dm_Re_emitAbs_68 : decode mm_Re_emitAbs.2.1 68 = .ok (.invokevirtual 32, 3) := by decide +kernel
theorem dm_Re_emitAbs_71 : decode mm_Re_emitAbs.2.1 71 = .ok (.iinc 5 1, 3) := by decide +kernel
theorem dm_Re_emitAbs_74 : decode mm_Re_emitAbs.2.1 74 = .ok (.goto (-57), 3) := by decide +kernel
theorem dm_Re_emitAbs_77 : decode mm_Re_emitAbs.2.1 77 = .ok (.return_, 1) := by decide +kernel
theorem dm_Re_abs_0 : decode mm_Re_abs.2.1 0 = .ok (.aload_n 0, 1) := by decide +kernel
theorem dm_Re_abs_1 : decode mm_Re_abs.2.1 1 = .ok (.iconst 1, 1) := by decide +kernel
theorem dm_Re_abs_2 : decode mm_Re_abs.2.1 2 = .ok (.invokevirtual 126, 3) := by decide +kernel
theorem dm_Re_abs_5 : decode mm_Re_abs.2.1 5 = .ok (.ifCond .eq 12, 3) := by decide +kernel
theorem dm_Re_abs_8 : decode mm_Re_abs.2.1 8 = .ok (.aload_n 0, 1) := by decide +kernel
theorem dm_Re_abs_9 : decode mm_Re_abs.2.1 9 = .ok (.iconst 0, 1) := by decide +kernel
theorem dm_Re_abs_10 : decode mm_Re_abs.2.1 10 = .ok (.invokevirtual 85, 3) := by decide +kernel
theorem dm_Re_abs_13 : decode mm_Re_abs.2.1 13 = .ok (.iconst 1, 1) := by decide +kernel
theorem dm_Re_abs_14 : decode mm_Re_abs.2.1 14 = .ok (.if_icmp .eq 5, 3) := by decide +kernel
theorem dm_Re_abs_17 : decode mm_Re_abs.2.1 17 = .ok (.iconst 1, 1) := by decide +kernel
theorem dm_Re_abs_18 : decode mm_Re_abs.2.1 18 = .ok (.ireturn, 1) := by decide +kernel
theorem dm_Re_abs_19 : decode mm_Re_abs.2.1 19 = .ok (.aload_n 0, 1) := by decide +kernel
theorem dm_Re_abs_20 : decode mm_Re_abs.2.1 20 = .ok (.invokevirtual 88, 3) := by decide +kernel
theorem dm_Re_abs_23 : decode mm_Re_abs.2.1 23 = .ok (.aload_n 0, 1) := by decide +kernel
theorem dm_Re_abs_24 : decode mm_Re_abs.2.1 24 = .ok (.getfield 16, 3) := by decide +kernel
theorem dm_Re_abs_27 : decode mm_Re_abs.2.1 27 = .ok (.bipush 28, 2) := by decide +kernel
theorem dm_Re_abs_29 : decode mm_Re_abs.2.1 29 = .ok (.iconst 1, 1) := by decide +kernel
theorem dm_Re_abs_30 : decode mm_Re_abs.2.1 30 = .ok (.iastore, 1) := by decide +kernel
theorem dm_Re_abs_31 : decode mm_Re_abs.2.1 31 = .ok (.aload_n 0, 1) := by decide +kernel
theorem dm_Re_abs_32 : decode mm_Re_abs.2.1 32 = .ok (.aload_n 0, 1) := by decide +kernel
theorem dm_Re_abs_33 : decode mm_Re_abs.2.1 33 = .ok (.iconst 1, 1) := by decide +kernel
theorem dm_Re_abs_34 : decode mm_Re_abs.2.1 34 = .ok (.invokevirtual 94, 3) := by decide +kernel
theorem dm_Re_abs_37 : decode mm_Re_abs.2.1 37 = .ok (.aload_n 0, 1) := by decide +kernel
theorem dm_Re_abs_38 : decode mm_Re_abs.2.1 38 = .ok (.iconst 1, 1) := by decide +kernel
theorem dm_Re_abs_39 : decode mm_Re_abs.2.1 39 = .ok (.invokevirtual 97, 3) := by decide +kernel
theorem dm_Re_abs_42 : decode mm_Re_abs.2.1 42 = .ok (.aload_n 0, 1) := by decide +kernel
theorem dm_Re_abs_43 : decode mm_Re_abs.2.1 43 = .ok (.iconst 0, 1) := by decide +kernel
theorem dm_Re_abs_44 : decode mm_Re_abs.2.1 44 = .ok (.invokevirtual 94, 3) := by decide +kernel
theorem dm_Re_abs_47 : decode mm_Re_abs.2.1 47 = .ok (.aload_n 0, 1) := by decide +kernel
theorem dm_Re_abs_48 : decode mm_Re_abs.2.1 48 = .ok (.iconst 0, 1) := by decide +kernel
theorem dm_Re_abs_49 : decode mm_Re_abs.2.1 49 = .ok (.invokevirtual 97, 3) := by decide +kernel
theorem dm_Re_abs_52 : decode mm_Re_abs.2.1 52 = .ok (.invokevirtual 130, 3) := by decide +kernel
theorem dm_Re_abs_55 : decode mm_Re_abs.2.1 55 = .ok (.aload_n 0, 1) := by decide +kernel
theorem dm_Re_abs_56 : decode mm_Re_abs.2.1 56 = .ok (.iconst 0, 1) := by decide +kernel
theorem dm_Re_abs_57 : decode mm_Re_abs.2.1 57 = .ok (.sipush 5200, 3) := by decide +kernel
theorem dm_Re_abs_60 : decode mm_Re_abs.2.1 60 = .ok (.invokevirtual 66, 3) := by decide +kernel
theorem dm_Re_abs_63 : decode mm_Re_abs.2.1 63 = .ok (.aload_n 0, 1) := by decide +kernel
theorem dm_Re_abs_64 : decode mm_Re_abs.2.1 64 = .ok (.iconst 2, 1) := by decide +kernel
theorem dm_Re_abs_65 : decode mm_Re_abs.2.1 65 = .ok (.invokevirtual 91, 3) := by decide +kernel
theorem dm_Re_abs_68 : decode mm_Re_abs.2.1 68 = .ok (.ireturn, 1) := by decide +kernel
theorem dm_Re_isBool_0 : decode mm_Re_isBool.2.1 0 = .ok (.iload_n 2, 1) := by decide +kernel
theorem dm_Re_isBool_1 : decode mm_Re_isBool.2.1 1 = .ok (.iload_n 1, 1) := by decide +kernel
theorem dm_Re_isBool_2 : decode mm_Re_isBool.2.1 2 = .ok (.isub, 1) := by decide +kernel
theorem dm_Re_isBool_3 : decode mm_Re_isBool.2.1 3 = .ok (.iconst 1, 1) := by decide +kernel
theorem dm_Re_isBool_4 : decode mm_Re_isBool.2.1 4 = .ok (.if_icmp .ne 17, 3) := by decide +kernel
theorem dm_Re_isBool_7 : decode mm_Re_isBool.2.1 7 = .ok (.aload_n 0, 1) := by decide +kernel
theorem dm_Re_isBool_8 : decode mm_Re_isBool.2.1 8 = .ok (.getfield 7, 3) := by decide +kernel
theorem dm_Re_isBool_11 : decode mm_Re_isBool.2.1 11 = .ok (.iload_n 1, 1) := by decide +kernel
theorem dm_Re_isBool_12 : decode mm_Re_isBool.2.1 12 = .ok (.iaload, 1) := by decide +kernel
theorem dm_Re_isBool_13 : decode mm_Re_isBool.2.1 13 = .ok (.iconst 1, 1) := by decide +kernel
theorem dm_Re_isBool_14 : decode mm_Re_isBool.2.1 14 = .ok (.if_icmp .ne 7, 3) := by decide +kernel
theorem dm_Re_isBool_17 : decode mm_Re_isBool.2.1 17 = .ok (.iconst 1, 1) := by decide +kernel
theorem dm_Re_isBool_18 : decode mm_Re_isBool.2.1 18 = .ok (.goto 4, 3) := by decide +kernel
theorem dm_Re_isBool_21 : decode mm_Re_isBool.2.1 21 = .ok (.iconst 0, 1) := by decide +kernel
theorem dm_Re_isBool_22 : decode mm_Re_isBool.2.1 22 = .ok (.ireturn, 1) := by decide +kernel
theorem dm_Re_theorem_0 : decode mm_Re_theorem.2.1 0 = .ok (.aload_n 0, 1) := by decide +kernel
theorem dm_Re_theorem_1 : decode mm_Re_theorem.2.1 1 = .ok (.iconst 0, 1) := by decide +kernel
theorem dm_Re_theorem_2 : decode mm_Re_theorem.2.1 2 = .ok (.invokevirtual 85, 3) := by decide +kernel
theorem dm_Re_theorem_5 : decode mm_Re_theorem.2.1 5 = .ok (.iconst 1, 1) := by decide +kernel
theorem dm_Re_theorem_6 : decode mm_Re_theorem.2.1 6 = .ok (.if_icmp .eq 5, 3) := by decide +kernel
theorem dm_Re_theorem_9 : decode mm_Re_theorem.2.1 9 = .ok (.iconst 1, 1) := by decide +kernel
theorem dm_Re_theorem_10 : decode mm_Re_theorem.2.1 10 = .ok (.ireturn, 1) := by decide +kernel
theorem dm_Re_theorem_11 : decode mm_Re_theorem.2.1 11 = .ok (.iload_n 1, 1) := by decide +kernel
theorem dm_Re_theorem_12 : decode mm_Re_theorem.2.1 12 = .ok (.ifCond .lt 8, 3) := by decide +kernel
theorem dm_Re_theorem_15 : decode mm_Re_theorem.2.1 15 = .ok (.iload_n 1, 1) := by decide +kernel
theorem dm_Re_theorem_16 : decode mm_Re_theorem.2.1 16 = .ok (.iconst 4, 1) := by decide +kernel
theorem dm_Re_theorem_17 : decode mm_Re_theorem.2.1 17 = .ok (.if_icmp .le 5, 3) := by decide +kernel
theorem dm_Re_theorem_20 : decode mm_Re_theorem.2.1 20 = .ok (.iconst 2, 1) := by decide +kernel
theorem dm_Re_theorem_21 : decode mm_Re_theorem.2.1 21 = .ok (.ireturn, 1) := by decide +kernel
theorem dm_Re_theorem_22 : decode mm_Re_theorem.2.1 22 = .ok (.aload_n 0, 1) := by decide +kernel
theorem dm_Re_theorem_23 : decode mm_Re_theorem.2.1 23 = .ok (.iconst 0, 1) := by decide +kernel
theorem dm_Re_theorem_24 : decode mm_Re_theorem.2.1 24 = .ok (.invokevirtual 94, 3) := by decide +kernel
theorem dm_Re_theorem_27 : decode mm_Re_theorem.2.1 27 = .ok (.istore_n 2, 1) := by decide +kernel
theorem dm_Re_theorem_28 : decode mm_Re_theorem.2.1 28 = .ok (.aload_n 0, 1) := by decide +kernel
theorem dm_Re_theorem_29 : decode mm_Re_theorem.2.1 29 = .ok (.iconst 0, 1) := by decide +kernel
theorem dm_Re_theorem_30 : decode mm_Re_theorem.2.1 30 = .ok (.invokevirtual 97, 3) := by decide +kernel
theorem dm_Re_theorem_33 : decode mm_Re_theorem.2.1 33 = .ok (.istore_n 3, 1) := by decide +kernel
theorem dm_Re_theorem_34 : decode mm_Re_theorem.2.1 34 = .ok (.aload_n 0, 1) := by decide +kernel
theorem dm_Re_theorem_35 : decode mm_Re_theorem.2.1 35 = .ok (.invokevirtual 88, 3) := by decide +kernel
theorem dm_Re_theorem_38 : decode mm_Re_theorem.2.1 38 = .ok (.aload_n 0, 1) := by decide +kernel
theorem dm_Re_theorem_39 : decode mm_Re_theorem.2.1 39 = .ok (.iload_n 2, 1) := by decide +kernel
theorem dm_Re_theorem_40 : decode mm_Re_theorem.2.1 40 = .ok (.invokevirtual 106, 3) := by decide +kernel
theorem dm_Re_theorem_43 : decode mm_Re_theorem.2.1 43 = .ok (.istore 4, 2) := by decide +kernel
theorem dm_Re_theorem_45 : decode mm_Re_theorem.2.1 45 = .ok (.aload_n 0, 1) := by decide +kernel
theorem dm_Re_theorem_46 : decode mm_Re_theorem.2.1 46 = .ok (.getfield 28, 3) := by decide +kernel
theorem dm_Re_theorem_49 : decode mm_Re_theorem.2.1 49 = .ok (.istore 5, 2) := by decide +kernel
theorem dm_Re_theorem_51 : decode mm_Re_theorem.2.1 51 = .ok (.iload_n 1, 1) := by decide +kernel
theorem dm_Re_theorem_52 : decode mm_Re_theorem.2.1 52 = .ok (.iconst 1, 1) := by decide +kernel
theorem dm_Re_theorem_53 : decode mm_Re_theorem.2.1 53 = .ok (.if_icmp .eq 8, 3) := by decide +kernel
theorem dm_Re_theorem_56 : decode mm_Re_theorem.2.1 56 = .ok (.iload_n 1, 1) := by decide +kernel
theorem dm_Re_theorem_57 : decode mm_Re_theorem.2.1 57 = .ok (.iconst 3, 1) := by decide +kernel
theorem dm_Re_theorem_58 : decode mm_Re_theorem.2.1 58 = .ok (.if_icmp .ne 26, 3) := by decide +kernel
theorem dm_Re_theorem_61 : decode mm_Re_theorem.2.1 61 = .ok (.aload_n 0, 1) := by decide +kernel
theorem dm_Re_theorem_62 : decode mm_Re_theorem.2.1 62 = .ok (.iload 4, 2) := by decide +kernel
theorem dm_Re_theorem_64 : decode mm_Re_theorem.2.1 64 = .ok (.iload 5, 2) := by decide +kernel
theorem dm_Re_theorem_66 : decode mm_Re_theorem.2.1 66 = .ok (.invokevirtual 133, 3) := by decide +kernel
theorem dm_Re_theorem_69 : decode mm_Re_theorem.2.1 69 = .ok (.ifCond .eq 13, 3) := by decide +kernel
theorem dm_Re_theorem_72 : decode mm_Re_theorem.2.1 72 = .ok (.aload_n 0, 1) := by decide +kernel
theorem dm_Re_theorem_73 : decode mm_Re_theorem.2.1 73 = .ok (.iload_n 1, 1) := by decide +kernel
theorem dm_Re_theorem_74 : decode mm_Re_theorem.2.1 74 = .ok (.iload_n 2, 1) := by decide +kernel
theorem dm_Re_theorem_75 : decode mm_Re_theorem.2.1 75 = .ok (.iload_n 3, 1) := by decide +kernel
theorem dm_Re_theorem_76 : decode mm_Re_theorem.2.1 76 = .ok (.invokevirtual 136, 3) := by decide +kernel
theorem dm_Re_theorem_79 : decode mm_Re_theorem.2.1 79 = .ok (.goto 4, 3) := by decide +kernel
theorem dm_Re_theorem_82 : decode mm_Re_theorem.2.1 82 = .ok (.iconst 2, 1) := by decide +kernel
theorem dm_Re_theorem_83 : decode mm_Re_theorem.2.1 83 = .ok (.ireturn, 1) := by decide +kernel
theorem dm_Re_theorem_84 : decode mm_Re_theorem.2.1 84 = .ok (.iload_n 1, 1) := by decide +kernel
theorem dm_Re_theorem_85 : decode mm_Re_theorem.2.1 85 = .ok (.iconst 2, 1) := by decide +kernel
theorem dm_Re_theorem_86 : decode mm_Re_theorem.2.1 86 = .ok (.if_icmp .ne 29, 3) := by decide +kernel
theorem dm_Re_theorem_89 : decode mm_Re_theorem.2.1 89 = .ok (.aload_n 0, 1) := by decide +kernel
theorem dm_Re_theorem_90 : decode mm_Re_theorem.2.1 90 = .ok (.getfield 7, 3) := by decide +kernel
theorem dm_Re_theorem_93 : decode mm_Re_theorem.2.1 93 = .ok (.iload_n 2, 1) := by decide +kernel
theorem dm_Re_theorem_94 : decode mm_Re_theorem.2.1 94 = .ok (.iaload, 1) := by decide +kernel
theorem dm_Re_theorem_95 : decode mm_Re_theorem.2.1 95 = .ok (.bipush 12, 2) := by decide +kernel
theorem dm_Re_theorem_97 : decode mm_Re_theorem.2.1 97 = .ok (.if_icmp .ne 16, 3) := by decide +kernel
theorem dm_Re_theorem_100 : decode mm_Re_theorem.2.1 100 = .ok (.aload_n 0, 1) := by decide +kernel
theorem dm_Re_theorem_101 : decode mm_Re_theorem.2.1 101 = .ok (.getfield 7, 3) := by decide +kernel
theorem dm_Re_theorem_104 : decode mm_Re_theorem.2.1 104 = .ok (.iload_n 2, 1) := by decide +kernel
theorem dm_Re_theorem_105 : decode mm_Re_theorem.2.1 105 = .ok (.iconst 1, 1) := by decide +kernel
theorem dm_Re_theorem_106 : decode mm_Re_theorem.2.1 106 = .ok (.iadd, 1) := by decide +kernel
theorem dm_Re_theorem_107 : decode mm_Re_theorem.2.1 107 = .ok (.iaload, 1) := by decide +kernel
theorem dm_Re_theorem_108 : decode mm_Re_theorem.2.1 108 = .ok (.bipush 13, 2) := by decide +kernel
theorem dm_Re_theorem_110 : decode mm_Re_theorem.2.1 110 = .ok (.if_icmp .eq 5, 3) := by decide +kernel
theorem dm_Re_theorem_113 : decode mm_Re_theorem.2.1 113 = .ok (.iconst 2, 1) := by decide +kernel
theorem dm_Re_theorem_114 : decode mm_Re_theorem.2.1 114 = .ok (.ireturn, 1) := by decide +kernel
theorem dm_Re_theorem_115 : decode mm_Re_theorem.2.1 115 = .ok (.iload_n 1, 1) := by decide +kernel
theorem dm_Re_theorem_116 : decode mm_Re_theorem.2.1 116 = .ok (.iconst 4, 1) := by decide +kernel
theorem dm_Re_theorem_117 : decode mm_Re_theorem.2.1 117 = .ok (.if_icmp .ne 18, 3) := by decide +kernel
theorem dm_Re_theorem_120 : decode mm_Re_theorem.2.1 120 = .ok (.aload_n 0, 1) := by decide +kernel
theorem dm_Re_theorem_121 : decode mm_Re_theorem.2.1 121 = .ok (.iload_n 2, 1) := by decide +kernel
theorem dm_Re_theorem_122 : decode mm_Re_theorem.2.1 122 = .ok (.iload_n 3, 1) := by decide +kernel
theorem dm_Re_theorem_123 : decode mm_Re_theorem.2.1 123 = .ok (.iload 4, 2) := by decide +kernel
theorem dm_Re_theorem_125 : decode mm_Re_theorem.2.1 125 = .ok (.iload 5, 2) := by decide +kernel
theorem dm_Re_theorem_127 : decode mm_Re_theorem.2.1 127 = .ok (.invokevirtual 140, 3) := by decide +kernel
theorem dm_Re_theorem_130 : decode mm_Re_theorem.2.1 130 = .ok (.ifCond .ne 5, 3) := by decide +kernel
theorem dm_Re_theorem_133 : decode mm_Re_theorem.2.1 133 = .ok (.iconst 3, 1) := by decide +kernel
theorem dm_Re_theorem_134 : decode mm_Re_theorem.2.1 134 = .ok (.ireturn, 1) := by decide +kernel
theorem dm_Re_theorem_135 : decode mm_Re_theorem.2.1 135 = .ok (.aload_n 0, 1) := by decide +kernel
theorem dm_Re_theorem_136 : decode mm_Re_theorem.2.1 136 = .ok (.getfield 28, 3) := by decide +kernel
theorem dm_Re_theorem_139 : decode mm_Re_theorem.2.1 139 = .ok (.istore 6, 2) := by decide +kernel
theorem dm_Re_theorem_141 : decode mm_Re_theorem.2.1 141 = .ok (.aload_n 0, 1) := by decide +kernel
theorem dm_Re_theorem_142 : decode mm_Re_theorem.2.1 142 = .ok (.iload 4, 2) := by decide +kernel
theorem dm_Re_theorem_144 : decode mm_Re_theorem.2.1 144 = .ok (.iload 5, 2) := by decide +kernel
theorem dm_Re_theorem_146 : decode mm_Re_theorem.2.1 146 = .ok (.invokevirtual 143, 3) := by decide +kernel
theorem dm_Re_theorem_149 : decode mm_Re_theorem.2.1 149 = .ok (.iload_n 1, 1) := by decide +kernel
theorem dm_Re_theorem_150 : decode mm_Re_theorem.2.1 150 = .ok (.iconst 4, 1) := by decide +kernel
theorem dm_Re_theorem_151 : decode mm_Re_theorem.2.1 151 = .ok (.if_icmp .ne 27, 3) := by decide +kernel
theorem dm_Re_theorem_154 : decode mm_Re_theorem.2.1 154 = .ok (.aload_n 0, 1) := by decide +kernel
theorem dm_Re_theorem_155 : decode mm_Re_theorem.2.1 155 = .ok (.bipush 11, 2) := by decide +kernel
theorem dm_Re_theorem_157 : decode mm_Re_theorem.2.1 157 = .ok (.invokevirtual 32, 3) := by decide +kernel
theorem dm_Re_theorem_160 : decode mm_Re_theorem.2.1 160 = .ok (.aload_n 0, 1) := by decide +kernel
theorem dm_Re_theorem_161 : decode mm_Re_theorem.2.1 161 = .ok (.aload_n 0, 1) := by decide +kernel
theorem dm_Re_theorem_162 : decode mm_Re_theorem.2.1 162 = .ok (.getfield 103, 3) := by decide +kernel
theorem dm_Re_theorem_165 : decode mm_Re_theorem.2.1 165 = .ok (.iconst 1, 1) := by decide +kernel
theorem dm_Re_theorem_166 : decode mm_Re_theorem.2.1 166 = .ok (.iadd, 1) := by decide +kernel
theorem dm_Re_theorem_167 : decode mm_Re_theorem.2.1 167 = .ok (.invokevirtual 32, 3) := by decide +kernel
theorem dm_Re_theorem_170 : decode mm_Re_theorem.2.1 170 = .ok (.aload_n 0, 1) := by decide +kernel
theorem dm_Re_theorem_171 : decode mm_Re_theorem.2.1 171 = .ok (.iload 4, 2) := by decide +kernel
theorem dm_Re_theorem_173 : decode mm_Re_theorem.2.1 173 = .ok (.iload 5, 2) := by decide +kernel
theorem dm_Re_theorem_175 : decode mm_Re_theorem.2.1 175 = .ok (.invokevirtual 43, 3) := by decide +kernel
theorem dm_Re_theorem_178 : decode mm_Re_theorem.2.1 178 = .ok (.aload_n 0, 1) := by decide +kernel
theorem dm_Re_theorem_179 : decode mm_Re_theorem.2.1 179 = .ok (.iload_n 2, 1) := by decide +kernel
theorem dm_Re_theorem_180 : decode mm_Re_theorem.2.1 180 = .ok (.iload_n 3, 1) := by decide +kernel
theorem dm_Re_theorem_181 : decode mm_Re_theorem.2.1 181 = .ok (.invokevirtual 43, 3) := by decide +kernel
theorem dm_Re_theorem_184 : decode mm_Re_theorem.2.1 184 = .ok (.iload_n 1, 1) := by decide +kernel
theorem dm_Re_theorem_185 : decode mm_Re_theorem.2.1 185 = .ok (.ifCond .ne 9, 3) := by decide +kernel
theorem dm_Re_theorem_188 : decode mm_Re_theorem.2.1 188 = .ok (.aload_n 0, 1) := by decide +kernel
theorem dm_Re_theorem_189 : decode mm_Re_theorem.2.1 189 = .ok (.iload_n 2, 1) := by decide +kernel
theorem dm_Re_theorem_190 : decode mm_Re_theorem.2.1 190 = .ok (.iload_n 3, 1) := by decide +kernel
theorem dm_Re_theorem_191 : decode mm_Re_theorem.2.1 191 = .ok (.invokevirtual 43, 3) := by decide +kernel
theorem dm_Re_theorem_194 : decode mm_Re_theorem.2.1 194 = .ok (.iload_n 1, 1) := by decide +kernel
theorem dm_Re_theorem_195 : decode mm_Re_theorem.2.1 195 = .ok (.iconst 2, 1) := by decide +kernel
theorem dm_Re_theorem_196 : decode mm_Re_theorem.2.1 196 = .ok (.if_icmp .ne 15, 3) := by decide +kernel
theorem dm_Re_theorem_199 : decode mm_Re_theorem.2.1 199 = .ok (.aload_n 0, 1) := by decide +kernel
theorem dm_Re_theorem_200 : decode mm_Re_theorem.2.1 200 = .ok (.aload_n 0, 1) := by decide +kernel
theorem dm_Re_theorem_201 : decode mm_Re_theorem.2.1 201 = .ok (.iload_n 2, 1) := by decide +kernel
theorem dm_Re_theorem_202 : decode mm_Re_theorem.2.1 202 = .ok (.iconst 2, 1) := by decide +kernel
theorem dm_Re_theorem_203 : decode mm_Re_theorem.2.1 203 = .ok (.iadd, 1) := by decide +kernel
theorem dm_Re_theorem_204 : decode mm_Re_theorem.2.1 204 = .ok (.invokevirtual 36, 3) := by decide +kernel
theorem dm_Re_theorem_207 : decode mm_Re_theorem.2.1 207 = .ok (.iload_n 3, 1) := by decide +kernel
theorem dm_Re_theorem_208 : decode mm_Re_theorem.2.1 208 = .ok (.invokevirtual 146, 3) := by decide +kernel
theorem dm_Re_theorem_211 : decode mm_Re_theorem.2.1 211 = .ok (.aload_n 0, 1) := by decide +kernel
theorem dm_Re_theorem_212 : decode mm_Re_theorem.2.1 212 = .ok (.iconst 0, 1) := by decide +kernel
theorem dm_Re_theorem_213 : decode mm_Re_theorem.2.1 213 = .ok (.iload 6, 2) := by decide +kernel
theorem dm_Re_theorem_215 : decode mm_Re_theorem.2.1 215 = .ok (.invokevirtual 66, 3) := by decide +kernel
theorem dm_Re_theorem_218 : decode mm_Re_theorem.2.1 218 = .ok (.iload_n 1, 1) := by decide +kernel
theorem dm_Re_theorem_219 : decode mm_Re_theorem.2.1 219 = .ok (.iconst 4, 1) := by decide +kernel
theorem dm_Re_theorem_220 : decode mm_Re_theorem.2.1 220 = .ok (.if_icmp .ne 14, 3) := by decide +kernel
theorem dm_Re_theorem_223 : decode mm_Re_theorem.2.1 223 = .ok (.aload_n 0, 1) := by decide +kernel
theorem dm_Re_theorem_224 : decode mm_Re_theorem.2.1 224 = .ok (.iload 4, 2) := by decide +kernel
theorem dm_Re_theorem_226 : decode mm_Re_theorem.2.1 226 = .ok (.iload 5, 2) := by decide +kernel
theorem dm_Re_theorem_228 : decode mm_Re_theorem.2.1 228 = .ok (.invokevirtual 149, 3) := by decide +kernel
theorem dm_Re_theorem_231 : decode mm_Re_theorem.2.1 231 = .ok (.goto 8, 3) := by decide +kernel
theorem dm_Re_theorem_234 : decode mm_Re_theorem.2.1 234 = .ok (.aload_n 0, 1) := by decide +kernel
theorem dm_Re_theorem_235 : decode mm_Re_theorem.2.1 235 = .ok (.iconst 1, 1) := by decide +kernel
theorem dm_Re_theorem_236 : decode mm_Re_theorem.2.1 236 = .ok (.invokevirtual 91, 3) := by decide +kernel
end
section
theorem dm_Re_theorem_239 : decode mm_Re_theorem.2.1 239 = .ok (.ireturn, 1) := by decide +kernel
theorem dm_Re_claim_0 : decode mm_Re_claim.2.1 0 = .ok (.aload_n 0, 1) := by decide +kernel
theorem dm_Re_claim_1 : decode mm_Re_claim.2.1 1 = .ok (.getfield 28, 3) := by decide +kernel
theorem dm_Re_claim_4 : decode mm_Re_claim.2.1 4 = .ok (.istore 4, 2) := by decide +kernel
theorem dm_Re_claim_6 : decode mm_Re_claim.2.1 6 = .ok (.aload_n 0, 1) := by decide +kernel
theorem dm_Re_claim_7 : decode mm_Re_claim.2.1 7 = .ok (.iload_n 2, 1) := by decide +kernel
theorem dm_Re_claim_8 : decode mm_Re_claim.2.1 8 = .ok (.iload_n 3, 1) := by decide +kernel
theorem dm_Re_claim_9 : decode mm_Re_claim.2.1 9 = .ok (.invokevirtual 43, 3) := by decide +kernel
theorem dm_Re_claim_12 : decode mm_Re_claim.2.1 12 = .ok (.aload_n 0, 1) := by decide +kernel
theorem dm_Re_claim_13 : decode mm_Re_claim.2.1 13 = .ok (.iconst 0, 1) := by decide +kernel
theorem dm_Re_claim_14 : decode mm_Re_claim.2.1 14 = .ok (.iload 4, 2) := by decide +kernel
theorem dm_Re_claim_16 : decode mm_Re_claim.2.1 16 = .ok (.invokevirtual 66, 3) := by decide +kernel
theorem dm_Re_claim_19 : decode mm_Re_claim.2.1 19 = .ok (.iload_n 1, 1) := by decide +kernel
theorem dm_Re_claim_20 : decode mm_Re_claim.2.1 20 = .ok (.iconst 1, 1) := by decide +kernel
theorem dm_Re_claim_21 : decode mm_Re_claim.2.1 21 = .ok (.if_icmp .ne 15, 3) := by decide +kernel
theorem dm_Re_claim_24 : decode mm_Re_claim.2.1 24 = .ok (.aload_n 0, 1) := by decide +kernel
theorem dm_Re_claim_25 : decode mm_Re_claim.2.1 25 = .ok (.iload 4, 2) := by decide +kernel
theorem dm_Re_claim_27 : decode mm_Re_claim.2.1 27 = .ok (.invokevirtual 73, 3) := by decide +kernel
theorem dm_Re_claim_30 : decode mm_Re_claim.2.1 30 = .ok (.aload_n 0, 1) := by decide +kernel
theorem dm_Re_claim_31 : decode mm_Re_claim.2.1 31 = .ok (.iconst 1, 1) := by decide +kernel
theorem dm_Re_claim_32 : decode mm_Re_claim.2.1 32 = .ok (.invokevirtual 91, 3) := by decide +kernel
theorem dm_Re_claim_35 : decode mm_Re_claim.2.1 35 = .ok (.ireturn, 1) := by decide +kernel
theorem dm_Re_claim_36 : decode mm_Re_claim.2.1 36 = .ok (.aload_n 0, 1) := by decide +kernel
theorem dm_Re_claim_37 : decode mm_Re_claim.2.1 37 = .ok (.getfield 50, 3) := by decide +kernel
theorem dm_Re_claim_40 : decode mm_Re_claim.2.1 40 = .ok (.ifCond .ne 20, 3) := by decide +kernel
theorem dm_Re_claim_43 : decode mm_Re_claim.2.1 43 = .ok (.aload_n 0, 1) := by decide +kernel
theorem dm_Re_claim_44 : decode mm_Re_claim.2.1 44 = .ok (.getfield 152, 3) := by decide +kernel
theorem dm_Re_claim_47 : decode mm_Re_claim.2.1 47 = .ok (.iconst 5, 1) := by decide +kernel
theorem dm_Re_claim_48 : decode mm_Re_claim.2.1 48 = .ok (.if_icmp .eq 12, 3) := by decide +kernel
theorem dm_Re_claim_51 : decode mm_Re_claim.2.1 51 = .ok (.aload_n 0, 1) := by decide +kernel
theorem dm_Re_claim_52 : decode mm_Re_claim.2.1 52 = .ok (.getfield 76, 3) := by decide +kernel
theorem dm_Re_claim_55 : decode mm_Re_claim.2.1 55 = .ok (.bipush 120, 2) := by decide +kernel
theorem dm_Re_claim_57 : decode mm_Re_claim.2.1 57 = .ok (.if_icmp .ne 5, 3) := by decide +kernel
theorem dm_Re_claim_60 : decode mm_Re_claim.2.1 60 = .ok (.iconst 4, 1) := by decide +kernel
theorem dm_Re_claim_61 : decode mm_Re_claim.2.1 61 = .ok (.ireturn, 1) := by decide +kernel
theorem dm_Re_claim_62 : decode mm_Re_claim.2.1 62 = .ok (.aload_n 0, 1) := by decide +kernel
theorem dm_Re_claim_63 : decode mm_Re_claim.2.1 63 = .ok (.bipush 28, 2) := by decide +kernel
theorem dm_Re_claim_65 : decode mm_Re_claim.2.1 65 = .ok (.bipush 18, 2) := by decide +kernel
theorem dm_Re_claim_67 : decode mm_Re_claim.2.1 67 = .ok (.aload_n 0, 1) := by decide +kernel
theorem dm_Re_claim_68 : decode mm_Re_claim.2.1 68 = .ok (.getfield 152, 3) := by decide +kernel
theorem dm_Re_claim_71 : decode mm_Re_claim.2.1 71 = .ok (.iadd, 1) := by decide +kernel
theorem dm_Re_claim_72 : decode mm_Re_claim.2.1 72 = .ok (.invokevirtual 82, 3) := by decide +kernel
theorem dm_Re_claim_75 : decode mm_Re_claim.2.1 75 = .ok (.aload_n 0, 1) := by decide +kernel
theorem dm_Re_claim_76 : decode mm_Re_claim.2.1 76 = .ok (.dup, 1) := by decide +kernel
theorem dm_Re_claim_77 : decode mm_Re_claim.2.1 77 = .ok (.getfield 152, 3) := by decide +kernel
theorem dm_Re_claim_80 : decode mm_Re_claim.2.1 80 = .ok (.iconst 1, 1) := by decide +kernel
theorem dm_Re_claim_81 : decode mm_Re_claim.2.1 81 = .ok (.iadd, 1) := by decide +kernel
theorem dm_Re_claim_82 : decode mm_Re_claim.2.1 82 = .ok (.putfield 152, 3) := by decide +kernel
theorem dm_Re_claim_85 : decode mm_Re_claim.2.1 85 = .ok (.aload_n 0, 1) := by decide +kernel
theorem dm_Re_claim_86 : decode mm_Re_claim.2.1 86 = .ok (.iconst 1, 1) := by decide +kernel
theorem dm_Re_claim_87 : decode mm_Re_claim.2.1 87 = .ok (.invokevirtual 91, 3) := by decide +kernel
theorem dm_Re_claim_90 : decode mm_Re_claim.2.1 90 = .ok (.ireturn, 1) := by decide +kernel
theorem dm_Re_define_0 : decode mm_Re_define.2.1 0 = .ok (.aload_n 0, 1) := by decide +kernel
theorem dm_Re_define_1 : decode mm_Re_define.2.1 1 = .ok (.getfield 50, 3) := by decide +kernel
theorem dm_Re_define_4 : decode mm_Re_define.2.1 4 = .ok (.ifCond .ne 21, 3) := by decide +kernel
theorem dm_Re_define_7 : decode mm_Re_define.2.1 7 = .ok (.aload_n 0, 1) := by decide +kernel
theorem dm_Re_define_8 : decode mm_Re_define.2.1 8 = .ok (.getfield 103, 3) := by decide +kernel
theorem dm_Re_define_11 : decode mm_Re_define.2.1 11 = .ok (.bipush 6, 2) := by decide +kernel
theorem dm_Re_define_13 : decode mm_Re_define.2.1 13 = .ok (.if_icmp .eq 12, 3) := by decide +kernel
theorem dm_Re_define_16 : decode mm_Re_define.2.1 16 = .ok (.aload_n 0, 1) := by decide +kernel
theorem dm_Re_define_17 : decode mm_Re_define.2.1 17 = .ok (.getfield 76, 3) := by decide +kernel
theorem dm_Re_define_20 : decode mm_Re_define.2.1 20 = .ok (.bipush 120, 2) := by decide +kernel
theorem dm_Re_define_22 : decode mm_Re_define.2.1 22 = .ok (.if_icmp .ne 5, 3) := by decide +kernel
theorem dm_Re_define_25 : decode mm_Re_define.2.1 25 = .ok (.iconst 4, 1) := by decide +kernel
theorem dm_Re_define_26 : decode mm_Re_define.2.1 26 = .ok (.ireturn, 1) := by decide +kernel
theorem dm_Re_define_27 : decode mm_Re_define.2.1 27 = .ok (.aload_n 0, 1) := by decide +kernel
theorem dm_Re_define_28 : decode mm_Re_define.2.1 28 = .ok (.dup, 1) := by decide +kernel
theorem dm_Re_define_29 : decode mm_Re_define.2.1 29 = .ok (.getfield 103, 3) := by decide +kernel
theorem dm_Re_define_32 : decode mm_Re_define.2.1 32 = .ok (.iconst 1, 1) := by decide +kernel
theorem dm_Re_define_33 : decode mm_Re_define.2.1 33 = .ok (.iadd, 1) := by decide +kernel
theorem dm_Re_define_34 : decode mm_Re_define.2.1 34 = .ok (.putfield 103, 3) := by decide +kernel
theorem dm_Re_define_37 : decode mm_Re_define.2.1 37 = .ok (.iload_n 1, 1) := by decide +kernel
theorem dm_Re_define_38 : decode mm_Re_define.2.1 38 = .ok (.istore_n 3, 1) := by decide +kernel
theorem dm_Re_define_39 : decode mm_Re_define.2.1 39 = .ok (.iload_n 3, 1) := by decide +kernel
theorem dm_Re_define_40 : decode mm_Re_define.2.1 40 = .ok (.iload_n 2, 1) := by decide +kernel
theorem dm_Re_define_41 : decode mm_Re_define.2.1 41 = .ok (.if_icmp .ge 35, 3) := by decide +kernel
theorem dm_Re_define_44 : decode mm_Re_define.2.1 44 = .ok (.aload_n 0, 1) := by decide +kernel
theorem dm_Re_define_45 : decode mm_Re_define.2.1 45 = .ok (.getfield 7, 3) := by decide +kernel
theorem dm_Re_define_48 : decode mm_Re_define.2.1 48 = .ok (.sipush 4800, 3) := by decide +kernel
theorem dm_Re_define_51 : decode mm_Re_define.2.1 51 = .ok (.bipush 40, 2) := by decide +kernel
theorem dm_Re_define_53 : decode mm_Re_define.2.1 53 = .ok (.aload_n 0, 1) := by decide +kernel
theorem dm_Re_define_54 : decode mm_Re_define.2.1 54 = .ok (.getfield 103, 3) := by decide +kernel
theorem dm_Re_define_57 : decode mm_Re_define.2.1 57 = .ok (.imul, 1) := by decide +kernel
theorem dm_Re_define_58 : decode mm_Re_define.2.1 58 = .ok (.iadd, 1) := by decide +kernel
theorem dm_Re_define_59 : decode mm_Re_define.2.1 59 = .ok (.iload_n 3, 1) := by decide +kernel
theorem dm_Re_define_60 : decode mm_Re_define.2.1 60 = .ok (.iadd, 1) := by decide +kernel
theorem dm_Re_define_61 : decode mm_Re_define.2.1 61 = .ok (.iload_n 1, 1) := by decide +kernel
theorem dm_Re_define_62 : decode mm_Re_define.2.1 62 = .ok (.isub, 1) := by decide +kernel
theorem dm_Re_define_63 : decode mm_Re_define.2.1 63 = .ok (.aload_n 0, 1) := by decide +kernel
theorem dm_Re_define_64 : decode mm_Re_define.2.1 64 = .ok (.getfield 7, 3) := by decide +kernel
theorem dm_Re_define_67 : decode mm_Re_define.2.1 67 = .ok (.iload_n 3, 1) := by decide +kernel
theorem dm_Re_define_68 : decode mm_Re_define.2.1 68 = .ok (.iaload, 1) := by decide +kernel
theorem dm_Re_define_69 : decode mm_Re_define.2.1 69 = .ok (.iastore, 1) := by decide +kernel
theorem dm_Re_define_70 : decode mm_Re_define.2.1 70 = .ok (.iinc 3 1, 3) := by decide +kernel
theorem dm_Re_define_73 : decode mm_Re_define.2.1 73 = .ok (.goto (-34), 3) := by decide +kernel
theorem dm_Re_define_76 : decode mm_Re_define.2.1 76 = .ok (.aload_n 0, 1) := by decide +kernel
theorem dm_Re_define_77 : decode mm_Re_define.2.1 77 = .ok (.getfield 22, 3) := by decide +kernel
theorem dm_Re_define_80 : decode mm_Re_define.2.1 80 = .ok (.aload_n 0, 1) := by decide +kernel
theorem dm_Re_define_81 : decode mm_Re_define.2.1 81 = .ok (.getfield 103, 3) := by decide +kernel
theorem dm_Re_define_84 : decode mm_Re_define.2.1 84 = .ok (.iload_n 2, 1) := by decide +kernel
theorem dm_Re_define_85 : decode mm_Re_define.2.1 85 = .ok (.iload_n 1, 1) := by decide +kernel
theorem dm_Re_define_86 : decode mm_Re_define.2.1 86 = .ok (.isub, 1) := by decide +kernel
theorem dm_Re_define_87 : decode mm_Re_define.2.1 87 = .ok (.iastore, 1) := by decide +kernel
theorem dm_Re_define_88 : decode mm_Re_define.2.1 88 = .ok (.aload_n 0, 1) := by decide +kernel
theorem dm_Re_define_89 : decode mm_Re_define.2.1 89 = .ok (.iconst 1, 1) := by decide +kernel
theorem dm_Re_define_90 : decode mm_Re_define.2.1 90 = .ok (.invokevirtual 91, 3) := by decide +kernel
theorem dm_Re_define_93 : decode mm_Re_define.2.1 93 = .ok (.ireturn, 1) := by decide +kernel
theorem dm_Re_reduce_0 : decode mm_Re_reduce.2.1 0 = .ok (.aload_n 0, 1) := by decide +kernel
theorem dm_Re_reduce_1 : decode mm_Re_reduce.2.1 1 = .ok (.iload_n 1, 1) := by decide +kernel
theorem dm_Re_reduce_2 : decode mm_Re_reduce.2.1 2 = .ok (.invokevirtual 40, 3) := by decide +kernel
theorem dm_Re_reduce_5 : decode mm_Re_reduce.2.1 5 = .ok (.istore_n 3, 1) := by decide +kernel
theorem dm_Re_reduce_6 : decode mm_Re_reduce.2.1 6 = .ok (.iload_n 1, 1) := by decide +kernel
theorem dm_Re_reduce_7 : decode mm_Re_reduce.2.1 7 = .ok (.istore 4, 2) := by decide +kernel
theorem dm_Re_reduce_9 : decode mm_Re_reduce.2.1 9 = .ok (.iload 4, 2) := by decide +kernel
theorem dm_Re_reduce_11 : decode mm_Re_reduce.2.1 11 = .ok (.iload_n 3, 1) := by decide +kernel
theorem dm_Re_reduce_12 : decode mm_Re_reduce.2.1 12 = .ok (.if_icmp .ge 61, 3) := by decide +kernel
theorem dm_Re_reduce_15 : decode mm_Re_reduce.2.1 15 = .ok (.aload_n 0, 1) := by decide +kernel
theorem dm_Re_reduce_16 : decode mm_Re_reduce.2.1 16 = .ok (.getfield 7, 3) := by decide +kernel
theorem dm_Re_reduce_19 : decode mm_Re_reduce.2.1 19 = .ok (.iload 4, 2) := by decide +kernel
theorem dm_Re_reduce_21 : decode mm_Re_reduce.2.1 21 = .ok (.iaload, 1) := by decide +kernel
theorem dm_Re_reduce_22 : decode mm_Re_reduce.2.1 22 = .ok (.bipush 20, 2) := by decide +kernel
theorem dm_Re_reduce_24 : decode mm_Re_reduce.2.1 24 = .ok (.if_icmp .lt 32, 3) := by decide +kernel
theorem dm_Re_reduce_27 : decode mm_Re_reduce.2.1 27 = .ok (.aload_n 0, 1) := by decide +kernel
theorem dm_Re_reduce_28 : decode mm_Re_reduce.2.1 28 = .ok (.getfield 7, 3) := by decide +kernel
theorem dm_Re_reduce_31 : decode mm_Re_reduce.2.1 31 = .ok (.iload 4, 2) := by decide +kernel
theorem dm_Re_reduce_33 : decode mm_Re_reduce.2.1 33 = .ok (.iaload, 1) := by decide +kernel
theorem dm_Re_reduce_34 : decode mm_Re_reduce.2.1 34 = .ok (.bipush 20, 2) := by decide +kernel
theorem dm_Re_reduce_36 : decode mm_Re_reduce.2.1 36 = .ok (.isub, 1) := by decide +kernel
theorem dm_Re_reduce_37 : decode mm_Re_reduce.2.1 37 = .ok (.aload_n 0, 1) := by decide +kernel
theorem dm_Re_reduce_38 : decode mm_Re_reduce.2.1 38 = .ok (.iload_n 1, 1) := by decide +kernel
theorem dm_Re_reduce_39 : decode mm_Re_reduce.2.1 39 = .ok (.iload 4, 2) := by decide +kernel
theorem dm_Re_reduce_41 : decode mm_Re_reduce.2.1 41 = .ok (.invokevirtual 123, 3) := by decide +kernel
theorem dm_Re_reduce_44 : decode mm_Re_reduce.2.1 44 = .ok (.if_icmp .ne 12, 3) := by decide +kernel
theorem dm_Re_reduce_47 : decode mm_Re_reduce.2.1 47 = .ok (.aload_n 0, 1) := by decide +kernel
theorem dm_Re_reduce_48 : decode mm_Re_reduce.2.1 48 = .ok (.iload_n 3, 1) := by decide +kernel
theorem dm_Re_reduce_49 : decode mm_Re_reduce.2.1 49 = .ok (.iload_n 2, 1) := by decide +kernel
theorem dm_Re_reduce_50 : decode mm_Re_reduce.2.1 50 = .ok (.invokevirtual 43, 3) := by decide +kernel
theorem dm_Re_reduce_53 : decode mm_Re_reduce.2.1 53 = .ok (.goto 14, 3) := by decide +kernel
theorem dm_Re_reduce_56 : decode mm_Re_reduce.2.1 56 = .ok (.aload_n 0, 1) := by decide +kernel
theorem dm_Re_reduce_57 : decode mm_Re_reduce.2.1 57 = .ok (.aload_n 0, 1) := by decide +kernel
theorem dm_Re_reduce_58 : decode mm_Re_reduce.2.1 58 = .ok (.getfield 7, 3) := by decide +kernel
theorem dm_Re_reduce_61 : decode mm_Re_reduce.2.1 61 = .ok (.iload 4, 2) := by decide +kernel
theorem dm_Re_reduce_63 : decode mm_Re_reduce.2.1 63 = .ok (.iaload, 1) := by decide +kernel
theorem dm_Re_reduce_64 : decode mm_Re_reduce.2.1 64 = .ok (.invokevirtual 32, 3) := by decide +kernel
theorem dm_Re_reduce_67 : decode mm_Re_reduce.2.1 67 = .ok (.iinc 4 1, 3) := by decide +kernel
theorem dm_Re_reduce_70 : decode mm_Re_reduce.2.1 70 = .ok (.goto (-61), 3) := by decide +kernel
theorem dm_Re_reduce_73 : decode mm_Re_reduce.2.1 73 = .ok (.return_, 1) := by decide +kernel
theorem dm_Re_closed_0 : decode mm_Re_closed.2.1 0 = .ok (.iload_n 1, 1) := by decide +kernel
theorem dm_Re_closed_1 : decode mm_Re_closed.2.1 1 = .ok (.istore 5, 2) := by decide +kernel
theorem dm_Re_closed_3 : decode mm_Re_closed.2.1 3 = .ok (.iload 5, 2) := by decide +kernel
theorem dm_Re_closed_5 : decode mm_Re_closed.2.1 5 = .ok (.iload_n 2, 1) := by decide +kernel
theorem dm_Re_closed_6 : decode mm_Re_closed.2.1 6 = .ok (.if_icmp .ge 120, 3) := by decide +kernel
theorem dm_Re_closed_9 : decode mm_Re_closed.2.1 9 = .ok (.aload_n 0, 1) := by decide +kernel
theorem dm_Re_closed_10 : decode mm_Re_closed.2.1 10 = .ok (.getfield 7, 3) := by decide +kernel
theorem dm_Re_closed_13 : decode mm_Re_closed.2.1 13 = .ok (.iload 5, 2) := by decide +kernel
theorem dm_Re_closed_15 : decode mm_Re_closed.2.1 15 = .ok (.iaload, 1) := by decide +kernel
theorem dm_Re_closed_16 : decode mm_Re_closed.2.1 16 = .ok (.istore 6, 2) := by decide +kernel
theorem dm_Re_closed_18 : decode mm_Re_closed.2.1 18 = .ok (.iload 6, 2) := by decide +kernel
theorem dm_Re_closed_20 : decode mm_Re_closed.2.1 20 = .ok (.bipush 10, 2) := by decide +kernel
theorem dm_Re_closed_22 : decode mm_Re_closed.2.1 22 = .ok (.if_icmp .ne 5, 3) := by decide +kernel
theorem dm_Re_closed_25 : decode mm_Re_closed.2.1 25 = .ok (.iconst 0, 1) := by decide +kernel
theorem dm_Re_closed_26 : decode mm_Re_closed.2.1 26 = .ok (.ireturn, 1) := by decide +kernel
theorem dm_Re_closed_27 : decode mm_Re_closed.2.1 27 = .ok (.iload 6, 2) := by decide +kernel
theorem dm_Re_closed_29 : decode mm_Re_closed.2.1 29 = .ok (.bipush 11, 2) := by decide +kernel
theorem dm_Re_closed_31 : decode mm_Re_closed.2.1 31 = .ok (.if_icmp .ne 10, 3) := by decide +kernel
theorem dm_Re_closed_34 : decode mm_Re_closed.2.1 34 = .ok (.iload 5, 2) := by decide +kernel
theorem dm_Re_closed_36 : decode mm_Re_closed.2.1 36 = .ok (.iconst 2, 1) := by decide +kernel
theorem dm_Re_closed_37 : decode mm_Re_closed.2.1 37 = .ok (.iadd, 1) := by decide +kernel
theorem dm_Re_closed_38 : decode mm_Re_closed.2.1 38 = .ok (.goto 7, 3) := by decide +kernel
theorem dm_Re_closed_41 : decode mm_Re_closed.2.1 41 = .ok (.iload 5, 2) := by decide +kernel
theorem dm_Re_closed_43 : decode mm_Re_closed.2.1 43 = .ok (.iconst 1, 1) := by decide +kernel
theorem dm_Re_closed_44 : decode mm_Re_closed.2.1 44 = .ok (.iadd, 1) := by decide +kernel
theorem dm_Re_closed_45 : decode mm_Re_closed.2.1 45 = .ok (.istore 7, 2) := by decide +kernel
theorem dm_Re_closed_47 : decode mm_Re_closed.2.1 47 = .ok (.iload 6, 2) := by decide +kernel
theorem dm_Re_closed_49 : decode mm_Re_closed.2.1 49 = .ok (.bipush 11, 2) := by decide +kernel
theorem dm_Re_closed_51 : decode mm_Re_closed.2.1 51 = .ok (.if_icmp .eq 10, 3) := by decide +kernel
theorem dm_Re_closed_54 : decode mm_Re_closed.2.1 54 = .ok (.iload 6, 2) := by decide +kernel
theorem dm_Re_closed_56 : decode mm_Re_closed.2.1 56 = .ok (.bipush 13, 2) := by decide +kernel
theorem dm_Re_closed_58 : decode mm_Re_closed.2.1 58 = .ok (.if_icmp .ne 12, 3) := by decide +kernel
theorem dm_Re_closed_61 : decode mm_Re_closed.2.1 61 = .ok (.aload_n 0, 1) := by decide +kernel
theorem dm_Re_closed_62 : decode mm_Re_closed.2.1 62 = .ok (.iload 7, 2) := by decide +kernel
theorem dm_Re_closed_64 : decode mm_Re_closed.2.1 64 = .ok (.invokevirtual 36, 3) := by decide +kernel
theorem dm_Re_closed_67 : decode mm_Re_closed.2.1 67 = .ok (.goto 7, 3) := by decide +kernel
theorem dm_Re_closed_70 : decode mm_Re_closed.2.1 70 = .ok (.iload 5, 2) := by decide +kernel
theorem dm_Re_closed_72 : decode mm_Re_closed.2.1 72 = .ok (.iconst 1, 1) := by decide +kernel
theorem dm_Re_closed_73 : decode mm_Re_closed.2.1 73 = .ok (.iadd, 1) := by decide +kernel
theorem dm_Re_closed_74 : decode mm_Re_closed.2.1 74 = .ok (.istore 5, 2) := by decide +kernel
theorem dm_Re_closed_76 : decode mm_Re_closed.2.1 76 = .ok (.iload 7, 2) := by decide +kernel
theorem dm_Re_closed_78 : decode mm_Re_closed.2.1 78 = .ok (.istore 8, 2) := by decide +kernel
theorem dm_Re_closed_80 : decode mm_Re_closed.2.1 80 = .ok (.iload 8, 2) := by decide +kernel
theorem dm_Re_closed_82 : decode mm_Re_closed.2.1 82 = .ok (.iload 5, 2) := by decide +kernel
theorem dm_Re_closed_84 : decode mm_Re_closed.2.1 84 = .ok (.if_icmp .ge 39, 3) := by decide +kernel
theorem dm_Re_closed_87 : decode mm_Re_closed.2.1 87 = .ok (.aload_n 0, 1) := by decide +kernel
theorem dm_Re_closed_88 : decode mm_Re_closed.2.1 88 = .ok (.getfield 7, 3) := by decide +kernel
theorem dm_Re_closed_91 : decode mm_Re_closed.2.1 91 = .ok (.iload 8, 2) := by decide +kernel
theorem dm_Re_closed_93 : decode mm_Re_closed.2.1 93 = .ok (.iaload, 1) := by decide +kernel
theorem dm_Re_closed_94 : decode mm_Re_closed.2.1 94 = .ok (.iconst 2, 1) := by decide +kernel
theorem dm_Re_closed_95 : decode mm_Re_closed.2.1 95 = .ok (.if_icmp .lt 22, 3) := by decide +kernel
theorem dm_Re_closed_98 : decode mm_Re_closed.2.1 98 = .ok (.aload_n 0, 1) := by decide +kernel
theorem dm_Re_closed_99 : decode mm_Re_closed.2.1 99 = .ok (.aload_n 0, 1) := by decide +kernel
theorem dm_Re_closed_100 : decode mm_Re_closed.2.1 100 = .ok (.getfield 7, 3) := by decide +kernel
theorem dm_Re_closed_103 : decode mm_Re_closed.2.1 103 = .ok (.iload 8, 2) := by decide +kernel
theorem dm_Re_closed_105 : decode mm_Re_closed.2.1 105 = .ok (.iaload, 1) := by decide +kernel
theorem dm_Re_closed_106 : decode mm_Re_closed.2.1 106 = .ok (.iload_n 3, 1) := by decide +kernel
theorem dm_Re_closed_107 : decode mm_Re_closed.2.1 107 = .ok (.iload 4, 2) := by decide +kernel
theorem dm_Re_closed_109 : decode mm_Re_closed.2.1 109 = .ok (.invokevirtual 155, 3) := by decide +kernel
theorem dm_Re_closed_112 : decode mm_Re_closed.2.1 112 = .ok (.ifCond .ne 5, 3) := by decide +kernel
theorem dm_Re_closed_115 : decode mm_Re_closed.2.1 115 = .ok (.iconst 0, 1) := by decide +kernel
theorem dm_Re_closed_116 : decode mm_Re_closed.2.1 116 = .ok (.ireturn, 1) := by decide +kernel
theorem dm_Re_closed_117 : decode mm_Re_closed.2.1 117 = .ok (.iinc 8 1, 3) := by decide +kernel
theorem dm_Re_closed_120 : decode mm_Re_closed.2.1 120 = .ok (.goto (-40), 3) := by decide +kernel
theorem dm_Re_closed_123 : decode mm_Re_closed.2.1 123 = .ok (.goto (-120), 3) := by decide +kernel
theorem dm_Re_closed_126 : decode mm_Re_closed.2.1 126 = .ok (.iconst 1, 1) := by decide +kernel
theorem dm_Re_closed_127 : decode mm_Re_closed.2.1 127 = .ok (.ireturn, 1) := by decide +kernel
theorem dm_Re_occurs_0 : decode mm_Re_occurs.2.1 0 = .ok (.iconst 0, 1) := by decide +kernel
theorem dm_Re_occurs_1 : decode mm_Re_occurs.2.1 1 = .ok (.istore 4, 2) := by decide +kernel
theorem dm_Re_occurs_3 : decode mm_Re_occurs.2.1 3 = .ok (.iload_n 2, 1) := by decide +kernel
theorem dm_Re_occurs_4 : decode mm_Re_occurs.2.1 4 = .ok (.istore 5, 2) := by decide +kernel
theorem dm_Re_occurs_6 : decode mm_Re_occurs.2.1 6 = .ok (.iload 5, 2) := by decide +kernel
theorem dm_Re_occurs_8 : decode mm_Re_occurs.2.1 8 = .ok (.iload_n 3, 1) := by decide +kernel
theorem dm_Re_occurs_9 : decode mm_Re_occurs.2.1 9 = .ok (.if_icmp .ge 32, 3) := by decide +kernel
theorem dm_Re_occurs_12 : decode mm_Re_occurs.2.1 12 = .ok (.iload 4, 2) := by decide +kernel
theorem dm_Re_occurs_14 : decode mm_Re_occurs.2.1 14 = .ok (.ifCond .ne 14, 3) := by decide +kernel
theorem dm_Re_occurs_17 : decode mm_Re_occurs.2.1 17 = .ok (.aload_n 0, 1) := by decide +kernel
theorem dm_Re_occurs_18 : decode mm_Re_occurs.2.1 18 = .ok (.getfield 7, 3) := by decide +kernel
theorem dm_Re_occurs_21 : decode mm_Re_occurs.2.1 21 = .ok (.iload 5, 2) := by decide +kernel
theorem dm_Re_occurs_23 : decode mm_Re_occurs.2.1 23 = .ok (.iaload, 1) := by decide +kernel
theorem dm_Re_occurs_24 : decode mm_Re_occurs.2.1 24 = .ok (.iload_n 1, 1) := by decide +kernel
theorem dm_Re_occurs_25 : decode mm_Re_occurs.2.1 25 = .ok (.if_icmp .ne 7, 3) := by decide +kernel
theorem dm_Re_occurs_28 : decode mm_Re_occurs.2.1 28 = .ok (.iconst 1, 1) := by decide +kernel
theorem dm_Re_occurs_29 : decode mm_Re_occurs.2.1 29 = .ok (.goto 4, 3) := by decide +kernel
theorem dm_Re_occurs_32 : decode mm_Re_occurs.2.1 32 = .ok (.iconst 0, 1) := by decide +kernel
theorem dm_Re_occurs_33 : decode mm_Re_occurs.2.1 33 = .ok (.istore 4, 2) := by decide +kernel
theorem dm_Re_occurs_35 : decode mm_Re_occurs.2.1 35 = .ok (.iinc 5 1, 3) := by decide +kernel
theorem dm_Re_occurs_38 : decode mm_Re_occurs.2.1 38 = .ok (.goto (-32), 3) := by decide +kernel
theorem dm_Re_occurs_41 : decode mm_Re_occurs.2.1 41 = .ok (.iload 4, 2) := by decide +kernel
theorem dm_Re_occurs_43 : decode mm_Re_occurs.2.1 43 = .ok (.ireturn, 1) := by decide +kernel
theorem dm_Re_join_0 : decode mm_Re_join.2.1 0 = .ok (.aload_n 0, 1) := by decide +kernel
theorem dm_Re_join_1 : decode mm_Re_join.2.1 1 = .ok (.iconst 0, 1) := by decide +kernel
theorem dm_Re_join_2 : decode mm_Re_join.2.1 2 = .ok (.invokevirtual 85, 3) := by decide +kernel
theorem dm_Re_join_5 : decode mm_Re_join.2.1 5 = .ok (.iconst 2, 1) := by decide +kernel
theorem dm_Re_join_6 : decode mm_Re_join.2.1 6 = .ok (.if_icmp .ne 12, 3) := by decide +kernel
theorem dm_Re_join_9 : decode mm_Re_join.2.1 9 = .ok (.aload_n 0, 1) := by decide +kernel
theorem dm_Re_join_10 : decode mm_Re_join.2.1 10 = .ok (.iconst 1, 1) := by decide +kernel
theorem dm_Re_join_11 : decode mm_Re_join.2.1 11 = .ok (.invokevirtual 85, 3) := by decide +kernel
theorem dm_Re_join_14 : decode mm_Re_join.2.1 14 = .ok (.iconst 2, 1) := by decide +kernel
theorem dm_Re_join_15 : decode mm_Re_join.2.1 15 = .ok (.if_icmp .eq 5, 3) := by decide +kernel
theorem dm_Re_join_18 : decode mm_Re_join.2.1 18 = .ok (.iconst 1, 1) := by decide +kernel
theorem dm_Re_join_19 : decode mm_Re_join.2.1 19 = .ok (.ireturn, 1) := by decide +kernel
theorem dm_Re_join_20 : decode mm_Re_join.2.1 20 = .ok (.iload_n 1, 1) := by decide +kernel
theorem dm_Re_join_21 : decode mm_Re_join.2.1 21 = .ok (.ifCond .lt 8, 3) := by decide +kernel
theorem dm_Re_join_24 : decode mm_Re_join.2.1 24 = .ok (.iload_n 1, 1) := by decide +kernel
theorem dm_Re_join_25 : decode mm_Re_join.2.1 25 = .ok (.iconst 2, 1) := by decide +kernel
theorem dm_Re_join_26 : decode mm_Re_join.2.1 26 = .ok (.if_icmp .le 5, 3) := by decide +kernel
theorem dm_Re_join_29 : decode mm_Re_join.2.1 29 = .ok (.iconst 2, 1) := by decide +kernel
theorem dm_Re_join_30 : decode mm_Re_join.2.1 30 = .ok (.ireturn, 1) := by decide +kernel
theorem dm_Re_join_31 : decode mm_Re_join.2.1 31 = .ok (.aload_n 0, 1) := by decide +kernel
theorem dm_Re_join_32 : decode mm_Re_join.2.1 32 = .ok (.invokevirtual 88, 3) := by decide +kernel
theorem dm_Re_join_35 : decode mm_Re_join.2.1 35 = .ok (.aload_n 0, 1) := by decide +kernel
theorem dm_Re_join_36 : decode mm_Re_join.2.1 36 = .ok (.iconst 1, 1) := by decide +kernel
theorem dm_Re_join_37 : decode mm_Re_join.2.1 37 = .ok (.invokevirtual 94, 3) := by decide +kernel
theorem dm_Re_join_40 : decode mm_Re_join.2.1 40 = .ok (.istore_n 2, 1) := by decide +kernel
theorem dm_Re_join_41 : decode mm_Re_join.2.1 41 = .ok (.aload_n 0, 1) := by decide +kernel
theorem dm_Re_join_42 : decode mm_Re_join.2.1 42 = .ok (.iconst 1, 1) := by decide +kernel
theorem dm_Re_join_43 : decode mm_Re_join.2.1 43 = .ok (.invokevirtual 97, 3) := by decide +kernel
theorem dm_Re_join_46 : decode mm_Re_join.2.1 46 = .ok (.istore_n 3, 1) := by decide +kernel
theorem dm_Re_join_47 : decode mm_Re_join.2.1 47 = .ok (.aload_n 0, 1) := by decide +kernel
theorem dm_Re_join_48 : decode mm_Re_join.2.1 48 = .ok (.iconst 0, 1) := by decide +kernel
theorem dm_Re_join_49 : decode mm_Re_join.2.1 49 = .ok (.invokevirtual 94, 3) := by decide +kernel
theorem dm_Re_join_52 : decode mm_Re_join.2.1 52 = .ok (.istore 4, 2) := by decide +kernel
theorem dm_Re_join_54 : decode mm_Re_join.2.1 54 = .ok (.aload_n 0, 1) := by decide +kernel
theorem dm_Re_join_55 : decode mm_Re_join.2.1 55 = .ok (.iconst 0, 1) := by decide +kernel
theorem dm_Re_join_56 : decode mm_Re_join.2.1 56 = .ok (.invokevirtual 97, 3) := by decide +kernel
theorem dm_Re_join_59 : decode mm_Re_join.2.1 59 = .ok (.istore 5, 2) := by decide +kernel
theorem dm_Re_join_61 : decode mm_Re_join.2.1 61 = .ok (.iload_n 1, 1) := by decide +kernel
theorem dm_Re_join_62 : decode mm_Re_join.2.1 62 = .ok (.iconst 2, 1) := by decide +kernel
theorem dm_Re_join_63 : decode mm_Re_join.2.1 63 = .ok (.if_icmp .ne 72, 3) := by decide +kernel
theorem dm_Re_join_66 : decode mm_Re_join.2.1 66 = .ok (.aload_n 0, 1) := by decide +kernel
theorem dm_Re_join_67 : decode mm_Re_join.2.1 67 = .ok (.aload_n 0, 1) := by decide +kernel
theorem dm_Re_join_68 : decode mm_Re_join.2.1 68 = .ok (.getfield 79, 3) := by decide +kernel
theorem dm_Re_join_71 : decode mm_Re_join.2.1 71 = .ok (.iconst 2, 1) := by decide +kernel
theorem dm_Re_join_72 : decode mm_Re_join.2.1 72 = .ok (.isub, 1) := by decide +kernel
theorem dm_Re_join_73 : decode mm_Re_join.2.1 73 = .ok (.iload 4, 2) := by decide +kernel
theorem dm_Re_join_75 : decode mm_Re_join.2.1 75 = .ok (.iload 5, 2) := by decide +kernel
theorem dm_Re_join_77 : decode mm_Re_join.2.1 77 = .ok (.invokevirtual 158, 3) := by decide +kernel
theorem dm_Re_join_80 : decode mm_Re_join.2.1 80 = .ok (.aload_n 0, 1) := by decide +kernel
theorem dm_Re_join_81 : decode mm_Re_join.2.1 81 = .ok (.aload_n 0, 1) := by decide +kernel
theorem dm_Re_join_82 : decode mm_Re_join.2.1 82 = .ok (.getfield 79, 3) := by decide +kernel
theorem dm_Re_join_85 : decode mm_Re_join.2.1 85 = .ok (.iconst 1, 1) := by decide +kernel
theorem dm_Re_join_86 : decode mm_Re_join.2.1 86 = .ok (.isub, 1) := by decide +kernel
theorem dm_Re_join_87 : decode mm_Re_join.2.1 87 = .ok (.iload_n 2, 1) := by decide +kernel
theorem dm_Re_join_88 : decode mm_Re_join.2.1 88 = .ok (.iload_n 3, 1) := by decide +kernel
theorem dm_Re_join_89 : decode mm_Re_join.2.1 89 = .ok (.invokevirtual 158, 3) := by decide +kernel
theorem dm_Re_join_92 : decode mm_Re_join.2.1 92 = .ok (.aload_n 0, 1) := by decide +kernel
theorem dm_Re_join_93 : decode mm_Re_join.2.1 93 = .ok (.iconst 1, 1) := by decide +kernel
theorem dm_Re_join_94 : decode mm_Re_join.2.1 94 = .ok (.invokevirtual 32, 3) := by decide +kernel
theorem dm_Re_join_97 : decode mm_Re_join.2.1 97 = .ok (.aload_n 0, 1) := by decide +kernel
theorem dm_Re_join_98 : decode mm_Re_join.2.1 98 = .ok (.sipush 5200, 3) := by decide +kernel
theorem dm_Re_join_101 : decode mm_Re_join.2.1 101 = .ok (.sipush 5201, 3) := by decide +kernel
theorem dm_Re_join_104 : decode mm_Re_join.2.1 104 = .ok (.invokevirtual 143, 3) := by decide +kernel
theorem dm_Re_join_107 : decode mm_Re_join.2.1 107 = .ok (.aload_n 0, 1) := by decide +kernel
theorem dm_Re_join_108 : decode mm_Re_join.2.1 108 = .ok (.iload_n 2, 1) := by decide +kernel
theorem dm_Re_join_109 : decode mm_Re_join.2.1 109 = .ok (.iload_n 3, 1) := by decide +kernel
theorem dm_Re_join_110 : decode mm_Re_join.2.1 110 = .ok (.invokevirtual 43, 3) := by decide +kernel
theorem dm_Re_join_113 : decode mm_Re_join.2.1 113 = .ok (.aload_n 0, 1) := by decide +kernel
theorem dm_Re_join_114 : decode mm_Re_join.2.1 114 = .ok (.iload 4, 2) := by decide +kernel
theorem dm_Re_join_116 : decode mm_Re_join.2.1 116 = .ok (.iload 5, 2) := by decide +kernel
theorem dm_Re_join_118 : decode mm_Re_join.2.1 118 = .ok (.invokevirtual 43, 3) := by decide +kernel
theorem dm_Re_join_121 : decode mm_Re_join.2.1 121 = .ok (.aload_n 0, 1) := by decide +kernel
theorem dm_Re_join_122 : decode mm_Re_join.2.1 122 = .ok (.iconst 0, 1) := by decide +kernel
theorem dm_Re_join_123 : decode mm_Re_join.2.1 123 = .ok (.sipush 5201, 3) := by decide +kernel
theorem dm_Re_join_126 : decode mm_Re_join.2.1 126 = .ok (.invokevirtual 66, 3) := by decide +kernel
theorem dm_Re_join_129 : decode mm_Re_join.2.1 129 = .ok (.aload_n 0, 1) := by decide +kernel
theorem dm_Re_join_130 : decode mm_Re_join.2.1 130 = .ok (.iconst 2, 1) := by decide +kernel
theorem dm_Re_join_131 : decode mm_Re_join.2.1 131 = .ok (.invokevirtual 91, 3) := by decide +kernel
theorem dm_Re_join_134 : decode mm_Re_join.2.1 134 = .ok (.ireturn, 1) := by decide +kernel
theorem dm_Re_join_135 : decode mm_Re_join.2.1 135 = .ok (.aload_n 0, 1) := by decide +kernel
theorem dm_Re_join_136 : decode mm_Re_join.2.1 136 = .ok (.iload_n 2, 1) := by decide +kernel
theorem dm_Re_join_137 : decode mm_Re_join.2.1 137 = .ok (.invokevirtual 162, 3) := by decide +kernel
theorem dm_Re_join_140 : decode mm_Re_join.2.1 140 = .ok (.ifCond .eq 17, 3) := by decide +kernel
theorem dm_Re_join_143 : decode mm_Re_join.2.1 143 = .ok (.iload_n 1, 1) := by decide +kernel
theorem dm_Re_join_144 : decode mm_Re_join.2.1 144 = .ok (.iconst 1, 1) := by decide +kernel
theorem dm_Re_join_145 : decode mm_Re_join.2.1 145 = .ok (.if_icmp .ne 14, 3) := by decide +kernel
theorem dm_Re_join_148 : decode mm_Re_join.2.1 148 = .ok (.aload_n 0, 1) := by decide +kernel
theorem dm_Re_join_149 : decode mm_Re_join.2.1 149 = .ok (.iload 4, 2) := by decide +kernel
theorem dm_Re_join_151 : decode mm_Re_join.2.1 151 = .ok (.invokevirtual 162, 3) := by decide +kernel
theorem dm_Re_join_154 : decode mm_Re_join.2.1 154 = .ok (.ifCond .ne 5, 3) := by decide +kernel
theorem dm_Re_join_157 : decode mm_Re_join.2.1 157 = .ok (.iconst 2, 1) := by decide +kernel
theorem dm_Re_join_158 : decode mm_Re_join.2.1 158 = .ok (.ireturn, 1) := by decide +kernel
theorem dm_Re_join_159 : decode mm_Re_join.2.1 159 = .ok (.aload_n 0, 1) := by decide +kernel
theorem dm_Re_join_160 : decode mm_Re_join.2.1 160 = .ok (.iload_n 2, 1) := by decide +kernel
theorem dm_Re_join_161 : decode mm_Re_join.2.1 161 = .ok (.invokevirtual 165, 3) := by decide +kernel
theorem dm_Re_join_164 : decode mm_Re_join.2.1 164 = .ok (.istore 6, 2) := by decide +kernel
theorem dm_Re_join_166 : decode mm_Re_join.2.1 166 = .ok (.aload_n 0, 1) := by decide +kernel
theorem dm_Re_join_167 : decode mm_Re_join.2.1 167 = .ok (.iload 6, 2) := by decide +kernel
theorem dm_Re_join_169 : decode mm_Re_join.2.1 169 = .ok (.invokevirtual 40, 3) := by decide +kernel
theorem dm_Re_join_172 : decode mm_Re_join.2.1 172 = .ok (.istore 7, 2) := by decide +kernel
theorem dm_Re_join_174 : decode mm_Re_join.2.1 174 = .ok (.iload_n 1, 1) := by decide +kernel
theorem dm_Re_join_175 : decode mm_Re_join.2.1 175 = .ok (.ifCond .ne 20, 3) := by decide +kernel
theorem dm_Re_join_178 : decode mm_Re_join.2.1 178 = .ok (.aload_n 0, 1) := by decide +kernel
theorem dm_Re_join_179 : decode mm_Re_join.2.1 179 = .ok (.iload 6, 2) := by decide +kernel
theorem dm_Re_join_181 : decode mm_Re_join.2.1 181 = .ok (.iload 7, 2) := by decide +kernel
theorem dm_Re_join_183 : decode mm_Re_join.2.1 183 = .ok (.iload 4, 2) := by decide +kernel
theorem dm_Re_join_185 : decode mm_Re_join.2.1 185 = .ok (.iload 5, 2) := by decide +kernel
theorem dm_Re_join_187 : decode mm_Re_join.2.1 187 = .ok (.invokevirtual 69, 3) := by decide +kernel
theorem dm_Re_join_190 : decode mm_Re_join.2.1 190 = .ok (.ifCond .ne 5, 3) := by decide +kernel
theorem dm_Re_join_193 : decode mm_Re_join.2.1 193 = .ok (.iconst 2, 1) := by decide +kernel
theorem dm_Re_join_194 : decode mm_Re_join.2.1 194 = .ok (.ireturn, 1) := by decide +kernel
theorem dm_Re_join_195 : decode mm_Re_join.2.1 195 = .ok (.iload_n 1, 1) := by decide +kernel
theorem dm_Re_join_196 : decode mm_Re_join.2.1 196 = .ok (.iconst 1, 1) := by decide +kernel
theorem dm_Re_join_197 : decode mm_Re_join.2.1 197 = .ok (.if_icmp .ne 20, 3) := by decide +kernel
theorem dm_Re_join_200 : decode mm_Re_join.2.1 200 = .ok (.aload_n 0, 1) := by decide +kernel
theorem dm_Re_join_201 : decode mm_Re_join.2.1 201 = .ok (.iload 6, 2) := by decide +kernel
theorem dm_Re_join_203 : decode mm_Re_join.2.1 203 = .ok (.aload_n 0, 1) := by decide +kernel
theorem dm_Re_join_204 : decode mm_Re_join.2.1 204 = .ok (.iload 4, 2) := by decide +kernel
theorem dm_Re_join_206 : decode mm_Re_join.2.1 206 = .ok (.invokevirtual 165, 3) := by decide +kernel
theorem dm_Re_join_209 : decode mm_Re_join.2.1 209 = .ok (.invokevirtual 115, 3) := by decide +kernel
theorem dm_Re_join_212 : decode mm_Re_join.2.1 212 = .ok (.ifCond .ne 5, 3) := by decide +kernel
theorem dm_Re_join_215 : decode mm_Re_join.2.1 215 = .ok (.iconst 2, 1) := by decide +kernel
theorem dm_Re_join_216 : decode mm_Re_join.2.1 216 = .ok (.ireturn, 1) := by decide +kernel
theorem dm_Re_join_217 : decode mm_Re_join.2.1 217 = .ok (.aload_n 0, 1) := by decide +kernel
theorem dm_Re_join_218 : decode mm_Re_join.2.1 218 = .ok (.getfield 28, 3) := by decide +kernel
theorem dm_Re_join_221 : decode mm_Re_join.2.1 221 = .ok (.istore 8, 2) := by decide +kernel
theorem dm_Re_join_223 : decode mm_Re_join.2.1 223 = .ok (.iload_n 1, 1) := by decide +kernel
theorem dm_Re_join_224 : decode mm_Re_join.2.1 224 = .ok (.ifCond .ne 13, 3) := by decide +kernel
theorem dm_Re_join_227 : decode mm_Re_join.2.1 227 = .ok (.aload_n 0, 1) := by decide +kernel
theorem dm_Re_join_228 : decode mm_Re_join.2.1 228 = .ok (.iload 7, 2) := by decide +kernel
theorem dm_Re_join_230 : decode mm_Re_join.2.1 230 = .ok (.iload_n 3, 1) := by decide +kernel
theorem dm_Re_join_231 : decode mm_Re_join.2.1 231 = .ok (.invokevirtual 43, 3) := by decide +kernel
theorem dm_Re_join_234 : decode mm_Re_join.2.1 234 = .ok (.goto 20, 3) := by decide +kernel
theorem dm_Re_join_237 : decode mm_Re_join.2.1 237 = .ok (.aload_n 0, 1) := by decide +kernel
theorem dm_Re_join_238 : decode mm_Re_join.2.1 238 = .ok (.iload 6, 2) := by decide +kernel
theorem dm_Re_join_240 : decode mm_Re_join.2.1 240 = .ok (.iload 7, 2) := by decide +kernel
theorem dm_Re_join_242 : decode mm_Re_join.2.1 242 = .ok (.iload_n 3, 1) := by decide +kernel
theorem dm_Re_join_243 : decode mm_Re_join.2.1 243 = .ok (.aload_n 0, 1) := by decide +kernel
theorem dm_Re_join_244 : decode mm_Re_join.2.1 244 = .ok (.iload 4, 2) := by decide +kernel
theorem dm_Re_join_246 : decode mm_Re_join.2.1 246 = .ok (.invokevirtual 165, 3) := by decide +kernel
theorem dm_Re_join_249 : decode mm_Re_join.2.1 249 = .ok (.iload 5, 2) := by decide +kernel
theorem dm_Re_join_251 : decode mm_Re_join.2.1 251 = .ok (.invokevirtual 168, 3) := by decide +kernel
theorem dm_Re_join_254 : decode mm_Re_join.2.1 254 = .ok (.aload_n 0, 1) := by decide +kernel
theorem dm_Re_join_255 : decode mm_Re_join.2.1 255 = .ok (.iconst 0, 1) := by decide +kernel
theorem dm_Re_join_256 : decode mm_Re_join.2.1 256 = .ok (.iload 8, 2) := by decide +kernel
theorem dm_Re_join_258 : decode mm_Re_join.2.1 258 = .ok (.invokevirtual 66, 3) := by decide +kernel
theorem dm_Re_join_261 : decode mm_Re_join.2.1 261 = .ok (.aload_n 0, 1) := by decide +kernel
theorem dm_Re_join_262 : decode mm_Re_join.2.1 262 = .ok (.iload 8, 2) := by decide +kernel
theorem dm_Re_join_264 : decode mm_Re_join.2.1 264 = .ok (.putfield 28, 3) := by decide +kernel
theorem dm_Re_join_267 : decode mm_Re_join.2.1 267 = .ok (.aload_n 0, 1) := by decide +kernel
theorem dm_Re_join_268 : decode mm_Re_join.2.1 268 = .ok (.aload_n 0, 1) := by decide +kernel
theorem dm_Re_join_269 : decode mm_Re_join.2.1 269 = .ok (.getfield 79, 3) := by decide +kernel
theorem dm_Re_join_272 : decode mm_Re_join.2.1 272 = .ok (.iconst 2, 1) := by decide +kernel
theorem dm_Re_join_273 : decode mm_Re_join.2.1 273 = .ok (.isub, 1) := by decide +kernel
theorem dm_Re_join_274 : decode mm_Re_join.2.1 274 = .ok (.iconst 0, 1) := by decide +kernel
theorem dm_Re_join_275 : decode mm_Re_join.2.1 275 = .ok (.iconst 0, 1) := by decide +kernel
theorem dm_Re_join_276 : decode mm_Re_join.2.1 276 = .ok (.invokevirtual 158, 3) := by decide +kernel
theorem dm_Re_join_279 : decode mm_Re_join.2.1 279 = .ok (.aload_n 0, 1) := by decide +kernel
theorem dm_Re_join_280 : decode mm_Re_join.2.1 280 = .ok (.aload_n 0, 1) := by decide +kernel
theorem dm_Re_join_281 : decode mm_Re_join.2.1 281 = .ok (.getfield 79, 3) := by decide +kernel
theorem dm_Re_join_284 : decode mm_Re_join.2.1 284 = .ok (.iconst 1, 1) := by decide +kernel
theorem dm_Re_join_285 : decode mm_Re_join.2.1 285 = .ok (.isub, 1) := by decide +kernel
theorem dm_Re_join_286 : decode mm_Re_join.2.1 286 = .ok (.iconst 0, 1) := by decide +kernel
theorem dm_Re_join_287 : decode mm_Re_join.2.1 287 = .ok (.iconst 0, 1) := by decide +kernel
theorem dm_Re_join_288 : decode mm_Re_join.2.1 288 = .ok (.invokevirtual 158, 3) := by decide +kernel
theorem dm_Re_join_291 : decode mm_Re_join.2.1 291 = .ok (.aload_n 0, 1) := by decide +kernel
theorem dm_Re_join_292 : decode mm_Re_join.2.1 292 = .ok (.iconst 2, 1) := by decide +kernel
theorem dm_Re_join_293 : decode mm_Re_join.2.1 293 = .ok (.invokevirtual 91, 3) := by decide +kernel
theorem dm_Re_join_296 : decode mm_Re_join.2.1 296 = .ok (.ireturn, 1) := by decide +kernel
theorem dm_Re_applied_0 : decode mm_Re_applied.2.1 0 = .ok (.aload_n 0, 1) := by decide +kernel
theorem dm_Re_applied_1 : decode mm_Re_applied.2.1 1 = .ok (.iload 4, 2) := by decide +kernel
theorem dm_Re_applied_3 : decode mm_Re_applied.2.1 3 = .ok (.invokevirtual 40, 3) := by decide +kernel
theorem dm_Re_applied_6 : decode mm_Re_applied.2.1 6 = .ok (.istore 6, 2) := by decide +kernel
theorem dm_Re_applied_8 : decode mm_Re_applied.2.1 8 = .ok (.aload_n 0, 1) := by decide +kernel
theorem dm_Re_applied_9 : decode mm_Re_applied.2.1 9 = .ok (.aload_n 0, 1) := by decide +kernel
theorem dm_Re_applied_10 : decode mm_Re_applied.2.1 10 = .ok (.getfield 109, 3) := by decide +kernel
theorem dm_Re_applied_13 : decode mm_Re_applied.2.1 13 = .ok (.aload_n 0, 1) := by decide +kernel
theorem dm_Re_applied_14 : decode mm_Re_applied.2.1 14 = .ok (.getfield 112, 3) := by decide +kernel
theorem dm_Re_applied_17 : decode mm_Re_applied.2.1 17 = .ok (.invokevirtual 143, 3) := by decide +kernel
theorem dm_Re_applied_20 : decode mm_Re_applied.2.1 20 = .ok (.aload_n 0, 1) := by decide +kernel
theorem dm_Re_applied_21 : decode mm_Re_applied.2.1 21 = .ok (.bipush 12, 2) := by decide +kernel
theorem dm_Re_applied_23 : decode mm_Re_applied.2.1 23 = .ok (.invokevirtual 32, 3) := by decide +kernel
theorem dm_Re_applied_26 : decode mm_Re_applied.2.1 26 = .ok (.aload_n 0, 1) := by decide +kernel
theorem dm_Re_applied_27 : decode mm_Re_applied.2.1 27 = .ok (.iload_n 1, 1) := by decide +kernel
theorem dm_Re_applied_28 : decode mm_Re_applied.2.1 28 = .ok (.iload_n 2, 1) := by decide +kernel
theorem dm_Re_applied_29 : decode mm_Re_applied.2.1 29 = .ok (.invokevirtual 43, 3) := by decide +kernel
theorem dm_Re_applied_32 : decode mm_Re_applied.2.1 32 = .ok (.aload_n 0, 1) := by decide +kernel
theorem dm_Re_applied_33 : decode mm_Re_applied.2.1 33 = .ok (.iload 4, 2) := by decide +kernel
theorem dm_Re_applied_35 : decode mm_Re_applied.2.1 35 = .ok (.iload 6, 2) := by decide +kernel
theorem dm_Re_applied_37 : decode mm_Re_applied.2.1 37 = .ok (.invokevirtual 43, 3) := by decide +kernel
theorem dm_Re_applied_40 : decode mm_Re_applied.2.1 40 = .ok (.aload_n 0, 1) := by decide +kernel
theorem dm_Re_applied_41 : decode mm_Re_applied.2.1 41 = .ok (.bipush 12, 2) := by decide +kernel
theorem dm_Re_applied_43 : decode mm_Re_applied.2.1 43 = .ok (.invokevirtual 32, 3) := by decide +kernel
theorem dm_Re_applied_46 : decode mm_Re_applied.2.1 46 = .ok (.aload_n 0, 1) := by decide +kernel
theorem dm_Re_applied_47 : decode mm_Re_applied.2.1 47 = .ok (.iload_n 2, 1) := by decide +kernel
theorem dm_Re_applied_48 : decode mm_Re_applied.2.1 48 = .ok (.iload_n 3, 1) := by decide +kernel
theorem dm_Re_applied_49 : decode mm_Re_applied.2.1 49 = .ok (.invokevirtual 43, 3) := by decide +kernel
theorem dm_Re_applied_52 : decode mm_Re_applied.2.1 52 = .ok (.aload_n 0, 1) := by decide +kernel
theorem dm_Re_applied_53 : decode mm_Re_applied.2.1 53 = .ok (.iload 6, 2) := by decide +kernel
theorem dm_Re_applied_55 : decode mm_Re_applied.2.1 55 = .ok (.iload 5, 2) := by decide +kernel
theorem dm_Re_applied_57 : decode mm_Re_applied.2.1 57 = .ok (.invokevirtual 43, 3) := by decide +kernel
theorem dm_Re_applied_60 : decode mm_Re_applied.2.1 60 = .ok (.return_, 1) := by decide +kernel
theorem dm_Re_free_0 : decode mm_Re_free.2.1 0 = .ok (.iload_n 3, 1) := by decide +kernel
theorem dm_Re_free_1 : decode mm_Re_free.2.1 1 = .ok (.istore 5, 2) := by decide +kernel
theorem dm_Re_free_3 : decode mm_Re_free.2.1 3 = .ok (.iload 5, 2) := by decide +kernel
theorem dm_Re_free_5 : decode mm_Re_free.2.1 5 = .ok (.iload 4, 2) := by decide +kernel
theorem dm_Re_free_7 : decode mm_Re_free.2.1 7 = .ok (.if_icmp .ge 22, 3) := by decide +kernel
theorem dm_Re_free_10 : decode mm_Re_free.2.1 10 = .ok (.aload_n 0, 1) := by decide +kernel
theorem dm_Re_free_11 : decode mm_Re_free.2.1 11 = .ok (.iload 5, 2) := by decide +kernel
theorem dm_Re_free_13 : decode mm_Re_free.2.1 13 = .ok (.iload_n 1, 1) := by decide +kernel
theorem dm_Re_free_14 : decode mm_Re_free.2.1 14 = .ok (.iload_n 2, 1) := by decide +kernel
theorem dm_Re_free_15 : decode mm_Re_free.2.1 15 = .ok (.invokevirtual 119, 3) := by decide +kernel
theorem dm_Re_free_18 : decode mm_Re_free.2.1 18 = .ok (.ifCond .eq 5, 3) := by decide +kernel
theorem dm_Re_free_21 : decode mm_Re_free.2.1 21 = .ok (.iconst 1, 1) := by decide +kernel
theorem dm_Re_free_22 : decode mm_Re_free.2.1 22 = .ok (.ireturn, 1) := by decide +kernel
theorem dm_Re_free_23 : decode mm_Re_free.2.1 23 = .ok (.iinc 5 1, 3) := by decide +kernel
theorem dm_Re_free_26 : decode mm_Re_free.2.1 26 = .ok (.goto (-23), 3) := by decide +kernel
theorem dm_Re_free_29 : decode mm_Re_free.2.1 29 = .ok (.iconst 0, 1) := by decide +kernel
theorem dm_Re_free_30 : decode mm_Re_free.2.1 30 = .ok (.ireturn, 1) := by decide +kernel
theorem dm_Re_absThm_0 : decode mm_Re_absThm.2.1 0 = .ok (.aload_n 0, 1) := by decide +kernel
theorem dm_Re_absThm_1 : decode mm_Re_absThm.2.1 1 = .ok (.iconst 1, 1) := by decide +kernel
theorem dm_Re_absThm_2 : decode mm_Re_absThm.2.1 2 = .ok (.invokevirtual 126, 3) := by decide +kernel
theorem dm_Re_absThm_5 : decode mm_Re_absThm.2.1 5 = .ok (.ifCond .eq 12, 3) := by decide +kernel
theorem dm_Re_absThm_8 : decode mm_Re_absThm.2.1 8 = .ok (.aload_n 0, 1) := by decide +kernel
theorem dm_Re_absThm_9 : decode mm_Re_absThm.2.1 9 = .ok (.iconst 0, 1) := by decide +kernel
theorem dm_Re_absThm_10 : decode mm_Re_absThm.2.1 10 = .ok (.invokevirtual 85, 3) := by decide +kernel
theorem dm_Re_absThm_13 : decode mm_Re_absThm.2.1 13 = .ok (.iconst 2, 1) := by decide +kernel
theorem dm_Re_absThm_14 : decode mm_Re_absThm.2.1 14 = .ok (.if_icmp .eq 5, 3) := by decide +kernel
theorem dm_Re_absThm_17 : decode mm_Re_absThm.2.1 17 = .ok (.iconst 1, 1) := by decide +kernel
theorem dm_Re_absThm_18 : decode mm_Re_absThm.2.1 18 = .ok (.ireturn, 1) := by decide +kernel
theorem dm_Re_absThm_19 : decode mm_Re_absThm.2.1 19 = .ok (.aload_n 0, 1) := by decide +kernel
theorem dm_Re_absThm_20 : decode mm_Re_absThm.2.1 20 = .ok (.iconst 1, 1) := by decide +kernel
theorem dm_Re_absThm_21 : decode mm_Re_absThm.2.1 21 = .ok (.invokevirtual 94, 3) := by decide +kernel
theorem dm_Re_absThm_24 : decode mm_Re_absThm.2.1 24 = .ok (.istore_n 1, 1) := by decide +kernel
theorem dm_Re_absThm_25 : decode mm_Re_absThm.2.1 25 = .ok (.aload_n 0, 1) := by decide +kernel
theorem dm_Re_absThm_26 : decode mm_Re_absThm.2.1 26 = .ok (.iconst 1, 1) := by decide +kernel
theorem dm_Re_absThm_27 : decode mm_Re_absThm.2.1 27 = .ok (.invokevirtual 97, 3) := by decide +kernel
theorem dm_Re_absThm_30 : decode mm_Re_absThm.2.1 30 = .ok (.istore_n 2, 1) := by decide +kernel
theorem dm_Re_absThm_31 : decode mm_Re_absThm.2.1 31 = .ok (.aload_n 0, 1) := by decide +kernel
theorem dm_Re_absThm_32 : decode mm_Re_absThm.2.1 32 = .ok (.iconst 0, 1) := by decide +kernel
theorem dm_Re_absThm_33 : decode mm_Re_absThm.2.1 33 = .ok (.invokevirtual 94, 3) := by decide +kernel
theorem dm_Re_absThm_36 : decode mm_Re_absThm.2.1 36 = .ok (.istore_n 3, 1) := by decide +kernel
theorem dm_Re_absThm_37 : decode mm_Re_absThm.2.1 37 = .ok (.aload_n 0, 1) := by decide +kernel
theorem dm_Re_absThm_38 : decode mm_Re_absThm.2.1 38 = .ok (.iload_n 3, 1) := by decide +kernel
theorem dm_Re_absThm_39 : decode mm_Re_absThm.2.1 39 = .ok (.invokevirtual 162, 3) := by decide +kernel
theorem dm_Re_absThm_42 : decode mm_Re_absThm.2.1 42 = .ok (.ifCond .ne 5, 3) := by decide +kernel
theorem dm_Re_absThm_45 : decode mm_Re_absThm.2.1 45 = .ok (.iconst 2, 1) := by decide +kernel
theorem dm_Re_absThm_46 : decode mm_Re_absThm.2.1 46 = .ok (.ireturn, 1) := by decide +kernel
theorem dm_Re_absThm_47 : decode mm_Re_absThm.2.1 47 = .ok (.aload_n 0, 1) := by decide +kernel
theorem dm_Re_absThm_48 : decode mm_Re_absThm.2.1 48 = .ok (.getfield 79, 3) := by decide +kernel
theorem dm_Re_absThm_51 : decode mm_Re_absThm.2.1 51 = .ok (.iconst 1, 1) := by decide +kernel
theorem dm_Re_absThm_52 : decode mm_Re_absThm.2.1 52 = .ok (.isub, 1) := by decide +kernel
theorem dm_Re_absThm_53 : decode mm_Re_absThm.2.1 53 = .ok (.istore 4, 2) := by decide +kernel
theorem dm_Re_absThm_55 : decode mm_Re_absThm.2.1 55 = .ok (.iconst 1, 1) := by decide +kernel
theorem dm_Re_absThm_56 : decode mm_Re_absThm.2.1 56 = .ok (.istore 5, 2) := by decide +kernel
theorem dm_Re_absThm_58 : decode mm_Re_absThm.2.1 58 = .ok (.iload 5, 2) := by decide +kernel
theorem dm_Re_absThm_60 : decode mm_Re_absThm.2.1 60 = .ok (.aload_n 0, 1) := by decide +kernel
theorem dm_Re_absThm_61 : decode mm_Re_absThm.2.1 61 = .ok (.getfield 19, 3) := by decide +kernel
theorem dm_Re_absThm_64 : decode mm_Re_absThm.2.1 64 = .ok (.iload 4, 2) := by decide +kernel
theorem dm_Re_absThm_66 : decode mm_Re_absThm.2.1 66 = .ok (.iaload, 1) := by decide +kernel
theorem dm_Re_absThm_67 : decode mm_Re_absThm.2.1 67 = .ok (.if_icmp .gt 47, 3) := by decide +kernel
theorem dm_Re_absThm_70 : decode mm_Re_absThm.2.1 70 = .ok (.aload_n 0, 1) := by decide +kernel
theorem dm_Re_absThm_71 : decode mm_Re_absThm.2.1 71 = .ok (.iload_n 1, 1) := by decide +kernel
theorem dm_Re_absThm_72 : decode mm_Re_absThm.2.1 72 = .ok (.iload_n 2, 1) := by decide +kernel
theorem dm_Re_absThm_73 : decode mm_Re_absThm.2.1 73 = .ok (.iload 4, 2) := by decide +kernel
theorem dm_Re_absThm_75 : decode mm_Re_absThm.2.1 75 = .ok (.iload 5, 2) := by decide +kernel
theorem dm_Re_absThm_77 : decode mm_Re_absThm.2.1 77 = .ok (.invokestatic 54, 3) := by decide +kernel
theorem dm_Re_absThm_80 : decode mm_Re_absThm.2.1 80 = .ok (.iload 4, 2) := by decide +kernel
theorem dm_Re_absThm_82 : decode mm_Re_absThm.2.1 82 = .ok (.iload 5, 2) := by decide +kernel
theorem dm_Re_absThm_84 : decode mm_Re_absThm.2.1 84 = .ok (.invokestatic 54, 3) := by decide +kernel
theorem dm_Re_absThm_87 : decode mm_Re_absThm.2.1 87 = .ok (.aload_n 0, 1) := by decide +kernel
theorem dm_Re_absThm_88 : decode mm_Re_absThm.2.1 88 = .ok (.getfield 13, 3) := by decide +kernel
theorem dm_Re_absThm_91 : decode mm_Re_absThm.2.1 91 = .ok (.iconst 4, 1) := by decide +kernel
theorem dm_Re_absThm_92 : decode mm_Re_absThm.2.1 92 = .ok (.iload 4, 2) := by decide +kernel
theorem dm_Re_absThm_94 : decode mm_Re_absThm.2.1 94 = .ok (.imul, 1) := by decide +kernel
theorem dm_Re_absThm_95 : decode mm_Re_absThm.2.1 95 = .ok (.iload 5, 2) := by decide +kernel
theorem dm_Re_absThm_97 : decode mm_Re_absThm.2.1 97 = .ok (.iadd, 1) := by decide +kernel
theorem dm_Re_absThm_98 : decode mm_Re_absThm.2.1 98 = .ok (.iaload, 1) := by decide +kernel
theorem dm_Re_absThm_99 : decode mm_Re_absThm.2.1 99 = .ok (.iadd, 1) := by decide +kernel
theorem dm_Re_absThm_100 : decode mm_Re_absThm.2.1 100 = .ok (.invokevirtual 172, 3) := by decide +kernel
theorem dm_Re_absThm_103 : decode mm_Re_absThm.2.1 103 = .ok (.ifCond .eq 5, 3) := by decide +kernel
theorem dm_Re_absThm_106 : decode mm_Re_absThm.2.1 106 = .ok (.iconst 3, 1) := by decide +kernel
theorem dm_Re_absThm_107 : decode mm_Re_absThm.2.1 107 = .ok (.ireturn, 1) := by decide +kernel
theorem dm_Re_absThm_108 : decode mm_Re_absThm.2.1 108 = .ok (.iinc 5 1, 3) := by decide +kernel
theorem dm_Re_absThm_111 : decode mm_Re_absThm.2.1 111 = .ok (.goto (-53), 3) := by decide +kernel
theorem dm_Re_absThm_114 : decode mm_Re_absThm.2.1 114 = .ok (.aload_n 0, 1) := by decide +kernel
theorem dm_Re_absThm_115 : decode mm_Re_absThm.2.1 115 = .ok (.invokevirtual 88, 3) := by decide +kernel
theorem dm_Re_absThm_118 : decode mm_Re_absThm.2.1 118 = .ok (.aload_n 0, 1) := by decide +kernel
theorem dm_Re_absThm_119 : decode mm_Re_absThm.2.1 119 = .ok (.iconst 0, 1) := by decide +kernel
theorem dm_Re_absThm_120 : decode mm_Re_absThm.2.1 120 = .ok (.invokevirtual 32, 3) := by decide +kernel
theorem dm_Re_absThm_123 : decode mm_Re_absThm.2.1 123 = .ok (.aload_n 0, 1) := by decide +kernel
theorem dm_Re_absThm_124 : decode mm_Re_absThm.2.1 124 = .ok (.iload_n 1, 1) := by decide +kernel
theorem dm_Re_absThm_125 : decode mm_Re_absThm.2.1 125 = .ok (.iconst 2, 1) := by decide +kernel
theorem dm_Re_absThm_126 : decode mm_Re_absThm.2.1 126 = .ok (.iadd, 1) := by decide +kernel
theorem dm_Re_absThm_127 : decode mm_Re_absThm.2.1 127 = .ok (.iload_n 2, 1) := by decide +kernel
theorem dm_Re_absThm_128 : decode mm_Re_absThm.2.1 128 = .ok (.invokevirtual 43, 3) := by decide +kernel
theorem dm_Re_absThm_131 : decode mm_Re_absThm.2.1 131 = .ok (.aload_n 0, 1) := by decide +kernel
theorem dm_Re_absThm_132 : decode mm_Re_absThm.2.1 132 = .ok (.iload_n 3, 1) := by decide +kernel
theorem dm_Re_absThm_133 : decode mm_Re_absThm.2.1 133 = .ok (.iconst 4, 1) := by decide +kernel
theorem dm_Re_absThm_134 : decode mm_Re_absThm.2.1 134 = .ok (.iadd, 1) := by decide +kernel
theorem dm_Re_absThm_135 : decode mm_Re_absThm.2.1 135 = .ok (.aload_n 0, 1) := by decide +kernel
theorem dm_Re_absThm_136 : decode mm_Re_absThm.2.1 136 = .ok (.iload_n 3, 1) := by decide +kernel
theorem dm_Re_absThm_137 : decode mm_Re_absThm.2.1 137 = .ok (.invokevirtual 165, 3) := by decide +kernel
theorem dm_Re_absThm_140 : decode mm_Re_absThm.2.1 140 = .ok (.invokevirtual 43, 3) := by decide +kernel
theorem dm_Re_absThm_143 : decode mm_Re_absThm.2.1 143 = .ok (.aload_n 0, 1) := by decide +kernel
theorem dm_Re_absThm_144 : decode mm_Re_absThm.2.1 144 = .ok (.getfield 28, 3) := by decide +kernel
theorem dm_Re_absThm_147 : decode mm_Re_absThm.2.1 147 = .ok (.istore 5, 2) := by decide +kernel
theorem dm_Re_absThm_149 : decode mm_Re_absThm.2.1 149 = .ok (.aload_n 0, 1) := by decide +kernel
theorem dm_Re_absThm_150 : decode mm_Re_absThm.2.1 150 = .ok (.iload_n 3, 1) := by decide +kernel
theorem dm_Re_absThm_151 : decode mm_Re_absThm.2.1 151 = .ok (.invokevirtual 165, 3) := by decide +kernel
theorem dm_Re_absThm_154 : decode mm_Re_absThm.2.1 154 = .ok (.istore 6, 2) := by decide +kernel
theorem dm_Re_absThm_156 : decode mm_Re_absThm.2.1 156 = .ok (.aload_n 0, 1) := by decide +kernel
theorem dm_Re_absThm_157 : decode mm_Re_absThm.2.1 157 = .ok (.iload 6, 2) := by decide +kernel
theorem dm_Re_absThm_159 : decode mm_Re_absThm.2.1 159 = .ok (.invokevirtual 40, 3) := by decide +kernel
theorem dm_Re_absThm_162 : decode mm_Re_absThm.2.1 162 = .ok (.istore 7, 2) := by decide +kernel
theorem dm_Re_absThm_164 : decode mm_Re_absThm.2.1 164 = .ok (.aload_n 0, 1) := by decide +kernel
theorem dm_Re_absThm_165 : decode mm_Re_absThm.2.1 165 = .ok (.sipush 5200, 3) := by decide +kernel
theorem dm_Re_absThm_168 : decode mm_Re_absThm.2.1 168 = .ok (.iload 5, 2) := by decide +kernel
theorem dm_Re_absThm_170 : decode mm_Re_absThm.2.1 170 = .ok (.invokevirtual 143, 3) := by decide +kernel
theorem dm_Re_absThm_173 : decode mm_Re_absThm.2.1 173 = .ok (.aload_n 0, 1) := by decide +kernel
theorem dm_Re_absThm_174 : decode mm_Re_absThm.2.1 174 = .ok (.iload_n 1, 1) := by decide +kernel
theorem dm_Re_absThm_175 : decode mm_Re_absThm.2.1 175 = .ok (.iload_n 2, 1) := by decide +kernel
theorem dm_Re_absThm_176 : decode mm_Re_absThm.2.1 176 = .ok (.iload 6, 2) := by decide +kernel
theorem dm_Re_absThm_178 : decode mm_Re_absThm.2.1 178 = .ok (.iload 7, 2) := by decide +kernel
theorem dm_Re_absThm_180 : decode mm_Re_absThm.2.1 180 = .ok (.invokevirtual 130, 3) := by decide +kernel
theorem dm_Re_absThm_183 : decode mm_Re_absThm.2.1 183 = .ok (.aload_n 0, 1) := by decide +kernel
theorem dm_Re_absThm_184 : decode mm_Re_absThm.2.1 184 = .ok (.iload_n 1, 1) := by decide +kernel
theorem dm_Re_absThm_185 : decode mm_Re_absThm.2.1 185 = .ok (.iload_n 2, 1) := by decide +kernel
theorem dm_Re_absThm_186 : decode mm_Re_absThm.2.1 186 = .ok (.iload 7, 2) := by decide +kernel
theorem dm_Re_absThm_188 : decode mm_Re_absThm.2.1 188 = .ok (.aload_n 0, 1) := by decide +kernel
theorem dm_Re_absThm_189 : decode mm_Re_absThm.2.1 189 = .ok (.iconst 0, 1) := by decide +kernel
theorem dm_Re_absThm_190 : decode mm_Re_absThm.2.1 190 = .ok (.invokevirtual 97, 3) := by decide +kernel
theorem dm_Re_absThm_193 : decode mm_Re_absThm.2.1 193 = .ok (.invokevirtual 130, 3) := by decide +kernel
theorem dm_Re_absThm_196 : decode mm_Re_absThm.2.1 196 = .ok (.aload_n 0, 1) := by decide +kernel
theorem dm_Re_absThm_197 : decode mm_Re_absThm.2.1 197 = .ok (.iconst 0, 1) := by decide +kernel
theorem dm_Re_absThm_198 : decode mm_Re_absThm.2.1 198 = .ok (.iload 5, 2) := by decide +kernel
theorem dm_Re_absThm_200 : decode mm_Re_absThm.2.1 200 = .ok (.invokevirtual 66, 3) := by decide +kernel
theorem dm_Re_absThm_203 : decode mm_Re_absThm.2.1 203 = .ok (.aload_n 0, 1) := by decide +kernel
theorem dm_Re_absThm_204 : decode mm_Re_absThm.2.1 204 = .ok (.iload 5, 2) := by decide +kernel
theorem dm_Re_absThm_206 : decode mm_Re_absThm.2.1 206 = .ok (.putfield 28, 3) := by decide +kernel
theorem dm_Re_absThm_209 : decode mm_Re_absThm.2.1 209 = .ok (.aload_n 0, 1) := by decide +kernel
theorem dm_Re_absThm_210 : decode mm_Re_absThm.2.1 210 = .ok (.iload 4, 2) := by decide +kernel
theorem dm_Re_absThm_212 : decode mm_Re_absThm.2.1 212 = .ok (.iconst 0, 1) := by decide +kernel
theorem dm_Re_absThm_213 : decode mm_Re_absThm.2.1 213 = .ok (.iconst 0, 1) := by decide +kernel
theorem dm_Re_absThm_214 : decode mm_Re_absThm.2.1 214 = .ok (.invokevirtual 158, 3) := by decide +kernel
theorem dm_Re_absThm_217 : decode mm_Re_absThm.2.1 217 = .ok (.aload_n 0, 1) := by decide +kernel
theorem dm_Re_absThm_218 : decode mm_Re_absThm.2.1 218 = .ok (.iconst 2, 1) := by decide +kernel
theorem dm_Re_absThm_219 : decode mm_Re_absThm.2.1 219 = .ok (.invokevirtual 91, 3) := by decide +kernel
theorem dm_Re_absThm_222 : decode mm_Re_absThm.2.1 222 = .ok (.ireturn, 1) := by decide +kernel
theorem dm_Re_replaced_0 : decode mm_Re_replaced.2.1 0 = .ok (.iload_n 1, 1) := by decide +kernel
theorem dm_Re_replaced_1 : decode mm_Re_replaced.2.1 1 = .ok (.istore 7, 2) := by decide +kernel
theorem dm_Re_replaced_3 : decode mm_Re_replaced.2.1 3 = .ok (.iload 7, 2) := by decide +kernel
theorem dm_Re_replaced_5 : decode mm_Re_replaced.2.1 5 = .ok (.iload_n 2, 1) := by decide +kernel
theorem dm_Re_replaced_6 : decode mm_Re_replaced.2.1 6 = .ok (.if_icmp .ge 52, 3) := by decide +kernel
theorem dm_Re_replaced_9 : decode mm_Re_replaced.2.1 9 = .ok (.aload_n 0, 1) := by decide +kernel
theorem dm_Re_replaced_10 : decode mm_Re_replaced.2.1 10 = .ok (.iload 7, 2) := by decide +kernel
theorem dm_Re_replaced_12 : decode mm_Re_replaced.2.1 12 = .ok (.iload_n 3, 1) := by decide +kernel
theorem dm_Re_replaced_13 : decode mm_Re_replaced.2.1 13 = .ok (.iload 4, 2) := by decide +kernel
theorem dm_Re_replaced_15 : decode mm_Re_replaced.2.1 15 = .ok (.invokevirtual 119, 3) := by decide +kernel
theorem dm_Re_replaced_18 : decode mm_Re_replaced.2.1 18 = .ok (.ifCond .eq 23, 3) := by decide +kernel
theorem dm_Re_replaced_21 : decode mm_Re_replaced.2.1 21 = .ok (.aload_n 0, 1) := by decide +kernel
theorem dm_Re_replaced_22 : decode mm_Re_replaced.2.1 22 = .ok (.iload 5, 2) := by decide +kernel
theorem dm_Re_replaced_24 : decode mm_Re_replaced.2.1 24 = .ok (.iload 6, 2) := by decide +kernel
theorem dm_Re_replaced_26 : decode mm_Re_replaced.2.1 26 = .ok (.invokevirtual 43, 3) := by decide +kernel
theorem dm_Re_replaced_29 : decode mm_Re_replaced.2.1 29 = .ok (.iload 7, 2) := by decide +kernel
theorem dm_Re_replaced_31 : decode mm_Re_replaced.2.1 31 = .ok (.iload 4, 2) := by decide +kernel
theorem dm_Re_replaced_33 : decode mm_Re_replaced.2.1 33 = .ok (.iload_n 3, 1) := by decide +kernel
theorem dm_Re_replaced_34 : decode mm_Re_replaced.2.1 34 = .ok (.isub, 1) := by decide +kernel
theorem dm_Re_replaced_35 : decode mm_Re_replaced.2.1 35 = .ok (.iadd, 1) := by decide +kernel
theorem dm_Re_replaced_36 : decode mm_Re_replaced.2.1 36 = .ok (.istore 7, 2) := by decide +kernel
theorem dm_Re_replaced_38 : decode mm_Re_replaced.2.1 38 = .ok (.goto (-35), 3) := by decide +kernel
theorem dm_Re_replaced_41 : decode mm_Re_replaced.2.1 41 = .ok (.aload_n 0, 1) := by decide +kernel
theorem dm_Re_replaced_42 : decode mm_Re_replaced.2.1 42 = .ok (.aload_n 0, 1) := by decide +kernel
theorem dm_Re_replaced_43 : decode mm_Re_replaced.2.1 43 = .ok (.getfield 7, 3) := by decide +kernel
theorem dm_Re_replaced_46 : decode mm_Re_replaced.2.1 46 = .ok (.iload 7, 2) := by decide +kernel
theorem dm_Re_replaced_48 : decode mm_Re_replaced.2.1 48 = .ok (.iaload, 1) := by decide +kernel
theorem dm_Re_replaced_49 : decode mm_Re_replaced.2.1 49 = .ok (.invokevirtual 32, 3) := by decide +kernel
theorem dm_Re_replaced_52 : decode mm_Re_replaced.2.1 52 = .ok (.iinc 7 1, 3) := by decide +kernel
theorem dm_Re_replaced_55 : decode mm_Re_replaced.2.1 55 = .ok (.goto (-52), 3) := by decide +kernel
theorem dm_Re_replaced_58 : decode mm_Re_replaced.2.1 58 = .ok (.return_, 1) := by decide +kernel
theorem dm_Re_inst_0 : decode mm_Re_inst.2.1 0 = .ok (.aload_n 0, 1) := by decide +kernel
theorem dm_Re_inst_1 : decode mm_Re_inst.2.1 1 = .ok (.iconst 2, 1) := by decide +kernel
theorem dm_Re_inst_2 : decode mm_Re_inst.2.1 2 = .ok (.invokevirtual 126, 3) := by decide +kernel
theorem dm_Re_inst_5 : decode mm_Re_inst.2.1 5 = .ok (.ifCond .eq 21, 3) := by decide +kernel
theorem dm_Re_inst_8 : decode mm_Re_inst.2.1 8 = .ok (.aload_n 0, 1) := by decide +kernel
theorem dm_Re_inst_9 : decode mm_Re_inst.2.1 9 = .ok (.iconst 1, 1) := by decide +kernel
theorem dm_Re_inst_10 : decode mm_Re_inst.2.1 10 = .ok (.invokevirtual 85, 3) := by decide +kernel
theorem dm_Re_inst_13 : decode mm_Re_inst.2.1 13 = .ok (.iconst 1, 1) := by decide +kernel
theorem dm_Re_inst_14 : decode mm_Re_inst.2.1 14 = .ok (.if_icmp .ne 12, 3) := by decide +kernel
theorem dm_Re_inst_17 : decode mm_Re_inst.2.1 17 = .ok (.aload_n 0, 1) := by decide +kernel
theorem dm_Re_inst_18 : decode mm_Re_inst.2.1 18 = .ok (.iconst 0, 1) := by decide +kernel
theorem dm_Re_inst_19 : decode mm_Re_inst.2.1 19 = .ok (.invokevirtual 85, 3) := by decide +kernel
theorem dm_Re_inst_22 : decode mm_Re_inst.2.1 22 = .ok (.iconst 2, 1) := by decide +kernel
theorem dm_Re_inst_23 : decode mm_Re_inst.2.1 23 = .ok (.if_icmp .eq 5, 3) := by decide +kernel
theorem dm_Re_inst_26 : decode mm_Re_inst.2.1 26 = .ok (.iconst 1, 1) := by decide +kernel
theorem dm_Re_inst_27 : decode mm_Re_inst.2.1 27 = .ok (.ireturn, 1) := by decide +kernel
theorem dm_Re_inst_28 : decode mm_Re_inst.2.1 28 = .ok (.aload_n 0, 1) := by decide +kernel
theorem dm_Re_inst_29 : decode mm_Re_inst.2.1 29 = .ok (.invokevirtual 88, 3) := by decide +kernel
theorem dm_Re_inst_32 : decode mm_Re_inst.2.1 32 = .ok (.aload_n 0, 1) := by decide +kernel
theorem dm_Re_inst_33 : decode mm_Re_inst.2.1 33 = .ok (.iconst 2, 1) := by decide +kernel
theorem dm_Re_inst_34 : decode mm_Re_inst.2.1 34 = .ok (.invokevirtual 94, 3) := by decide +kernel
theorem dm_Re_inst_37 : decode mm_Re_inst.2.1 37 = .ok (.istore_n 1, 1) := by decide +kernel
theorem dm_Re_inst_38 : decode mm_Re_inst.2.1 38 = .ok (.aload_n 0, 1) := by decide +kernel
theorem dm_Re_inst_39 : decode mm_Re_inst.2.1 39 = .ok (.iconst 2, 1) := by decide +kernel
theorem dm_Re_inst_40 : decode mm_Re_inst.2.1 40 = .ok (.invokevirtual 97, 3) := by decide +kernel
theorem dm_Re_inst_43 : decode mm_Re_inst.2.1 43 = .ok (.istore_n 2, 1) := by decide +kernel
theorem dm_Re_inst_44 : decode mm_Re_inst.2.1 44 = .ok (.aload_n 0, 1) := by decide +kernel
theorem dm_Re_inst_45 : decode mm_Re_inst.2.1 45 = .ok (.aload_n 0, 1) := by decide +kernel
theorem dm_Re_inst_46 : decode mm_Re_inst.2.1 46 = .ok (.iconst 1, 1) := by decide +kernel
theorem dm_Re_inst_47 : decode mm_Re_inst.2.1 47 = .ok (.invokevirtual 94, 3) := by decide +kernel
theorem dm_Re_inst_50 : decode mm_Re_inst.2.1 50 = .ok (.invokevirtual 106, 3) := by decide +kernel
theorem dm_Re_inst_53 : decode mm_Re_inst.2.1 53 = .ok (.istore_n 3, 1) := by decide +kernel
theorem dm_Re_inst_54 : decode mm_Re_inst.2.1 54 = .ok (.aload_n 0, 1) := by decide +kernel
theorem dm_Re_inst_55 : decode mm_Re_inst.2.1 55 = .ok (.iload_n 1, 1) := by decide +kernel
theorem dm_Re_inst_56 : decode mm_Re_inst.2.1 56 = .ok (.iconst 2, 1) := by decide +kernel
theorem dm_Re_inst_57 : decode mm_Re_inst.2.1 57 = .ok (.iadd, 1) := by decide +kernel
theorem dm_Re_inst_58 : decode mm_Re_inst.2.1 58 = .ok (.iload_n 2, 1) := by decide +kernel
theorem dm_Re_inst_59 : decode mm_Re_inst.2.1 59 = .ok (.iload_n 3, 1) := by decide +kernel
theorem dm_Re_inst_60 : decode mm_Re_inst.2.1 60 = .ok (.aload_n 0, 1) := by decide +kernel
theorem dm_Re_inst_61 : decode mm_Re_inst.2.1 61 = .ok (.getfield 28, 3) := by decide +kernel
theorem dm_Re_inst_64 : decode mm_Re_inst.2.1 64 = .ok (.invokevirtual 69, 3) := by decide +kernel
theorem dm_Re_inst_67 : decode mm_Re_inst.2.1 67 = .ok (.ifCond .ne 5, 3) := by decide +kernel
theorem dm_Re_inst_70 : decode mm_Re_inst.2.1 70 = .ok (.iconst 2, 1) := by decide +kernel
theorem dm_Re_inst_71 : decode mm_Re_inst.2.1 71 = .ok (.ireturn, 1) := by decide +kernel
theorem dm_Re_inst_72 : decode mm_Re_inst.2.1 72 = .ok (.aload_n 0, 1) := by decide +kernel
theorem dm_Re_inst_73 : decode mm_Re_inst.2.1 73 = .ok (.getfield 79, 3) := by decide +kernel
theorem dm_Re_inst_76 : decode mm_Re_inst.2.1 76 = .ok (.iconst 1, 1) := by decide +kernel
theorem dm_Re_inst_77 : decode mm_Re_inst.2.1 77 = .ok (.isub, 1) := by decide +kernel
theorem dm_Re_inst_78 : decode mm_Re_inst.2.1 78 = .ok (.istore 4, 2) := by decide +kernel
theorem dm_Re_inst_80 : decode mm_Re_inst.2.1 80 = .ok (.iconst 0, 1) := by decide +kernel
theorem dm_Re_inst_81 : decode mm_Re_inst.2.1 81 = .ok (.istore 5, 2) := by decide +kernel
theorem dm_Re_inst_83 : decode mm_Re_inst.2.1 83 = .ok (.iload 5, 2) := by decide +kernel
theorem dm_Re_inst_85 : decode mm_Re_inst.2.1 85 = .ok (.aload_n 0, 1) := by decide +kernel
theorem dm_Re_inst_86 : decode mm_Re_inst.2.1 86 = .ok (.getfield 19, 3) := by decide +kernel
theorem dm_Re_inst_89 : decode mm_Re_inst.2.1 89 = .ok (.iload 4, 2) := by decide +kernel
theorem dm_Re_inst_91 : decode mm_Re_inst.2.1 91 = .ok (.iaload, 1) := by decide +kernel
theorem dm_Re_inst_92 : decode mm_Re_inst.2.1 92 = .ok (.if_icmp .gt 84, 3) := by decide +kernel
theorem dm_Re_inst_95 : decode mm_Re_inst.2.1 95 = .ok (.aload_n 0, 1) := by decide +kernel
theorem dm_Re_inst_96 : decode mm_Re_inst.2.1 96 = .ok (.getfield 28, 3) := by decide +kernel
theorem dm_Re_inst_99 : decode mm_Re_inst.2.1 99 = .ok (.istore 6, 2) := by decide +kernel
theorem dm_Re_inst_101 : decode mm_Re_inst.2.1 101 = .ok (.iload 4, 2) := by decide +kernel
theorem dm_Re_inst_103 : decode mm_Re_inst.2.1 103 = .ok (.iload 5, 2) := by decide +kernel
theorem dm_Re_inst_105 : decode mm_Re_inst.2.1 105 = .ok (.invokestatic 54, 3) := by decide +kernel
theorem dm_Re_inst_108 : decode mm_Re_inst.2.1 108 = .ok (.istore 7, 2) := by decide +kernel
theorem dm_Re_inst_110 : decode mm_Re_inst.2.1 110 = .ok (.aload_n 0, 1) := by decide +kernel
theorem dm_Re_inst_111 : decode mm_Re_inst.2.1 111 = .ok (.iload 7, 2) := by decide +kernel
theorem dm_Re_inst_113 : decode mm_Re_inst.2.1 113 = .ok (.iload 7, 2) := by decide +kernel
theorem dm_Re_inst_115 : decode mm_Re_inst.2.1 115 = .ok (.aload_n 0, 1) := by decide +kernel
theorem dm_Re_inst_116 : decode mm_Re_inst.2.1 116 = .ok (.getfield 13, 3) := by decide +kernel
theorem dm_Re_inst_119 : decode mm_Re_inst.2.1 119 = .ok (.iconst 4, 1) := by decide +kernel
theorem dm_Re_inst_120 : decode mm_Re_inst.2.1 120 = .ok (.iload 4, 2) := by decide +kernel
theorem dm_Re_inst_122 : decode mm_Re_inst.2.1 122 = .ok (.imul, 1) := by decide +kernel
theorem dm_Re_inst_123 : decode mm_Re_inst.2.1 123 = .ok (.iload 5, 2) := by decide +kernel
theorem dm_Re_inst_125 : decode mm_Re_inst.2.1 125 = .ok (.iadd, 1) := by decide +kernel
theorem dm_Re_inst_126 : decode mm_Re_inst.2.1 126 = .ok (.iaload, 1) := by decide +kernel
theorem dm_Re_inst_127 : decode mm_Re_inst.2.1 127 = .ok (.iadd, 1) := by decide +kernel
theorem dm_Re_inst_128 : decode mm_Re_inst.2.1 128 = .ok (.iload_n 1, 1) := by decide +kernel
theorem dm_Re_inst_129 : decode mm_Re_inst.2.1 129 = .ok (.iload_n 2, 1) := by decide +kernel
theorem dm_Re_inst_130 : decode mm_Re_inst.2.1 130 = .ok (.aload_n 0, 1) := by decide +kernel
theorem dm_Re_inst_131 : decode mm_Re_inst.2.1 131 = .ok (.iconst 1, 1) := by decide +kernel
theorem dm_Re_inst_132 : decode mm_Re_inst.2.1 132 = .ok (.invokevirtual 94, 3) := by decide +kernel
theorem dm_Re_inst_135 : decode mm_Re_inst.2.1 135 = .ok (.aload_n 0, 1) := by decide +kernel
theorem dm_Re_inst_136 : decode mm_Re_inst.2.1 136 = .ok (.iconst 1, 1) := by decide +kernel
end
section
theorem dm_Re_inst_137 : decode mm_Re_inst.2.1 137 = .ok (.invokevirtual 97, 3) := by decide +kernel
theorem dm_Re_inst_140 : decode mm_Re_inst.2.1 140 = .ok (.invokevirtual 175, 3) := by decide +kernel
theorem dm_Re_inst_143 : decode mm_Re_inst.2.1 143 = .ok (.iload 5, 2) := by decide +kernel
theorem dm_Re_inst_145 : decode mm_Re_inst.2.1 145 = .ok (.ifCond .ne 13, 3) := by decide +kernel
theorem dm_Re_inst_148 : decode mm_Re_inst.2.1 148 = .ok (.aload_n 0, 1) := by decide +kernel
theorem dm_Re_inst_149 : decode mm_Re_inst.2.1 149 = .ok (.iconst 0, 1) := by decide +kernel
theorem dm_Re_inst_150 : decode mm_Re_inst.2.1 150 = .ok (.iload 6, 2) := by decide +kernel
theorem dm_Re_inst_152 : decode mm_Re_inst.2.1 152 = .ok (.invokevirtual 66, 3) := by decide +kernel
theorem dm_Re_inst_155 : decode mm_Re_inst.2.1 155 = .ok (.goto 9, 3) := by decide +kernel
theorem dm_Re_inst_158 : decode mm_Re_inst.2.1 158 = .ok (.aload_n 0, 1) := by decide +kernel
theorem dm_Re_inst_159 : decode mm_Re_inst.2.1 159 = .ok (.iload 6, 2) := by decide +kernel
theorem dm_Re_inst_161 : decode mm_Re_inst.2.1 161 = .ok (.invokevirtual 73, 3) := by decide +kernel
theorem dm_Re_inst_164 : decode mm_Re_inst.2.1 164 = .ok (.aload_n 0, 1) := by decide +kernel
theorem dm_Re_inst_165 : decode mm_Re_inst.2.1 165 = .ok (.iload 6, 2) := by decide +kernel
theorem dm_Re_inst_167 : decode mm_Re_inst.2.1 167 = .ok (.putfield 28, 3) := by decide +kernel
theorem dm_Re_inst_170 : decode mm_Re_inst.2.1 170 = .ok (.iinc 5 1, 3) := by decide +kernel
theorem dm_Re_inst_173 : decode mm_Re_inst.2.1 173 = .ok (.goto (-90), 3) := by decide +kernel
theorem dm_Re_inst_176 : decode mm_Re_inst.2.1 176 = .ok (.aload_n 0, 1) := by decide +kernel
theorem dm_Re_inst_177 : decode mm_Re_inst.2.1 177 = .ok (.iconst 3, 1) := by decide +kernel
theorem dm_Re_inst_178 : decode mm_Re_inst.2.1 178 = .ok (.invokevirtual 91, 3) := by decide +kernel
theorem dm_Re_inst_181 : decode mm_Re_inst.2.1 181 = .ok (.ireturn, 1) := by decide +kernel
theorem dm_Re_retyped_0 : decode mm_Re_retyped.2.1 0 = .ok (.iload_n 1, 1) := by decide +kernel
theorem dm_Re_retyped_1 : decode mm_Re_retyped.2.1 1 = .ok (.istore 6, 2) := by decide +kernel
theorem dm_Re_retyped_3 : decode mm_Re_retyped.2.1 3 = .ok (.iload 6, 2) := by decide +kernel
theorem dm_Re_retyped_5 : decode mm_Re_retyped.2.1 5 = .ok (.iload_n 2, 1) := by decide +kernel
theorem dm_Re_retyped_6 : decode mm_Re_retyped.2.1 6 = .ok (.if_icmp .ge 138, 3) := by decide +kernel
theorem dm_Re_retyped_9 : decode mm_Re_retyped.2.1 9 = .ok (.aload_n 0, 1) := by decide +kernel
theorem dm_Re_retyped_10 : decode mm_Re_retyped.2.1 10 = .ok (.getfield 7, 3) := by decide +kernel
theorem dm_Re_retyped_13 : decode mm_Re_retyped.2.1 13 = .ok (.iload 6, 2) := by decide +kernel
theorem dm_Re_retyped_15 : decode mm_Re_retyped.2.1 15 = .ok (.iaload, 1) := by decide +kernel
theorem dm_Re_retyped_16 : decode mm_Re_retyped.2.1 16 = .ok (.istore 7, 2) := by decide +kernel
theorem dm_Re_retyped_18 : decode mm_Re_retyped.2.1 18 = .ok (.iload 7, 2) := by decide +kernel
theorem dm_Re_retyped_20 : decode mm_Re_retyped.2.1 20 = .ok (.bipush 10, 2) := by decide +kernel
theorem dm_Re_retyped_22 : decode mm_Re_retyped.2.1 22 = .ok (.if_icmp .eq 10, 3) := by decide +kernel
theorem dm_Re_retyped_25 : decode mm_Re_retyped.2.1 25 = .ok (.iload 7, 2) := by decide +kernel
theorem dm_Re_retyped_27 : decode mm_Re_retyped.2.1 27 = .ok (.bipush 11, 2) := by decide +kernel
theorem dm_Re_retyped_29 : decode mm_Re_retyped.2.1 29 = .ok (.if_icmp .ne 10, 3) := by decide +kernel
theorem dm_Re_retyped_32 : decode mm_Re_retyped.2.1 32 = .ok (.iload 6, 2) := by decide +kernel
theorem dm_Re_retyped_34 : decode mm_Re_retyped.2.1 34 = .ok (.iconst 2, 1) := by decide +kernel
theorem dm_Re_retyped_35 : decode mm_Re_retyped.2.1 35 = .ok (.iadd, 1) := by decide +kernel
theorem dm_Re_retyped_36 : decode mm_Re_retyped.2.1 36 = .ok (.goto 7, 3) := by decide +kernel
theorem dm_Re_retyped_39 : decode mm_Re_retyped.2.1 39 = .ok (.iload 6, 2) := by decide +kernel
theorem dm_Re_retyped_41 : decode mm_Re_retyped.2.1 41 = .ok (.iconst 1, 1) := by decide +kernel
theorem dm_Re_retyped_42 : decode mm_Re_retyped.2.1 42 = .ok (.iadd, 1) := by decide +kernel
theorem dm_Re_retyped_43 : decode mm_Re_retyped.2.1 43 = .ok (.istore 8, 2) := by decide +kernel
theorem dm_Re_retyped_45 : decode mm_Re_retyped.2.1 45 = .ok (.iload 7, 2) := by decide +kernel
theorem dm_Re_retyped_47 : decode mm_Re_retyped.2.1 47 = .ok (.bipush 10, 2) := by decide +kernel
theorem dm_Re_retyped_49 : decode mm_Re_retyped.2.1 49 = .ok (.if_icmp .eq 17, 3) := by decide +kernel
theorem dm_Re_retyped_52 : decode mm_Re_retyped.2.1 52 = .ok (.iload 7, 2) := by decide +kernel
theorem dm_Re_retyped_54 : decode mm_Re_retyped.2.1 54 = .ok (.bipush 11, 2) := by decide +kernel
theorem dm_Re_retyped_56 : decode mm_Re_retyped.2.1 56 = .ok (.if_icmp .eq 10, 3) := by decide +kernel
theorem dm_Re_retyped_59 : decode mm_Re_retyped.2.1 59 = .ok (.iload 7, 2) := by decide +kernel
theorem dm_Re_retyped_61 : decode mm_Re_retyped.2.1 61 = .ok (.bipush 13, 2) := by decide +kernel
theorem dm_Re_retyped_63 : decode mm_Re_retyped.2.1 63 = .ok (.if_icmp .ne 12, 3) := by decide +kernel
theorem dm_Re_retyped_66 : decode mm_Re_retyped.2.1 66 = .ok (.aload_n 0, 1) := by decide +kernel
theorem dm_Re_retyped_67 : decode mm_Re_retyped.2.1 67 = .ok (.iload 8, 2) := by decide +kernel
theorem dm_Re_retyped_69 : decode mm_Re_retyped.2.1 69 = .ok (.invokevirtual 36, 3) := by decide +kernel
theorem dm_Re_retyped_72 : decode mm_Re_retyped.2.1 72 = .ok (.goto 5, 3) := by decide +kernel
theorem dm_Re_retyped_75 : decode mm_Re_retyped.2.1 75 = .ok (.iload 8, 2) := by decide +kernel
theorem dm_Re_retyped_77 : decode mm_Re_retyped.2.1 77 = .ok (.istore 9, 2) := by decide +kernel
theorem dm_Re_retyped_79 : decode mm_Re_retyped.2.1 79 = .ok (.aload_n 0, 1) := by decide +kernel
theorem dm_Re_retyped_80 : decode mm_Re_retyped.2.1 80 = .ok (.iload 6, 2) := by decide +kernel
theorem dm_Re_retyped_82 : decode mm_Re_retyped.2.1 82 = .ok (.iload 8, 2) := by decide +kernel
theorem dm_Re_retyped_84 : decode mm_Re_retyped.2.1 84 = .ok (.invokevirtual 43, 3) := by decide +kernel
theorem dm_Re_retyped_87 : decode mm_Re_retyped.2.1 87 = .ok (.iload 8, 2) := by decide +kernel
theorem dm_Re_retyped_89 : decode mm_Re_retyped.2.1 89 = .ok (.istore 10, 2) := by decide +kernel
theorem dm_Re_retyped_91 : decode mm_Re_retyped.2.1 91 = .ok (.iload 10, 2) := by decide +kernel
theorem dm_Re_retyped_93 : decode mm_Re_retyped.2.1 93 = .ok (.iload 9, 2) := by decide +kernel
theorem dm_Re_retyped_95 : decode mm_Re_retyped.2.1 95 = .ok (.if_icmp .ge 42, 3) := by decide +kernel
theorem dm_Re_retyped_98 : decode mm_Re_retyped.2.1 98 = .ok (.aload_n 0, 1) := by decide +kernel
theorem dm_Re_retyped_99 : decode mm_Re_retyped.2.1 99 = .ok (.getfield 7, 3) := by decide +kernel
theorem dm_Re_retyped_102 : decode mm_Re_retyped.2.1 102 = .ok (.iload 10, 2) := by decide +kernel
theorem dm_Re_retyped_104 : decode mm_Re_retyped.2.1 104 = .ok (.iaload, 1) := by decide +kernel
theorem dm_Re_retyped_105 : decode mm_Re_retyped.2.1 105 = .ok (.iload_n 3, 1) := by decide +kernel
theorem dm_Re_retyped_106 : decode mm_Re_retyped.2.1 106 = .ok (.if_icmp .ne 14, 3) := by decide +kernel
theorem dm_Re_retyped_109 : decode mm_Re_retyped.2.1 109 = .ok (.aload_n 0, 1) := by decide +kernel
theorem dm_Re_retyped_110 : decode mm_Re_retyped.2.1 110 = .ok (.iload 4, 2) := by decide +kernel
theorem dm_Re_retyped_112 : decode mm_Re_retyped.2.1 112 = .ok (.iload 5, 2) := by decide +kernel
theorem dm_Re_retyped_114 : decode mm_Re_retyped.2.1 114 = .ok (.invokevirtual 43, 3) := by decide +kernel
theorem dm_Re_retyped_117 : decode mm_Re_retyped.2.1 117 = .ok (.goto 14, 3) := by decide +kernel
theorem dm_Re_retyped_120 : decode mm_Re_retyped.2.1 120 = .ok (.aload_n 0, 1) := by decide +kernel
theorem dm_Re_retyped_121 : decode mm_Re_retyped.2.1 121 = .ok (.aload_n 0, 1) := by decide +kernel
theorem dm_Re_retyped_122 : decode mm_Re_retyped.2.1 122 = .ok (.getfield 7, 3) := by decide +kernel
theorem dm_Re_retyped_125 : decode mm_Re_retyped.2.1 125 = .ok (.iload 10, 2) := by decide +kernel
theorem dm_Re_retyped_127 : decode mm_Re_retyped.2.1 127 = .ok (.iaload, 1) := by decide +kernel
theorem dm_Re_retyped_128 : decode mm_Re_retyped.2.1 128 = .ok (.invokevirtual 32, 3) := by decide +kernel
theorem dm_Re_retyped_131 : decode mm_Re_retyped.2.1 131 = .ok (.iinc 10 1, 3) := by decide +kernel
theorem dm_Re_retyped_134 : decode mm_Re_retyped.2.1 134 = .ok (.goto (-43), 3) := by decide +kernel
theorem dm_Re_retyped_137 : decode mm_Re_retyped.2.1 137 = .ok (.iload 9, 2) := by decide +kernel
theorem dm_Re_retyped_139 : decode mm_Re_retyped.2.1 139 = .ok (.istore 6, 2) := by decide +kernel
theorem dm_Re_retyped_141 : decode mm_Re_retyped.2.1 141 = .ok (.goto (-138), 3) := by decide +kernel
theorem dm_Re_retyped_144 : decode mm_Re_retyped.2.1 144 = .ok (.return_, 1) := by decide +kernel
theorem dm_Re_instType_0 : decode mm_Re_instType.2.1 0 = .ok (.aload_n 0, 1) := by decide +kernel
theorem dm_Re_instType_1 : decode mm_Re_instType.2.1 1 = .ok (.iconst 1, 1) := by decide +kernel
theorem dm_Re_instType_2 : decode mm_Re_instType.2.1 2 = .ok (.invokevirtual 85, 3) := by decide +kernel
theorem dm_Re_instType_5 : decode mm_Re_instType.2.1 5 = .ok (.ifCond .ne 12, 3) := by decide +kernel
theorem dm_Re_instType_8 : decode mm_Re_instType.2.1 8 = .ok (.aload_n 0, 1) := by decide +kernel
theorem dm_Re_instType_9 : decode mm_Re_instType.2.1 9 = .ok (.iconst 0, 1) := by decide +kernel
theorem dm_Re_instType_10 : decode mm_Re_instType.2.1 10 = .ok (.invokevirtual 85, 3) := by decide +kernel
theorem dm_Re_instType_13 : decode mm_Re_instType.2.1 13 = .ok (.iconst 2, 1) := by decide +kernel
theorem dm_Re_instType_14 : decode mm_Re_instType.2.1 14 = .ok (.if_icmp .eq 5, 3) := by decide +kernel
theorem dm_Re_instType_17 : decode mm_Re_instType.2.1 17 = .ok (.iconst 1, 1) := by decide +kernel
theorem dm_Re_instType_18 : decode mm_Re_instType.2.1 18 = .ok (.ireturn, 1) := by decide +kernel
theorem dm_Re_instType_19 : decode mm_Re_instType.2.1 19 = .ok (.iload_n 1, 1) := by decide +kernel
theorem dm_Re_instType_20 : decode mm_Re_instType.2.1 20 = .ok (.ifCond .lt 8, 3) := by decide +kernel
theorem dm_Re_instType_23 : decode mm_Re_instType.2.1 23 = .ok (.iload_n 1, 1) := by decide +kernel
theorem dm_Re_instType_24 : decode mm_Re_instType.2.1 24 = .ok (.iconst 3, 1) := by decide +kernel
theorem dm_Re_instType_25 : decode mm_Re_instType.2.1 25 = .ok (.if_icmp .le 5, 3) := by decide +kernel
theorem dm_Re_instType_28 : decode mm_Re_instType.2.1 28 = .ok (.iconst 2, 1) := by decide +kernel
theorem dm_Re_instType_29 : decode mm_Re_instType.2.1 29 = .ok (.ireturn, 1) := by decide +kernel
theorem dm_Re_instType_30 : decode mm_Re_instType.2.1 30 = .ok (.aload_n 0, 1) := by decide +kernel
theorem dm_Re_instType_31 : decode mm_Re_instType.2.1 31 = .ok (.invokevirtual 88, 3) := by decide +kernel
theorem dm_Re_instType_34 : decode mm_Re_instType.2.1 34 = .ok (.aload_n 0, 1) := by decide +kernel
theorem dm_Re_instType_35 : decode mm_Re_instType.2.1 35 = .ok (.getfield 79, 3) := by decide +kernel
theorem dm_Re_instType_38 : decode mm_Re_instType.2.1 38 = .ok (.iconst 1, 1) := by decide +kernel
theorem dm_Re_instType_39 : decode mm_Re_instType.2.1 39 = .ok (.isub, 1) := by decide +kernel
theorem dm_Re_instType_40 : decode mm_Re_instType.2.1 40 = .ok (.istore_n 2, 1) := by decide +kernel
theorem dm_Re_instType_41 : decode mm_Re_instType.2.1 41 = .ok (.iconst 0, 1) := by decide +kernel
theorem dm_Re_instType_42 : decode mm_Re_instType.2.1 42 = .ok (.istore_n 3, 1) := by decide +kernel
theorem dm_Re_instType_43 : decode mm_Re_instType.2.1 43 = .ok (.iload_n 3, 1) := by decide +kernel
theorem dm_Re_instType_44 : decode mm_Re_instType.2.1 44 = .ok (.aload_n 0, 1) := by decide +kernel
theorem dm_Re_instType_45 : decode mm_Re_instType.2.1 45 = .ok (.getfield 19, 3) := by decide +kernel
theorem dm_Re_instType_48 : decode mm_Re_instType.2.1 48 = .ok (.iload_n 2, 1) := by decide +kernel
theorem dm_Re_instType_49 : decode mm_Re_instType.2.1 49 = .ok (.iaload, 1) := by decide +kernel
theorem dm_Re_instType_50 : decode mm_Re_instType.2.1 50 = .ok (.if_icmp .gt 80, 3) := by decide +kernel
theorem dm_Re_instType_53 : decode mm_Re_instType.2.1 53 = .ok (.aload_n 0, 1) := by decide +kernel
theorem dm_Re_instType_54 : decode mm_Re_instType.2.1 54 = .ok (.getfield 28, 3) := by decide +kernel
theorem dm_Re_instType_57 : decode mm_Re_instType.2.1 57 = .ok (.istore 4, 2) := by decide +kernel
theorem dm_Re_instType_59 : decode mm_Re_instType.2.1 59 = .ok (.iload_n 2, 1) := by decide +kernel
theorem dm_Re_instType_60 : decode mm_Re_instType.2.1 60 = .ok (.iload_n 3, 1) := by decide +kernel
theorem dm_Re_instType_61 : decode mm_Re_instType.2.1 61 = .ok (.invokestatic 54, 3) := by decide +kernel
theorem dm_Re_instType_64 : decode mm_Re_instType.2.1 64 = .ok (.istore 5, 2) := by decide +kernel
theorem dm_Re_instType_66 : decode mm_Re_instType.2.1 66 = .ok (.aload_n 0, 1) := by decide +kernel
theorem dm_Re_instType_67 : decode mm_Re_instType.2.1 67 = .ok (.iload 5, 2) := by decide +kernel
theorem dm_Re_instType_69 : decode mm_Re_instType.2.1 69 = .ok (.iload 5, 2) := by decide +kernel
theorem dm_Re_instType_71 : decode mm_Re_instType.2.1 71 = .ok (.aload_n 0, 1) := by decide +kernel
theorem dm_Re_instType_72 : decode mm_Re_instType.2.1 72 = .ok (.getfield 13, 3) := by decide +kernel
theorem dm_Re_instType_75 : decode mm_Re_instType.2.1 75 = .ok (.iconst 4, 1) := by decide +kernel
theorem dm_Re_instType_76 : decode mm_Re_instType.2.1 76 = .ok (.iload_n 2, 1) := by decide +kernel
theorem dm_Re_instType_77 : decode mm_Re_instType.2.1 77 = .ok (.imul, 1) := by decide +kernel
theorem dm_Re_instType_78 : decode mm_Re_instType.2.1 78 = .ok (.iload_n 3, 1) := by decide +kernel
theorem dm_Re_instType_79 : decode mm_Re_instType.2.1 79 = .ok (.iadd, 1) := by decide +kernel
theorem dm_Re_instType_80 : decode mm_Re_instType.2.1 80 = .ok (.iaload, 1) := by decide +kernel
theorem dm_Re_instType_81 : decode mm_Re_instType.2.1 81 = .ok (.iadd, 1) := by decide +kernel
theorem dm_Re_instType_82 : decode mm_Re_instType.2.1 82 = .ok (.iconst 2, 1) := by decide +kernel
theorem dm_Re_instType_83 : decode mm_Re_instType.2.1 83 = .ok (.iload_n 1, 1) := by decide +kernel
theorem dm_Re_instType_84 : decode mm_Re_instType.2.1 84 = .ok (.iadd, 1) := by decide +kernel
theorem dm_Re_instType_85 : decode mm_Re_instType.2.1 85 = .ok (.aload_n 0, 1) := by decide +kernel
theorem dm_Re_instType_86 : decode mm_Re_instType.2.1 86 = .ok (.iconst 1, 1) := by decide +kernel
theorem dm_Re_instType_87 : decode mm_Re_instType.2.1 87 = .ok (.invokevirtual 94, 3) := by decide +kernel
theorem dm_Re_instType_90 : decode mm_Re_instType.2.1 90 = .ok (.aload_n 0, 1) := by decide +kernel
theorem dm_Re_instType_91 : decode mm_Re_instType.2.1 91 = .ok (.iconst 1, 1) := by decide +kernel
theorem dm_Re_instType_92 : decode mm_Re_instType.2.1 92 = .ok (.invokevirtual 97, 3) := by decide +kernel
theorem dm_Re_instType_95 : decode mm_Re_instType.2.1 95 = .ok (.invokevirtual 179, 3) := by decide +kernel
theorem dm_Re_instType_98 : decode mm_Re_instType.2.1 98 = .ok (.iload_n 3, 1) := by decide +kernel
theorem dm_Re_instType_99 : decode mm_Re_instType.2.1 99 = .ok (.ifCond .ne 13, 3) := by decide +kernel
theorem dm_Re_instType_102 : decode mm_Re_instType.2.1 102 = .ok (.aload_n 0, 1) := by decide +kernel
theorem dm_Re_instType_103 : decode mm_Re_instType.2.1 103 = .ok (.iconst 0, 1) := by decide +kernel
theorem dm_Re_instType_104 : decode mm_Re_instType.2.1 104 = .ok (.iload 4, 2) := by decide +kernel
theorem dm_Re_instType_106 : decode mm_Re_instType.2.1 106 = .ok (.invokevirtual 66, 3) := by decide +kernel
theorem dm_Re_instType_109 : decode mm_Re_instType.2.1 109 = .ok (.goto 9, 3) := by decide +kernel
theorem dm_Re_instType_112 : decode mm_Re_instType.2.1 112 = .ok (.aload_n 0, 1) := by decide +kernel
theorem dm_Re_instType_113 : decode mm_Re_instType.2.1 113 = .ok (.iload 4, 2) := by decide +kernel
theorem dm_Re_instType_115 : decode mm_Re_instType.2.1 115 = .ok (.invokevirtual 73, 3) := by decide +kernel
theorem dm_Re_instType_118 : decode mm_Re_instType.2.1 118 = .ok (.aload_n 0, 1) := by decide +kernel
theorem dm_Re_instType_119 : decode mm_Re_instType.2.1 119 = .ok (.iload 4, 2) := by decide +kernel
theorem dm_Re_instType_121 : decode mm_Re_instType.2.1 121 = .ok (.putfield 28, 3) := by decide +kernel
theorem dm_Re_instType_124 : decode mm_Re_instType.2.1 124 = .ok (.iinc 3 1, 3) := by decide +kernel
theorem dm_Re_instType_127 : decode mm_Re_instType.2.1 127 = .ok (.goto (-84), 3) := by decide +kernel
theorem dm_Re_instType_130 : decode mm_Re_instType.2.1 130 = .ok (.aload_n 0, 1) := by decide +kernel
theorem dm_Re_instType_131 : decode mm_Re_instType.2.1 131 = .ok (.iconst 2, 1) := by decide +kernel
theorem dm_Re_instType_132 : decode mm_Re_instType.2.1 132 = .ok (.invokevirtual 91, 3) := by decide +kernel
theorem dm_Re_instType_135 : decode mm_Re_instType.2.1 135 = .ok (.ireturn, 1) := by decide +kernel
theorem dm_Re_keep_0 : decode mm_Re_keep.2.1 0 = .ok (.aload_n 0, 1) := by decide +kernel
theorem dm_Re_keep_1 : decode mm_Re_keep.2.1 1 = .ok (.getfield 79, 3) := by decide +kernel
theorem dm_Re_keep_4 : decode mm_Re_keep.2.1 4 = .ok (.ifCond .ne 5, 3) := by decide +kernel
theorem dm_Re_keep_7 : decode mm_Re_keep.2.1 7 = .ok (.iconst 1, 1) := by decide +kernel
theorem dm_Re_keep_8 : decode mm_Re_keep.2.1 8 = .ok (.ireturn, 1) := by decide +kernel
theorem dm_Re_keep_9 : decode mm_Re_keep.2.1 9 = .ok (.iload_n 1, 1) := by decide +kernel
theorem dm_Re_keep_10 : decode mm_Re_keep.2.1 10 = .ok (.ifCond .lt 8, 3) := by decide +kernel
theorem dm_Re_keep_13 : decode mm_Re_keep.2.1 13 = .ok (.iload_n 1, 1) := by decide +kernel
theorem dm_Re_keep_14 : decode mm_Re_keep.2.1 14 = .ok (.iconst 5, 1) := by decide +kernel
theorem dm_Re_keep_15 : decode mm_Re_keep.2.1 15 = .ok (.if_icmp .le 5, 3) := by decide +kernel
theorem dm_Re_keep_18 : decode mm_Re_keep.2.1 18 = .ok (.iconst 2, 1) := by decide +kernel
theorem dm_Re_keep_19 : decode mm_Re_keep.2.1 19 = .ok (.ireturn, 1) := by decide +kernel
theorem dm_Re_keep_20 : decode mm_Re_keep.2.1 20 = .ok (.aload_n 0, 1) := by decide +kernel
theorem dm_Re_keep_21 : decode mm_Re_keep.2.1 21 = .ok (.getfield 76, 3) := by decide +kernel
theorem dm_Re_keep_24 : decode mm_Re_keep.2.1 24 = .ok (.bipush 120, 2) := by decide +kernel
theorem dm_Re_keep_26 : decode mm_Re_keep.2.1 26 = .ok (.if_icmp .ne 5, 3) := by decide +kernel
theorem dm_Re_keep_29 : decode mm_Re_keep.2.1 29 = .ok (.iconst 4, 1) := by decide +kernel
theorem dm_Re_keep_30 : decode mm_Re_keep.2.1 30 = .ok (.ireturn, 1) := by decide +kernel
theorem dm_Re_keep_31 : decode mm_Re_keep.2.1 31 = .ok (.aload_n 0, 1) := by decide +kernel
theorem dm_Re_keep_32 : decode mm_Re_keep.2.1 32 = .ok (.dup, 1) := by decide +kernel
theorem dm_Re_keep_33 : decode mm_Re_keep.2.1 33 = .ok (.getfield 76, 3) := by decide +kernel
theorem dm_Re_keep_36 : decode mm_Re_keep.2.1 36 = .ok (.iconst 1, 1) := by decide +kernel
theorem dm_Re_keep_37 : decode mm_Re_keep.2.1 37 = .ok (.iadd, 1) := by decide +kernel
theorem dm_Re_keep_38 : decode mm_Re_keep.2.1 38 = .ok (.putfield 76, 3) := by decide +kernel
theorem dm_Re_keep_41 : decode mm_Re_keep.2.1 41 = .ok (.aload_n 0, 1) := by decide +kernel
theorem dm_Re_keep_42 : decode mm_Re_keep.2.1 42 = .ok (.aload_n 0, 1) := by decide +kernel
theorem dm_Re_keep_43 : decode mm_Re_keep.2.1 43 = .ok (.getfield 79, 3) := by decide +kernel
theorem dm_Re_keep_46 : decode mm_Re_keep.2.1 46 = .ok (.iconst 1, 1) := by decide +kernel
theorem dm_Re_keep_47 : decode mm_Re_keep.2.1 47 = .ok (.isub, 1) := by decide +kernel
theorem dm_Re_keep_48 : decode mm_Re_keep.2.1 48 = .ok (.bipush 12, 2) := by decide +kernel
theorem dm_Re_keep_50 : decode mm_Re_keep.2.1 50 = .ok (.iload_n 1, 1) := by decide +kernel
theorem dm_Re_keep_51 : decode mm_Re_keep.2.1 51 = .ok (.iadd, 1) := by decide +kernel
theorem dm_Re_keep_52 : decode mm_Re_keep.2.1 52 = .ok (.invokevirtual 82, 3) := by decide +kernel
theorem dm_Re_keep_55 : decode mm_Re_keep.2.1 55 = .ok (.iconst 0, 1) := by decide +kernel
theorem dm_Re_keep_56 : decode mm_Re_keep.2.1 56 = .ok (.ireturn, 1) := by decide +kernel
theorem dm_Re_fetch_0 : decode mm_Re_fetch.2.1 0 = .ok (.iload_n 1, 1) := by decide +kernel
theorem dm_Re_fetch_1 : decode mm_Re_fetch.2.1 1 = .ok (.ifCond .lt 20, 3) := by decide +kernel
theorem dm_Re_fetch_4 : decode mm_Re_fetch.2.1 4 = .ok (.iload_n 1, 1) := by decide +kernel
theorem dm_Re_fetch_5 : decode mm_Re_fetch.2.1 5 = .ok (.iconst 5, 1) := by decide +kernel
theorem dm_Re_fetch_6 : decode mm_Re_fetch.2.1 6 = .ok (.if_icmp .gt 15, 3) := by decide +kernel
theorem dm_Re_fetch_9 : decode mm_Re_fetch.2.1 9 = .ok (.aload_n 0, 1) := by decide +kernel
theorem dm_Re_fetch_10 : decode mm_Re_fetch.2.1 10 = .ok (.getfield 16, 3) := by decide +kernel
theorem dm_Re_fetch_13 : decode mm_Re_fetch.2.1 13 = .ok (.bipush 12, 2) := by decide +kernel
theorem dm_Re_fetch_15 : decode mm_Re_fetch.2.1 15 = .ok (.iload_n 1, 1) := by decide +kernel
theorem dm_Re_fetch_16 : decode mm_Re_fetch.2.1 16 = .ok (.iadd, 1) := by decide +kernel
theorem dm_Re_fetch_17 : decode mm_Re_fetch.2.1 17 = .ok (.iaload, 1) := by decide +kernel
theorem dm_Re_fetch_18 : decode mm_Re_fetch.2.1 18 = .ok (.ifCond .ge 5, 3) := by decide +kernel
theorem dm_Re_fetch_21 : decode mm_Re_fetch.2.1 21 = .ok (.iconst 2, 1) := by decide +kernel
theorem dm_Re_fetch_22 : decode mm_Re_fetch.2.1 22 = .ok (.ireturn, 1) := by decide +kernel
theorem dm_Re_fetch_23 : decode mm_Re_fetch.2.1 23 = .ok (.aload_n 0, 1) := by decide +kernel
theorem dm_Re_fetch_24 : decode mm_Re_fetch.2.1 24 = .ok (.getfield 79, 3) := by decide +kernel
theorem dm_Re_fetch_27 : decode mm_Re_fetch.2.1 27 = .ok (.bipush 12, 2) := by decide +kernel
theorem dm_Re_fetch_29 : decode mm_Re_fetch.2.1 29 = .ok (.if_icmp .eq 12, 3) := by decide +kernel
theorem dm_Re_fetch_32 : decode mm_Re_fetch.2.1 32 = .ok (.aload_n 0, 1) := by decide +kernel
theorem dm_Re_fetch_33 : decode mm_Re_fetch.2.1 33 = .ok (.getfield 76, 3) := by decide +kernel
theorem dm_Re_fetch_36 : decode mm_Re_fetch.2.1 36 = .ok (.bipush 120, 2) := by decide +kernel
theorem dm_Re_fetch_38 : decode mm_Re_fetch.2.1 38 = .ok (.if_icmp .ne 5, 3) := by decide +kernel
theorem dm_Re_fetch_41 : decode mm_Re_fetch.2.1 41 = .ok (.iconst 4, 1) := by decide +kernel
theorem dm_Re_fetch_42 : decode mm_Re_fetch.2.1 42 = .ok (.ireturn, 1) := by decide +kernel
theorem dm_Re_fetch_43 : decode mm_Re_fetch.2.1 43 = .ok (.aload_n 0, 1) := by decide +kernel
theorem dm_Re_fetch_44 : decode mm_Re_fetch.2.1 44 = .ok (.dup, 1) := by decide +kernel
theorem dm_Re_fetch_45 : decode mm_Re_fetch.2.1 45 = .ok (.getfield 76, 3) := by decide +kernel
theorem dm_Re_fetch_48 : decode mm_Re_fetch.2.1 48 = .ok (.iconst 1, 1) := by decide +kernel
theorem dm_Re_fetch_49 : decode mm_Re_fetch.2.1 49 = .ok (.iadd, 1) := by decide +kernel
theorem dm_Re_fetch_50 : decode mm_Re_fetch.2.1 50 = .ok (.putfield 76, 3) := by decide +kernel
theorem dm_Re_fetch_53 : decode mm_Re_fetch.2.1 53 = .ok (.aload_n 0, 1) := by decide +kernel
theorem dm_Re_fetch_54 : decode mm_Re_fetch.2.1 54 = .ok (.bipush 12, 2) := by decide +kernel
theorem dm_Re_fetch_56 : decode mm_Re_fetch.2.1 56 = .ok (.iload_n 1, 1) := by decide +kernel
theorem dm_Re_fetch_57 : decode mm_Re_fetch.2.1 57 = .ok (.iadd, 1) := by decide +kernel
theorem dm_Re_fetch_58 : decode mm_Re_fetch.2.1 58 = .ok (.aload_n 0, 1) := by decide +kernel
theorem dm_Re_fetch_59 : decode mm_Re_fetch.2.1 59 = .ok (.getfield 79, 3) := by decide +kernel
theorem dm_Re_fetch_62 : decode mm_Re_fetch.2.1 62 = .ok (.invokevirtual 82, 3) := by decide +kernel
theorem dm_Re_fetch_65 : decode mm_Re_fetch.2.1 65 = .ok (.aload_n 0, 1) := by decide +kernel
theorem dm_Re_fetch_66 : decode mm_Re_fetch.2.1 66 = .ok (.dup, 1) := by decide +kernel
theorem dm_Re_fetch_67 : decode mm_Re_fetch.2.1 67 = .ok (.getfield 79, 3) := by decide +kernel
theorem dm_Re_fetch_70 : decode mm_Re_fetch.2.1 70 = .ok (.iconst 1, 1) := by decide +kernel
theorem dm_Re_fetch_71 : decode mm_Re_fetch.2.1 71 = .ok (.iadd, 1) := by decide +kernel
theorem dm_Re_fetch_72 : decode mm_Re_fetch.2.1 72 = .ok (.putfield 79, 3) := by decide +kernel
theorem dm_Re_fetch_75 : decode mm_Re_fetch.2.1 75 = .ok (.iconst 0, 1) := by decide +kernel
theorem dm_Re_fetch_76 : decode mm_Re_fetch.2.1 76 = .ok (.ireturn, 1) := by decide +kernel
theorem dm_Re_pop_0 : decode mm_Re_pop.2.1 0 = .ok (.aload_n 0, 1) := by decide +kernel
theorem dm_Re_pop_1 : decode mm_Re_pop.2.1 1 = .ok (.getfield 79, 3) := by decide +kernel
theorem dm_Re_pop_4 : decode mm_Re_pop.2.1 4 = .ok (.ifCond .ne 5, 3) := by decide +kernel
theorem dm_Re_pop_7 : decode mm_Re_pop.2.1 7 = .ok (.iconst 1, 1) := by decide +kernel
theorem dm_Re_pop_8 : decode mm_Re_pop.2.1 8 = .ok (.ireturn, 1) := by decide +kernel
theorem dm_Re_pop_9 : decode mm_Re_pop.2.1 9 = .ok (.aload_n 0, 1) := by decide +kernel
theorem dm_Re_pop_10 : decode mm_Re_pop.2.1 10 = .ok (.getfield 76, 3) := by decide +kernel
theorem dm_Re_pop_13 : decode mm_Re_pop.2.1 13 = .ok (.bipush 120, 2) := by decide +kernel
theorem dm_Re_pop_15 : decode mm_Re_pop.2.1 15 = .ok (.if_icmp .ne 5, 3) := by decide +kernel
theorem dm_Re_pop_18 : decode mm_Re_pop.2.1 18 = .ok (.iconst 4, 1) := by decide +kernel
theorem dm_Re_pop_19 : decode mm_Re_pop.2.1 19 = .ok (.ireturn, 1) := by decide +kernel
theorem dm_Re_pop_20 : decode mm_Re_pop.2.1 20 = .ok (.aload_n 0, 1) := by decide +kernel
theorem dm_Re_pop_21 : decode mm_Re_pop.2.1 21 = .ok (.dup, 1) := by decide +kernel
theorem dm_Re_pop_22 : decode mm_Re_pop.2.1 22 = .ok (.getfield 76, 3) := by decide +kernel
theorem dm_Re_pop_25 : decode mm_Re_pop.2.1 25 = .ok (.iconst 1, 1) := by decide +kernel
theorem dm_Re_pop_26 : decode mm_Re_pop.2.1 26 = .ok (.iadd, 1) := by decide +kernel
theorem dm_Re_pop_27 : decode mm_Re_pop.2.1 27 = .ok (.putfield 76, 3) := by decide +kernel
theorem dm_Re_pop_30 : decode mm_Re_pop.2.1 30 = .ok (.aload_n 0, 1) := by decide +kernel
theorem dm_Re_pop_31 : decode mm_Re_pop.2.1 31 = .ok (.dup, 1) := by decide +kernel
theorem dm_Re_pop_32 : decode mm_Re_pop.2.1 32 = .ok (.getfield 79, 3) := by decide +kernel
theorem dm_Re_pop_35 : decode mm_Re_pop.2.1 35 = .ok (.iconst 1, 1) := by decide +kernel
theorem dm_Re_pop_36 : decode mm_Re_pop.2.1 36 = .ok (.isub, 1) := by decide +kernel
theorem dm_Re_pop_37 : decode mm_Re_pop.2.1 37 = .ok (.putfield 79, 3) := by decide +kernel
theorem dm_Re_pop_40 : decode mm_Re_pop.2.1 40 = .ok (.iconst 0, 1) := by decide +kernel
theorem dm_Re_pop_41 : decode mm_Re_pop.2.1 41 = .ok (.ireturn, 1) := by decide +kernel
theorem dm_Re_export_0 : decode mm_Re_export.2.1 0 = .ok (.aload_n 0, 1) := by decide +kernel
theorem dm_Re_export_1 : decode mm_Re_export.2.1 1 = .ok (.iconst 0, 1) := by decide +kernel
theorem dm_Re_export_2 : decode mm_Re_export.2.1 2 = .ok (.invokevirtual 85, 3) := by decide +kernel
theorem dm_Re_export_5 : decode mm_Re_export.2.1 5 = .ok (.iconst 2, 1) := by decide +kernel
theorem dm_Re_export_6 : decode mm_Re_export.2.1 6 = .ok (.if_icmp .eq 5, 3) := by decide +kernel
theorem dm_Re_export_9 : decode mm_Re_export.2.1 9 = .ok (.iconst 1, 1) := by decide +kernel
theorem dm_Re_export_10 : decode mm_Re_export.2.1 10 = .ok (.ireturn, 1) := by decide +kernel
theorem dm_Re_export_11 : decode mm_Re_export.2.1 11 = .ok (.aload_n 0, 1) := by decide +kernel
theorem dm_Re_export_12 : decode mm_Re_export.2.1 12 = .ok (.getfield 182, 3) := by decide +kernel
theorem dm_Re_export_15 : decode mm_Re_export.2.1 15 = .ok (.iconst 5, 1) := by decide +kernel
theorem dm_Re_export_16 : decode mm_Re_export.2.1 16 = .ok (.if_icmp .eq 12, 3) := by decide +kernel
theorem dm_Re_export_19 : decode mm_Re_export.2.1 19 = .ok (.aload_n 0, 1) := by decide +kernel
theorem dm_Re_export_20 : decode mm_Re_export.2.1 20 = .ok (.getfield 76, 3) := by decide +kernel
theorem dm_Re_export_23 : decode mm_Re_export.2.1 23 = .ok (.bipush 120, 2) := by decide +kernel
theorem dm_Re_export_25 : decode mm_Re_export.2.1 25 = .ok (.if_icmp .ne 5, 3) := by decide +kernel
theorem dm_Re_export_28 : decode mm_Re_export.2.1 28 = .ok (.iconst 4, 1) := by decide +kernel
theorem dm_Re_export_29 : decode mm_Re_export.2.1 29 = .ok (.ireturn, 1) := by decide +kernel
theorem dm_Re_export_30 : decode mm_Re_export.2.1 30 = .ok (.aload_n 0, 1) := by decide +kernel
theorem dm_Re_export_31 : decode mm_Re_export.2.1 31 = .ok (.dup, 1) := by decide +kernel
theorem dm_Re_export_32 : decode mm_Re_export.2.1 32 = .ok (.getfield 76, 3) := by decide +kernel
theorem dm_Re_export_35 : decode mm_Re_export.2.1 35 = .ok (.iconst 1, 1) := by decide +kernel
theorem dm_Re_export_36 : decode mm_Re_export.2.1 36 = .ok (.iadd, 1) := by decide +kernel
theorem dm_Re_export_37 : decode mm_Re_export.2.1 37 = .ok (.putfield 76, 3) := by decide +kernel
theorem dm_Re_export_40 : decode mm_Re_export.2.1 40 = .ok (.aload_n 0, 1) := by decide +kernel
theorem dm_Re_export_41 : decode mm_Re_export.2.1 41 = .ok (.aload_n 0, 1) := by decide +kernel
theorem dm_Re_export_42 : decode mm_Re_export.2.1 42 = .ok (.getfield 79, 3) := by decide +kernel
theorem dm_Re_export_45 : decode mm_Re_export.2.1 45 = .ok (.iconst 1, 1) := by decide +kernel
theorem dm_Re_export_46 : decode mm_Re_export.2.1 46 = .ok (.isub, 1) := by decide +kernel
theorem dm_Re_export_47 : decode mm_Re_export.2.1 47 = .ok (.bipush 23, 2) := by decide +kernel
theorem dm_Re_export_49 : decode mm_Re_export.2.1 49 = .ok (.aload_n 0, 1) := by decide +kernel
theorem dm_Re_export_50 : decode mm_Re_export.2.1 50 = .ok (.getfield 182, 3) := by decide +kernel
theorem dm_Re_export_53 : decode mm_Re_export.2.1 53 = .ok (.iadd, 1) := by decide +kernel
theorem dm_Re_export_54 : decode mm_Re_export.2.1 54 = .ok (.invokevirtual 82, 3) := by decide +kernel
theorem dm_Re_export_57 : decode mm_Re_export.2.1 57 = .ok (.aload_n 0, 1) := by decide +kernel
theorem dm_Re_export_58 : decode mm_Re_export.2.1 58 = .ok (.dup, 1) := by decide +kernel
theorem dm_Re_export_59 : decode mm_Re_export.2.1 59 = .ok (.getfield 182, 3) := by decide +kernel
theorem dm_Re_export_62 : decode mm_Re_export.2.1 62 = .ok (.iconst 1, 1) := by decide +kernel
theorem dm_Re_export_63 : decode mm_Re_export.2.1 63 = .ok (.iadd, 1) := by decide +kernel
theorem dm_Re_export_64 : decode mm_Re_export.2.1 64 = .ok (.putfield 182, 3) := by decide +kernel
theorem dm_Re_export_67 : decode mm_Re_export.2.1 67 = .ok (.aload_n 0, 1) := by decide +kernel
theorem dm_Re_export_68 : decode mm_Re_export.2.1 68 = .ok (.dup, 1) := by decide +kernel
theorem dm_Re_export_69 : decode mm_Re_export.2.1 69 = .ok (.getfield 79, 3) := by decide +kernel
theorem dm_Re_export_72 : decode mm_Re_export.2.1 72 = .ok (.iconst 1, 1) := by decide +kernel
theorem dm_Re_export_73 : decode mm_Re_export.2.1 73 = .ok (.isub, 1) := by decide +kernel
theorem dm_Re_export_74 : decode mm_Re_export.2.1 74 = .ok (.putfield 79, 3) := by decide +kernel
theorem dm_Re_export_77 : decode mm_Re_export.2.1 77 = .ok (.iconst 0, 1) := by decide +kernel
theorem dm_Re_export_78 : decode mm_Re_export.2.1 78 = .ok (.ireturn, 1) := by decide +kernel
theorem dm_Re_count_0 : decode mm_Re_count.2.1 0 = .ok (.iload_n 1, 1) := by decide +kernel
theorem dm_Re_count_1 : decode mm_Re_count.2.1 1 = .ok (.tableswitch 60 0 4 #[35, 40, 45, 50, 55], 35) := by decide +kernel
theorem dm_Re_count_36 : decode mm_Re_count.2.1 36 = .ok (.aload_n 0, 1) := by decide +kernel
theorem dm_Re_count_37 : decode mm_Re_count.2.1 37 = .ok (.getfield 79, 3) := by decide +kernel
theorem dm_Re_count_40 : decode mm_Re_count.2.1 40 = .ok (.ireturn, 1) := by decide +kernel
theorem dm_Re_count_41 : decode mm_Re_count.2.1 41 = .ok (.aload_n 0, 1) := by decide +kernel
theorem dm_Re_count_42 : decode mm_Re_count.2.1 42 = .ok (.getfield 152, 3) := by decide +kernel
theorem dm_Re_count_45 : decode mm_Re_count.2.1 45 = .ok (.ireturn, 1) := by decide +kernel
theorem dm_Re_count_46 : decode mm_Re_count.2.1 46 = .ok (.aload_n 0, 1) := by decide +kernel
theorem dm_Re_count_47 : decode mm_Re_count.2.1 47 = .ok (.getfield 182, 3) := by decide +kernel
theorem dm_Re_count_50 : decode mm_Re_count.2.1 50 = .ok (.ireturn, 1) := by decide +kernel
theorem dm_Re_count_51 : decode mm_Re_count.2.1 51 = .ok (.aload_n 0, 1) := by decide +kernel
theorem dm_Re_count_52 : decode mm_Re_count.2.1 52 = .ok (.getfield 103, 3) := by decide +kernel
theorem dm_Re_count_55 : decode mm_Re_count.2.1 55 = .ok (.ireturn, 1) := by decide +kernel
theorem dm_Re_count_56 : decode mm_Re_count.2.1 56 = .ok (.aload_n 0, 1) := by decide +kernel
theorem dm_Re_count_57 : decode mm_Re_count.2.1 57 = .ok (.getfield 76, 3) := by decide +kernel
theorem dm_Re_count_60 : decode mm_Re_count.2.1 60 = .ok (.ireturn, 1) := by decide +kernel
theorem dm_Re_count_61 : decode mm_Re_count.2.1 61 = .ok (.iconst (-1), 1) := by decide +kernel
theorem dm_Re_count_62 : decode mm_Re_count.2.1 62 = .ok (.ireturn, 1) := by decide +kernel
theorem dm_Re_at_0 : decode mm_Re_at.2.1 0 = .ok (.iload_n 1, 1) := by decide +kernel
theorem dm_Re_at_1 : decode mm_Re_at.2.1 1 = .ok (.ifCond .lt 20, 3) := by decide +kernel
theorem dm_Re_at_4 : decode mm_Re_at.2.1 4 = .ok (.iload_n 1, 1) := by decide +kernel
theorem dm_Re_at_5 : decode mm_Re_at.2.1 5 = .ok (.aload_n 0, 1) := by decide +kernel
theorem dm_Re_at_6 : decode mm_Re_at.2.1 6 = .ok (.getfield 79, 3) := by decide +kernel
theorem dm_Re_at_9 : decode mm_Re_at.2.1 9 = .ok (.if_icmp .ge 12, 3) := by decide +kernel
theorem dm_Re_at_12 : decode mm_Re_at.2.1 12 = .ok (.aload_n 0, 1) := by decide +kernel
theorem dm_Re_at_13 : decode mm_Re_at.2.1 13 = .ok (.getfield 79, 3) := by decide +kernel
theorem dm_Re_at_16 : decode mm_Re_at.2.1 16 = .ok (.iconst 1, 1) := by decide +kernel
theorem dm_Re_at_17 : decode mm_Re_at.2.1 17 = .ok (.isub, 1) := by decide +kernel
theorem dm_Re_at_18 : decode mm_Re_at.2.1 18 = .ok (.iload_n 1, 1) := by decide +kernel
theorem dm_Re_at_19 : decode mm_Re_at.2.1 19 = .ok (.isub, 1) := by decide +kernel
theorem dm_Re_at_20 : decode mm_Re_at.2.1 20 = .ok (.ireturn, 1) := by decide +kernel
theorem dm_Re_at_21 : decode mm_Re_at.2.1 21 = .ok (.iload_n 1, 1) := by decide +kernel
theorem dm_Re_at_22 : decode mm_Re_at.2.1 22 = .ok (.bipush 100, 2) := by decide +kernel
theorem dm_Re_at_24 : decode mm_Re_at.2.1 24 = .ok (.if_icmp .lt 30, 3) := by decide +kernel
theorem dm_Re_at_27 : decode mm_Re_at.2.1 27 = .ok (.iload_n 1, 1) := by decide +kernel
theorem dm_Re_at_28 : decode mm_Re_at.2.1 28 = .ok (.bipush 106, 2) := by decide +kernel
theorem dm_Re_at_30 : decode mm_Re_at.2.1 30 = .ok (.if_icmp .ge 24, 3) := by decide +kernel
theorem dm_Re_at_33 : decode mm_Re_at.2.1 33 = .ok (.aload_n 0, 1) := by decide +kernel
theorem dm_Re_at_34 : decode mm_Re_at.2.1 34 = .ok (.getfield 16, 3) := by decide +kernel
theorem dm_Re_at_37 : decode mm_Re_at.2.1 37 = .ok (.iload_n 1, 1) := by decide +kernel
theorem dm_Re_at_38 : decode mm_Re_at.2.1 38 = .ok (.bipush 88, 2) := by decide +kernel
theorem dm_Re_at_40 : decode mm_Re_at.2.1 40 = .ok (.isub, 1) := by decide +kernel
theorem dm_Re_at_41 : decode mm_Re_at.2.1 41 = .ok (.iaload, 1) := by decide +kernel
theorem dm_Re_at_42 : decode mm_Re_at.2.1 42 = .ok (.ifCond .ge 7, 3) := by decide +kernel
theorem dm_Re_at_45 : decode mm_Re_at.2.1 45 = .ok (.iconst (-1), 1) := by decide +kernel
theorem dm_Re_at_46 : decode mm_Re_at.2.1 46 = .ok (.goto 7, 3) := by decide +kernel
theorem dm_Re_at_49 : decode mm_Re_at.2.1 49 = .ok (.iload_n 1, 1) := by decide +kernel
theorem dm_Re_at_50 : decode mm_Re_at.2.1 50 = .ok (.bipush 88, 2) := by decide +kernel
theorem dm_Re_at_52 : decode mm_Re_at.2.1 52 = .ok (.isub, 1) := by decide +kernel
theorem dm_Re_at_53 : decode mm_Re_at.2.1 53 = .ok (.ireturn, 1) := by decide +kernel
theorem dm_Re_at_54 : decode mm_Re_at.2.1 54 = .ok (.iload_n 1, 1) := by decide +kernel
theorem dm_Re_at_55 : decode mm_Re_at.2.1 55 = .ok (.sipush 200, 3) := by decide +kernel
theorem dm_Re_at_58 : decode mm_Re_at.2.1 58 = .ok (.if_icmp .lt 21, 3) := by decide +kernel
theorem dm_Re_at_61 : decode mm_Re_at.2.1 61 = .ok (.iload_n 1, 1) := by decide +kernel
theorem dm_Re_at_62 : decode mm_Re_at.2.1 62 = .ok (.sipush 200, 3) := by decide +kernel
theorem dm_Re_at_65 : decode mm_Re_at.2.1 65 = .ok (.aload_n 0, 1) := by decide +kernel
theorem dm_Re_at_66 : decode mm_Re_at.2.1 66 = .ok (.getfield 152, 3) := by decide +kernel
theorem dm_Re_at_69 : decode mm_Re_at.2.1 69 = .ok (.iadd, 1) := by decide +kernel
theorem dm_Re_at_70 : decode mm_Re_at.2.1 70 = .ok (.if_icmp .ge 9, 3) := by decide +kernel
theorem dm_Re_at_73 : decode mm_Re_at.2.1 73 = .ok (.iload_n 1, 1) := by decide +kernel
theorem dm_Re_at_74 : decode mm_Re_at.2.1 74 = .ok (.sipush 182, 3) := by decide +kernel
theorem dm_Re_at_77 : decode mm_Re_at.2.1 77 = .ok (.isub, 1) := by decide +kernel
theorem dm_Re_at_78 : decode mm_Re_at.2.1 78 = .ok (.ireturn, 1) := by decide +kernel
theorem dm_Re_at_79 : decode mm_Re_at.2.1 79 = .ok (.iload_n 1, 1) := by decide +kernel
theorem dm_Re_at_80 : decode mm_Re_at.2.1 80 = .ok (.sipush 300, 3) := by decide +kernel
theorem dm_Re_at_83 : decode mm_Re_at.2.1 83 = .ok (.if_icmp .lt 23, 3) := by decide +kernel
theorem dm_Re_at_86 : decode mm_Re_at.2.1 86 = .ok (.iload_n 1, 1) := by decide +kernel
theorem dm_Re_at_87 : decode mm_Re_at.2.1 87 = .ok (.sipush 300, 3) := by decide +kernel
theorem dm_Re_at_90 : decode mm_Re_at.2.1 90 = .ok (.aload_n 0, 1) := by decide +kernel
theorem dm_Re_at_91 : decode mm_Re_at.2.1 91 = .ok (.getfield 182, 3) := by decide +kernel
theorem dm_Re_at_94 : decode mm_Re_at.2.1 94 = .ok (.iadd, 1) := by decide +kernel
theorem dm_Re_at_95 : decode mm_Re_at.2.1 95 = .ok (.if_icmp .ge 11, 3) := by decide +kernel
theorem dm_Re_at_98 : decode mm_Re_at.2.1 98 = .ok (.iload_n 1, 1) := by decide +kernel
theorem dm_Re_at_99 : decode mm_Re_at.2.1 99 = .ok (.sipush 277, 3) := by decide +kernel
theorem dm_Re_at_102 : decode mm_Re_at.2.1 102 = .ok (.isub, 1) := by decide +kernel
theorem dm_Re_at_103 : decode mm_Re_at.2.1 103 = .ok (.goto 4, 3) := by decide +kernel
theorem dm_Re_at_106 : decode mm_Re_at.2.1 106 = .ok (.iconst (-1), 1) := by decide +kernel
theorem dm_Re_at_107 : decode mm_Re_at.2.1 107 = .ok (.ireturn, 1) := by decide +kernel
theorem dm_Re_kind_0 : decode mm_Re_kind.2.1 0 = .ok (.aload_n 0, 1) := by decide +kernel
theorem dm_Re_kind_1 : decode mm_Re_kind.2.1 1 = .ok (.iload_n 1, 1) := by decide +kernel
theorem dm_Re_kind_2 : decode mm_Re_kind.2.1 2 = .ok (.invokevirtual 185, 3) := by decide +kernel
theorem dm_Re_kind_5 : decode mm_Re_kind.2.1 5 = .ok (.istore_n 2, 1) := by decide +kernel
theorem dm_Re_kind_6 : decode mm_Re_kind.2.1 6 = .ok (.iload_n 2, 1) := by decide +kernel
theorem dm_Re_kind_7 : decode mm_Re_kind.2.1 7 = .ok (.ifCond .ge 7, 3) := by decide +kernel
theorem dm_Re_kind_10 : decode mm_Re_kind.2.1 10 = .ok (.iconst (-1), 1) := by decide +kernel
theorem dm_Re_kind_11 : decode mm_Re_kind.2.1 11 = .ok (.goto 9, 3) := by decide +kernel
theorem dm_Re_kind_14 : decode mm_Re_kind.2.1 14 = .ok (.aload_n 0, 1) := by decide +kernel
theorem dm_Re_kind_15 : decode mm_Re_kind.2.1 15 = .ok (.getfield 16, 3) := by decide +kernel
theorem dm_Re_kind_18 : decode mm_Re_kind.2.1 18 = .ok (.iload_n 2, 1) := by decide +kernel
theorem dm_Re_kind_19 : decode mm_Re_kind.2.1 19 = .ok (.iaload, 1) := by decide +kernel
theorem dm_Re_kind_20 : decode mm_Re_kind.2.1 20 = .ok (.ireturn, 1) := by decide +kernel
theorem dm_Re_hypotheses_0 : decode mm_Re_hypotheses.2.1 0 = .ok (.aload_n 0, 1) := by decide +kernel
theorem dm_Re_hypotheses_1 : decode mm_Re_hypotheses.2.1 1 = .ok (.iload_n 1, 1) := by decide +kernel
theorem dm_Re_hypotheses_2 : decode mm_Re_hypotheses.2.1 2 = .ok (.invokevirtual 185, 3) := by decide +kernel
theorem dm_Re_hypotheses_5 : decode mm_Re_hypotheses.2.1 5 = .ok (.istore_n 2, 1) := by decide +kernel
theorem dm_Re_hypotheses_6 : decode mm_Re_hypotheses.2.1 6 = .ok (.iload_n 2, 1) := by decide +kernel
theorem dm_Re_hypotheses_7 : decode mm_Re_hypotheses.2.1 7 = .ok (.ifCond .lt 13, 3) := by decide +kernel
theorem dm_Re_hypotheses_10 : decode mm_Re_hypotheses.2.1 10 = .ok (.aload_n 0, 1) := by decide +kernel
theorem dm_Re_hypotheses_11 : decode mm_Re_hypotheses.2.1 11 = .ok (.getfield 16, 3) := by decide +kernel
theorem dm_Re_hypotheses_14 : decode mm_Re_hypotheses.2.1 14 = .ok (.iload_n 2, 1) := by decide +kernel
theorem dm_Re_hypotheses_15 : decode mm_Re_hypotheses.2.1 15 = .ok (.iaload, 1) := by decide +kernel
theorem dm_Re_hypotheses_16 : decode mm_Re_hypotheses.2.1 16 = .ok (.iconst 2, 1) := by decide +kernel
theorem dm_Re_hypotheses_17 : decode mm_Re_hypotheses.2.1 17 = .ok (.if_icmp .eq 7, 3) := by decide +kernel
theorem dm_Re_hypotheses_20 : decode mm_Re_hypotheses.2.1 20 = .ok (.iconst (-1), 1) := by decide +kernel
theorem dm_Re_hypotheses_21 : decode mm_Re_hypotheses.2.1 21 = .ok (.goto 9, 3) := by decide +kernel
theorem dm_Re_hypotheses_24 : decode mm_Re_hypotheses.2.1 24 = .ok (.aload_n 0, 1) := by decide +kernel
theorem dm_Re_hypotheses_25 : decode mm_Re_hypotheses.2.1 25 = .ok (.getfield 19, 3) := by decide +kernel
theorem dm_Re_hypotheses_28 : decode mm_Re_hypotheses.2.1 28 = .ok (.iload_n 2, 1) := by decide +kernel
theorem dm_Re_hypotheses_29 : decode mm_Re_hypotheses.2.1 29 = .ok (.iaload, 1) := by decide +kernel
theorem dm_Re_hypotheses_30 : decode mm_Re_hypotheses.2.1 30 = .ok (.ireturn, 1) := by decide +kernel
theorem dm_Re_length_0 : decode mm_Re_length.2.1 0 = .ok (.aload_n 0, 1) := by decide +kernel
theorem dm_Re_length_1 : decode mm_Re_length.2.1 1 = .ok (.iload_n 1, 1) := by decide +kernel
theorem dm_Re_length_2 : decode mm_Re_length.2.1 2 = .ok (.invokevirtual 185, 3) := by decide +kernel
theorem dm_Re_length_5 : decode mm_Re_length.2.1 5 = .ok (.istore_n 3, 1) := by decide +kernel
theorem dm_Re_length_6 : decode mm_Re_length.2.1 6 = .ok (.iload_n 3, 1) := by decide +kernel
theorem dm_Re_length_7 : decode mm_Re_length.2.1 7 = .ok (.ifCond .lt 17, 3) := by decide +kernel
theorem dm_Re_length_10 : decode mm_Re_length.2.1 10 = .ok (.iload_n 2, 1) := by decide +kernel
theorem dm_Re_length_11 : decode mm_Re_length.2.1 11 = .ok (.ifCond .lt 13, 3) := by decide +kernel
theorem dm_Re_length_14 : decode mm_Re_length.2.1 14 = .ok (.iload_n 2, 1) := by decide +kernel
theorem dm_Re_length_15 : decode mm_Re_length.2.1 15 = .ok (.aload_n 0, 1) := by decide +kernel
theorem dm_Re_length_16 : decode mm_Re_length.2.1 16 = .ok (.getfield 19, 3) := by decide +kernel
theorem dm_Re_length_19 : decode mm_Re_length.2.1 19 = .ok (.iload_n 3, 1) := by decide +kernel
theorem dm_Re_length_20 : decode mm_Re_length.2.1 20 = .ok (.iaload, 1) := by decide +kernel
theorem dm_Re_length_21 : decode mm_Re_length.2.1 21 = .ok (.if_icmp .le 7, 3) := by decide +kernel
theorem dm_Re_length_24 : decode mm_Re_length.2.1 24 = .ok (.iconst (-1), 1) := by decide +kernel
theorem dm_Re_length_25 : decode mm_Re_length.2.1 25 = .ok (.goto 13, 3) := by decide +kernel
theorem dm_Re_length_28 : decode mm_Re_length.2.1 28 = .ok (.aload_n 0, 1) := by decide +kernel
theorem dm_Re_length_29 : decode mm_Re_length.2.1 29 = .ok (.getfield 13, 3) := by decide +kernel
theorem dm_Re_length_32 : decode mm_Re_length.2.1 32 = .ok (.iconst 4, 1) := by decide +kernel
theorem dm_Re_length_33 : decode mm_Re_length.2.1 33 = .ok (.iload_n 3, 1) := by decide +kernel
theorem dm_Re_length_34 : decode mm_Re_length.2.1 34 = .ok (.imul, 1) := by decide +kernel
theorem dm_Re_length_35 : decode mm_Re_length.2.1 35 = .ok (.iload_n 2, 1) := by decide +kernel
theorem dm_Re_length_36 : decode mm_Re_length.2.1 36 = .ok (.iadd, 1) := by decide +kernel
theorem dm_Re_length_37 : decode mm_Re_length.2.1 37 = .ok (.iaload, 1) := by decide +kernel
theorem dm_Re_length_38 : decode mm_Re_length.2.1 38 = .ok (.ireturn, 1) := by decide +kernel
theorem dm_Re_symbol_0 : decode mm_Re_symbol.2.1 0 = .ok (.aload_n 0, 1) := by decide +kernel
theorem dm_Re_symbol_1 : decode mm_Re_symbol.2.1 1 = .ok (.iload_n 1, 1) := by decide +kernel
theorem dm_Re_symbol_2 : decode mm_Re_symbol.2.1 2 = .ok (.iload_n 2, 1) := by decide +kernel
theorem dm_Re_symbol_3 : decode mm_Re_symbol.2.1 3 = .ok (.invokevirtual 188, 3) := by decide +kernel
theorem dm_Re_symbol_6 : decode mm_Re_symbol.2.1 6 = .ok (.istore 4, 2) := by decide +kernel
theorem dm_Re_symbol_8 : decode mm_Re_symbol.2.1 8 = .ok (.aload_n 0, 1) := by decide +kernel
theorem dm_Re_symbol_9 : decode mm_Re_symbol.2.1 9 = .ok (.iload_n 1, 1) := by decide +kernel
theorem dm_Re_symbol_10 : decode mm_Re_symbol.2.1 10 = .ok (.invokevirtual 185, 3) := by decide +kernel
theorem dm_Re_symbol_13 : decode mm_Re_symbol.2.1 13 = .ok (.istore 5, 2) := by decide +kernel
theorem dm_Re_symbol_15 : decode mm_Re_symbol.2.1 15 = .ok (.iload_n 3, 1) := by decide +kernel
theorem dm_Re_symbol_16 : decode mm_Re_symbol.2.1 16 = .ok (.ifCond .lt 9, 3) := by decide +kernel
theorem dm_Re_symbol_19 : decode mm_Re_symbol.2.1 19 = .ok (.iload_n 3, 1) := by decide +kernel
theorem dm_Re_symbol_20 : decode mm_Re_symbol.2.1 20 = .ok (.iload 4, 2) := by decide +kernel
theorem dm_Re_symbol_22 : decode mm_Re_symbol.2.1 22 = .ok (.if_icmp .lt 7, 3) := by decide +kernel
theorem dm_Re_symbol_25 : decode mm_Re_symbol.2.1 25 = .ok (.iconst (-1), 1) := by decide +kernel
theorem dm_Re_symbol_26 : decode mm_Re_symbol.2.1 26 = .ok (.goto 16, 3) := by decide +kernel
theorem dm_Re_symbol_29 : decode mm_Re_symbol.2.1 29 = .ok (.aload_n 0, 1) := by decide +kernel
theorem dm_Re_symbol_30 : decode mm_Re_symbol.2.1 30 = .ok (.getfield 7, 3) := by decide +kernel
theorem dm_Re_symbol_33 : decode mm_Re_symbol.2.1 33 = .ok (.iload 5, 2) := by decide +kernel
theorem dm_Re_symbol_35 : decode mm_Re_symbol.2.1 35 = .ok (.iload_n 2, 1) := by decide +kernel
theorem dm_Re_symbol_36 : decode mm_Re_symbol.2.1 36 = .ok (.invokestatic 54, 3) := by decide +kernel
theorem dm_Re_symbol_39 : decode mm_Re_symbol.2.1 39 = .ok (.iload_n 3, 1) := by decide +kernel
theorem dm_Re_symbol_40 : decode mm_Re_symbol.2.1 40 = .ok (.iadd, 1) := by decide +kernel
theorem dm_Re_symbol_41 : decode mm_Re_symbol.2.1 41 = .ok (.iaload, 1) := by decide +kernel
theorem dm_Re_symbol_42 : decode mm_Re_symbol.2.1 42 = .ok (.ireturn, 1) := by decide +kernel
end
section
theorem dm_De_init_0 : decode mm_De_init.2.1 0 = .ok (.aload_n 0, 1) := by decide +kernel
theorem dm_De_init_1 : decode mm_De_init.2.1 1 = .ok (.invokespecial 3, 3) := by decide +kernel
theorem dm_De_init_4 : decode mm_De_init.2.1 4 = .ok (.aload_n 0, 1) := by decide +kernel
theorem dm_De_init_5 : decode mm_De_init.2.1 5 = .ok (.bipush 40, 2) := by decide +kernel
theorem dm_De_init_7 : decode mm_De_init.2.1 7 = .ok (.newarray .int, 2) := by decide +kernel
theorem dm_De_init_9 : decode mm_De_init.2.1 9 = .ok (.putfield 9, 3) := by decide +kernel
theorem dm_De_init_12 : decode mm_De_init.2.1 12 = .ok (.return_, 1) := by decide +kernel
theorem dm_De_begin_0 : decode mm_De_begin.2.1 0 = .ok (.aload_n 0, 1) := by decide +kernel
theorem dm_De_begin_1 : decode mm_De_begin.2.1 1 = .ok (.iconst 0, 1) := by decide +kernel
theorem dm_De_begin_2 : decode mm_De_begin.2.1 2 = .ok (.putfield 15, 3) := by decide +kernel
theorem dm_De_begin_5 : decode mm_De_begin.2.1 5 = .ok (.aload_n 0, 1) := by decide +kernel
theorem dm_De_begin_6 : decode mm_De_begin.2.1 6 = .ok (.iconst 1, 1) := by decide +kernel
theorem dm_De_begin_7 : decode mm_De_begin.2.1 7 = .ok (.putfield 19, 3) := by decide +kernel
theorem dm_De_begin_10 : decode mm_De_begin.2.1 10 = .ok (.return_, 1) := by decide +kernel
theorem dm_De_pass_0 : decode mm_De_pass.2.1 0 = .ok (.iload_n 1, 1) := by decide +kernel
theorem dm_De_pass_1 : decode mm_De_pass.2.1 1 = .ok (.bipush 10, 2) := by decide +kernel
theorem dm_De_pass_3 : decode mm_De_pass.2.1 3 = .ok (.if_icmp .ge 4, 3) := by decide +kernel
theorem dm_De_pass_6 : decode mm_De_pass.2.1 6 = .ok (.return_, 1) := by decide +kernel
theorem dm_De_pass_7 : decode mm_De_pass.2.1 7 = .ok (.aload_n 0, 1) := by decide +kernel
theorem dm_De_pass_8 : decode mm_De_pass.2.1 8 = .ok (.getfield 15, 3) := by decide +kernel
theorem dm_De_pass_11 : decode mm_De_pass.2.1 11 = .ok (.ifCond .le 34, 3) := by decide +kernel
theorem dm_De_pass_14 : decode mm_De_pass.2.1 14 = .ok (.aload_n 0, 1) := by decide +kernel
theorem dm_De_pass_15 : decode mm_De_pass.2.1 15 = .ok (.getfield 9, 3) := by decide +kernel
theorem dm_De_pass_18 : decode mm_De_pass.2.1 18 = .ok (.aload_n 0, 1) := by decide +kernel
theorem dm_De_pass_19 : decode mm_De_pass.2.1 19 = .ok (.getfield 15, 3) := by decide +kernel
theorem dm_De_pass_22 : decode mm_De_pass.2.1 22 = .ok (.iconst 1, 1) := by decide +kernel
theorem dm_De_pass_23 : decode mm_De_pass.2.1 23 = .ok (.isub, 1) := by decide +kernel
theorem dm_De_pass_24 : decode mm_De_pass.2.1 24 = .ok (.iaload, 1) := by decide +kernel
theorem dm_De_pass_25 : decode mm_De_pass.2.1 25 = .ok (.aload_n 0, 1) := by decide +kernel
theorem dm_De_pass_26 : decode mm_De_pass.2.1 26 = .ok (.getfield 19, 3) := by decide +kernel
theorem dm_De_pass_29 : decode mm_De_pass.2.1 29 = .ok (.if_icmp .lt 16, 3) := by decide +kernel
theorem dm_De_pass_32 : decode mm_De_pass.2.1 32 = .ok (.aload_n 0, 1) := by decide +kernel
theorem dm_De_pass_33 : decode mm_De_pass.2.1 33 = .ok (.dup, 1) := by decide +kernel
theorem dm_De_pass_34 : decode mm_De_pass.2.1 34 = .ok (.getfield 15, 3) := by decide +kernel
theorem dm_De_pass_37 : decode mm_De_pass.2.1 37 = .ok (.iconst 1, 1) := by decide +kernel
theorem dm_De_pass_38 : decode mm_De_pass.2.1 38 = .ok (.isub, 1) := by decide +kernel
theorem dm_De_pass_39 : decode mm_De_pass.2.1 39 = .ok (.putfield 15, 3) := by decide +kernel
theorem dm_De_pass_42 : decode mm_De_pass.2.1 42 = .ok (.goto (-35), 3) := by decide +kernel
theorem dm_De_pass_45 : decode mm_De_pass.2.1 45 = .ok (.aload_n 0, 1) := by decide +kernel
theorem dm_De_pass_46 : decode mm_De_pass.2.1 46 = .ok (.dup, 1) := by decide +kernel
theorem dm_De_pass_47 : decode mm_De_pass.2.1 47 = .ok (.getfield 19, 3) := by decide +kernel
theorem dm_De_pass_50 : decode mm_De_pass.2.1 50 = .ok (.iload_n 1, 1) := by decide +kernel
theorem dm_De_pass_51 : decode mm_De_pass.2.1 51 = .ok (.invokestatic 22, 3) := by decide +kernel
theorem dm_De_pass_54 : decode mm_De_pass.2.1 54 = .ok (.iconst 1, 1) := by decide +kernel
theorem dm_De_pass_55 : decode mm_De_pass.2.1 55 = .ok (.isub, 1) := by decide +kernel
theorem dm_De_pass_56 : decode mm_De_pass.2.1 56 = .ok (.iadd, 1) := by decide +kernel
theorem dm_De_pass_57 : decode mm_De_pass.2.1 57 = .ok (.putfield 19, 3) := by decide +kernel
theorem dm_De_pass_60 : decode mm_De_pass.2.1 60 = .ok (.iload_n 1, 1) := by decide +kernel
theorem dm_De_pass_61 : decode mm_De_pass.2.1 61 = .ok (.bipush 13, 2) := by decide +kernel
theorem dm_De_pass_63 : decode mm_De_pass.2.1 63 = .ok (.if_icmp .ne 40, 3) := by decide +kernel
theorem dm_De_pass_66 : decode mm_De_pass.2.1 66 = .ok (.aload_n 0, 1) := by decide +kernel
theorem dm_De_pass_67 : decode mm_De_pass.2.1 67 = .ok (.getfield 15, 3) := by decide +kernel
theorem dm_De_pass_70 : decode mm_De_pass.2.1 70 = .ok (.aload_n 0, 1) := by decide +kernel
theorem dm_De_pass_71 : decode mm_De_pass.2.1 71 = .ok (.getfield 9, 3) := by decide +kernel
theorem dm_De_pass_74 : decode mm_De_pass.2.1 74 = .ok (.arraylength, 1) := by decide +kernel
theorem dm_De_pass_75 : decode mm_De_pass.2.1 75 = .ok (.if_icmp .ge 28, 3) := by decide +kernel
theorem dm_De_pass_78 : decode mm_De_pass.2.1 78 = .ok (.aload_n 0, 1) := by decide +kernel
theorem dm_De_pass_79 : decode mm_De_pass.2.1 79 = .ok (.getfield 9, 3) := by decide +kernel
theorem dm_De_pass_82 : decode mm_De_pass.2.1 82 = .ok (.aload_n 0, 1) := by decide +kernel
theorem dm_De_pass_83 : decode mm_De_pass.2.1 83 = .ok (.getfield 15, 3) := by decide +kernel
theorem dm_De_pass_86 : decode mm_De_pass.2.1 86 = .ok (.aload_n 0, 1) := by decide +kernel
theorem dm_De_pass_87 : decode mm_De_pass.2.1 87 = .ok (.getfield 19, 3) := by decide +kernel
theorem dm_De_pass_90 : decode mm_De_pass.2.1 90 = .ok (.iconst 1, 1) := by decide +kernel
theorem dm_De_pass_91 : decode mm_De_pass.2.1 91 = .ok (.isub, 1) := by decide +kernel
theorem dm_De_pass_92 : decode mm_De_pass.2.1 92 = .ok (.iastore, 1) := by decide +kernel
theorem dm_De_pass_93 : decode mm_De_pass.2.1 93 = .ok (.aload_n 0, 1) := by decide +kernel
theorem dm_De_pass_94 : decode mm_De_pass.2.1 94 = .ok (.dup, 1) := by decide +kernel
theorem dm_De_pass_95 : decode mm_De_pass.2.1 95 = .ok (.getfield 15, 3) := by decide +kernel
theorem dm_De_pass_98 : decode mm_De_pass.2.1 98 = .ok (.iconst 1, 1) := by decide +kernel
theorem dm_De_pass_99 : decode mm_De_pass.2.1 99 = .ok (.iadd, 1) := by decide +kernel
theorem dm_De_pass_100 : decode mm_De_pass.2.1 100 = .ok (.putfield 15, 3) := by decide +kernel
theorem dm_De_pass_103 : decode mm_De_pass.2.1 103 = .ok (.return_, 1) := by decide +kernel
theorem dm_Eq_init_0 : decode mm_Eq_init.2.1 0 = .ok (.aload_n 0, 1) := by decide +kernel
theorem dm_Eq_init_1 : decode mm_Eq_init.2.1 1 = .ok (.invokespecial 1, 3) := by decide +kernel
theorem dm_Eq_init_4 : decode mm_Eq_init.2.1 4 = .ok (.aload_n 1, 1) := by decide +kernel
theorem dm_Eq_init_5 : decode mm_Eq_init.2.1 5 = .ok (.iconst 4, 1) := by decide +kernel
theorem dm_Eq_init_6 : decode mm_Eq_init.2.1 6 = .ok (.invokevirtual 7, 3) := by decide +kernel
theorem dm_Eq_init_9 : decode mm_Eq_init.2.1 9 = .ok (.istore_n 2, 1) := by decide +kernel
theorem dm_Eq_init_10 : decode mm_Eq_init.2.1 10 = .ok (.aload_n 1, 1) := by decide +kernel
theorem dm_Eq_init_11 : decode mm_Eq_init.2.1 11 = .ok (.iload_n 2, 1) := by decide +kernel
theorem dm_Eq_init_12 : decode mm_Eq_init.2.1 12 = .ok (.invokevirtual 13, 3) := by decide +kernel
theorem dm_Eq_init_15 : decode mm_Eq_init.2.1 15 = .ok (.istore_n 3, 1) := by decide +kernel
theorem dm_Eq_init_16 : decode mm_Eq_init.2.1 16 = .ok (.aload_n 0, 1) := by decide +kernel
theorem dm_Eq_init_17 : decode mm_Eq_init.2.1 17 = .ok (.aload_n 1, 1) := by decide +kernel
theorem dm_Eq_init_18 : decode mm_Eq_init.2.1 18 = .ok (.iconst 4, 1) := by decide +kernel
theorem dm_Eq_init_19 : decode mm_Eq_init.2.1 19 = .ok (.iload_n 2, 1) := by decide +kernel
theorem dm_Eq_init_20 : decode mm_Eq_init.2.1 20 = .ok (.invokevirtual 16, 3) := by decide +kernel
theorem dm_Eq_init_23 : decode mm_Eq_init.2.1 23 = .ok (.putfield 20, 3) := by decide +kernel
theorem dm_Eq_init_26 : decode mm_Eq_init.2.1 26 = .ok (.aload_n 0, 1) := by decide +kernel
theorem dm_Eq_init_27 : decode mm_Eq_init.2.1 27 = .ok (.aload_n 1, 1) := by decide +kernel
theorem dm_Eq_init_28 : decode mm_Eq_init.2.1 28 = .ok (.iload_n 2, 1) := by decide +kernel
theorem dm_Eq_init_29 : decode mm_Eq_init.2.1 29 = .ok (.iload_n 3, 1) := by decide +kernel
theorem dm_Eq_init_30 : decode mm_Eq_init.2.1 30 = .ok (.invokevirtual 16, 3) := by decide +kernel
theorem dm_Eq_init_33 : decode mm_Eq_init.2.1 33 = .ok (.putfield 26, 3) := by decide +kernel
theorem dm_Eq_init_36 : decode mm_Eq_init.2.1 36 = .ok (.aload_n 0, 1) := by decide +kernel
theorem dm_Eq_init_37 : decode mm_Eq_init.2.1 37 = .ok (.aload_n 1, 1) := by decide +kernel
theorem dm_Eq_init_38 : decode mm_Eq_init.2.1 38 = .ok (.iload_n 3, 1) := by decide +kernel
theorem dm_Eq_init_39 : decode mm_Eq_init.2.1 39 = .ok (.aload_n 1, 1) := by decide +kernel
theorem dm_Eq_init_40 : decode mm_Eq_init.2.1 40 = .ok (.getfield 29, 3) := by decide +kernel
theorem dm_Eq_init_43 : decode mm_Eq_init.2.1 43 = .ok (.invokevirtual 16, 3) := by decide +kernel
theorem dm_Eq_init_46 : decode mm_Eq_init.2.1 46 = .ok (.putfield 33, 3) := by decide +kernel
theorem dm_Eq_init_49 : decode mm_Eq_init.2.1 49 = .ok (.return_, 1) := by decide +kernel
theorem dm_Hy_init_0 : decode mm_Hy_init.2.1 0 = .ok (.aload_n 0, 1) := by decide +kernel
theorem dm_Hy_init_1 : decode mm_Hy_init.2.1 1 = .ok (.invokespecial 3, 3) := by decide +kernel
theorem dm_Hy_init_4 : decode mm_Hy_init.2.1 4 = .ok (.aload_n 0, 1) := by decide +kernel
theorem dm_Hy_init_5 : decode mm_Hy_init.2.1 5 = .ok (.bipush 6, 2) := by decide +kernel
theorem dm_Hy_init_7 : decode mm_Hy_init.2.1 7 = .ok (.anewarray 9, 3) := by decide +kernel
theorem dm_Hy_init_10 : decode mm_Hy_init.2.1 10 = .ok (.putfield 11, 3) := by decide +kernel
theorem dm_Hy_init_13 : decode mm_Hy_init.2.1 13 = .ok (.return_, 1) := by decide +kernel
theorem dm_Hy_get_0 : decode mm_Hy_get.2.1 0 = .ok (.iload_n 1, 1) := by decide +kernel
theorem dm_Hy_get_1 : decode mm_Hy_get.2.1 1 = .ok (.ifCond .lt 20, 3) := by decide +kernel
theorem dm_Hy_get_4 : decode mm_Hy_get.2.1 4 = .ok (.iload_n 1, 1) := by decide +kernel
theorem dm_Hy_get_5 : decode mm_Hy_get.2.1 5 = .ok (.aload_n 0, 1) := by decide +kernel
theorem dm_Hy_get_6 : decode mm_Hy_get.2.1 6 = .ok (.getfield 17, 3) := by decide +kernel
theorem dm_Hy_get_9 : decode mm_Hy_get.2.1 9 = .ok (.if_icmp .ge 12, 3) := by decide +kernel
theorem dm_Hy_get_12 : decode mm_Hy_get.2.1 12 = .ok (.aload_n 0, 1) := by decide +kernel
theorem dm_Hy_get_13 : decode mm_Hy_get.2.1 13 = .ok (.getfield 11, 3) := by decide +kernel
theorem dm_Hy_get_16 : decode mm_Hy_get.2.1 16 = .ok (.iload_n 1, 1) := by decide +kernel
theorem dm_Hy_get_17 : decode mm_Hy_get.2.1 17 = .ok (.aaload, 1) := by decide +kernel
theorem dm_Hy_get_18 : decode mm_Hy_get.2.1 18 = .ok (.goto 4, 3) := by decide +kernel
theorem dm_Hy_get_21 : decode mm_Hy_get.2.1 21 = .ok (.aconst_null, 1) := by decide +kernel
theorem dm_Hy_get_22 : decode mm_Hy_get.2.1 22 = .ok (.areturn, 1) := by decide +kernel
theorem dm_Hy_add_0 : decode mm_Hy_add.2.1 0 = .ok (.iconst 0, 1) := by decide +kernel
theorem dm_Hy_add_1 : decode mm_Hy_add.2.1 1 = .ok (.istore_n 2, 1) := by decide +kernel
theorem dm_Hy_add_2 : decode mm_Hy_add.2.1 2 = .ok (.iload_n 2, 1) := by decide +kernel
theorem dm_Hy_add_3 : decode mm_Hy_add.2.1 3 = .ok (.aload_n 0, 1) := by decide +kernel
theorem dm_Hy_add_4 : decode mm_Hy_add.2.1 4 = .ok (.getfield 17, 3) := by decide +kernel
theorem dm_Hy_add_7 : decode mm_Hy_add.2.1 7 = .ok (.if_icmp .ge 22, 3) := by decide +kernel
theorem dm_Hy_add_10 : decode mm_Hy_add.2.1 10 = .ok (.aload_n 0, 1) := by decide +kernel
theorem dm_Hy_add_11 : decode mm_Hy_add.2.1 11 = .ok (.getfield 11, 3) := by decide +kernel
theorem dm_Hy_add_14 : decode mm_Hy_add.2.1 14 = .ok (.iload_n 2, 1) := by decide +kernel
theorem dm_Hy_add_15 : decode mm_Hy_add.2.1 15 = .ok (.aaload, 1) := by decide +kernel
theorem dm_Hy_add_16 : decode mm_Hy_add.2.1 16 = .ok (.aload_n 1, 1) := by decide +kernel
theorem dm_Hy_add_17 : decode mm_Hy_add.2.1 17 = .ok (.invokevirtual 21, 3) := by decide +kernel
theorem dm_Hy_add_20 : decode mm_Hy_add.2.1 20 = .ok (.ifCond .eq 9, 3) := by decide +kernel
theorem dm_Hy_add_23 : decode mm_Hy_add.2.1 23 = .ok (.iinc 2 1, 3) := by decide +kernel
theorem dm_Hy_add_26 : decode mm_Hy_add.2.1 26 = .ok (.goto (-24), 3) := by decide +kernel
theorem dm_Hy_add_29 : decode mm_Hy_add.2.1 29 = .ok (.aload_n 0, 1) := by decide +kernel
theorem dm_Hy_add_30 : decode mm_Hy_add.2.1 30 = .ok (.getfield 17, 3) := by decide +kernel
theorem dm_Hy_add_33 : decode mm_Hy_add.2.1 33 = .ok (.aload_n 0, 1) := by decide +kernel
theorem dm_Hy_add_34 : decode mm_Hy_add.2.1 34 = .ok (.getfield 11, 3) := by decide +kernel
theorem dm_Hy_add_37 : decode mm_Hy_add.2.1 37 = .ok (.arraylength, 1) := by decide +kernel
theorem dm_Hy_add_38 : decode mm_Hy_add.2.1 38 = .ok (.if_icmp .ge 24, 3) := by decide +kernel
theorem dm_Hy_add_41 : decode mm_Hy_add.2.1 41 = .ok (.iload_n 2, 1) := by decide +kernel
theorem dm_Hy_add_42 : decode mm_Hy_add.2.1 42 = .ok (.aload_n 0, 1) := by decide +kernel
theorem dm_Hy_add_43 : decode mm_Hy_add.2.1 43 = .ok (.getfield 17, 3) := by decide +kernel
theorem dm_Hy_add_46 : decode mm_Hy_add.2.1 46 = .ok (.if_icmp .ge 17, 3) := by decide +kernel
theorem dm_Hy_add_49 : decode mm_Hy_add.2.1 49 = .ok (.aload_n 0, 1) := by decide +kernel
theorem dm_Hy_add_50 : decode mm_Hy_add.2.1 50 = .ok (.getfield 11, 3) := by decide +kernel
theorem dm_Hy_add_53 : decode mm_Hy_add.2.1 53 = .ok (.iload_n 2, 1) := by decide +kernel
theorem dm_Hy_add_54 : decode mm_Hy_add.2.1 54 = .ok (.aaload, 1) := by decide +kernel
theorem dm_Hy_add_55 : decode mm_Hy_add.2.1 55 = .ok (.aload_n 1, 1) := by decide +kernel
theorem dm_Hy_add_56 : decode mm_Hy_add.2.1 56 = .ok (.invokevirtual 25, 3) := by decide +kernel
theorem dm_Hy_add_59 : decode mm_Hy_add.2.1 59 = .ok (.ifCond .eq 4, 3) := by decide +kernel
theorem dm_Hy_add_62 : decode mm_Hy_add.2.1 62 = .ok (.return_, 1) := by decide +kernel
theorem dm_Hy_add_63 : decode mm_Hy_add.2.1 63 = .ok (.aload_n 0, 1) := by decide +kernel
theorem dm_Hy_add_64 : decode mm_Hy_add.2.1 64 = .ok (.getfield 17, 3) := by decide +kernel
theorem dm_Hy_add_67 : decode mm_Hy_add.2.1 67 = .ok (.istore_n 3, 1) := by decide +kernel
theorem dm_Hy_add_68 : decode mm_Hy_add.2.1 68 = .ok (.iload_n 3, 1) := by decide +kernel
theorem dm_Hy_add_69 : decode mm_Hy_add.2.1 69 = .ok (.iload_n 2, 1) := by decide +kernel
theorem dm_Hy_add_70 : decode mm_Hy_add.2.1 70 = .ok (.if_icmp .le 23, 3) := by decide +kernel
theorem dm_Hy_add_73 : decode mm_Hy_add.2.1 73 = .ok (.aload_n 0, 1) := by decide +kernel
theorem dm_Hy_add_74 : decode mm_Hy_add.2.1 74 = .ok (.getfield 11, 3) := by decide +kernel
theorem dm_Hy_add_77 : decode mm_Hy_add.2.1 77 = .ok (.iload_n 3, 1) := by decide +kernel
theorem dm_Hy_add_78 : decode mm_Hy_add.2.1 78 = .ok (.aload_n 0, 1) := by decide +kernel
theorem dm_Hy_add_79 : decode mm_Hy_add.2.1 79 = .ok (.getfield 11, 3) := by decide +kernel
theorem dm_Hy_add_82 : decode mm_Hy_add.2.1 82 = .ok (.iload_n 3, 1) := by decide +kernel
theorem dm_Hy_add_83 : decode mm_Hy_add.2.1 83 = .ok (.iconst 1, 1) := by decide +kernel
theorem dm_Hy_add_84 : decode mm_Hy_add.2.1 84 = .ok (.isub, 1) := by decide +kernel
theorem dm_Hy_add_85 : decode mm_Hy_add.2.1 85 = .ok (.aaload, 1) := by decide +kernel
theorem dm_Hy_add_86 : decode mm_Hy_add.2.1 86 = .ok (.aastore, 1) := by decide +kernel
theorem dm_Hy_add_87 : decode mm_Hy_add.2.1 87 = .ok (.iinc 3 (-1), 3) := by decide +kernel
theorem dm_Hy_add_90 : decode mm_Hy_add.2.1 90 = .ok (.goto (-22), 3) := by decide +kernel
theorem dm_Hy_add_93 : decode mm_Hy_add.2.1 93 = .ok (.aload_n 0, 1) := by decide +kernel
theorem dm_Hy_add_94 : decode mm_Hy_add.2.1 94 = .ok (.getfield 11, 3) := by decide +kernel
theorem dm_Hy_add_97 : decode mm_Hy_add.2.1 97 = .ok (.iload_n 2, 1) := by decide +kernel
theorem dm_Hy_add_98 : decode mm_Hy_add.2.1 98 = .ok (.aload_n 1, 1) := by decide +kernel
theorem dm_Hy_add_99 : decode mm_Hy_add.2.1 99 = .ok (.aastore, 1) := by decide +kernel
theorem dm_Hy_add_100 : decode mm_Hy_add.2.1 100 = .ok (.aload_n 0, 1) := by decide +kernel
theorem dm_Hy_add_101 : decode mm_Hy_add.2.1 101 = .ok (.dup, 1) := by decide +kernel
theorem dm_Hy_add_102 : decode mm_Hy_add.2.1 102 = .ok (.getfield 17, 3) := by decide +kernel
theorem dm_Hy_add_105 : decode mm_Hy_add.2.1 105 = .ok (.iconst 1, 1) := by decide +kernel
theorem dm_Hy_add_106 : decode mm_Hy_add.2.1 106 = .ok (.iadd, 1) := by decide +kernel
theorem dm_Hy_add_107 : decode mm_Hy_add.2.1 107 = .ok (.putfield 17, 3) := by decide +kernel
theorem dm_Hy_add_110 : decode mm_Hy_add.2.1 110 = .ok (.return_, 1) := by decide +kernel
theorem dm_Hy_addAll_0 : decode mm_Hy_addAll.2.1 0 = .ok (.iconst 0, 1) := by decide +kernel
theorem dm_Hy_addAll_1 : decode mm_Hy_addAll.2.1 1 = .ok (.istore_n 2, 1) := by decide +kernel
theorem dm_Hy_addAll_2 : decode mm_Hy_addAll.2.1 2 = .ok (.iload_n 2, 1) := by decide +kernel
theorem dm_Hy_addAll_3 : decode mm_Hy_addAll.2.1 3 = .ok (.aload_n 1, 1) := by decide +kernel
theorem dm_Hy_addAll_4 : decode mm_Hy_addAll.2.1 4 = .ok (.getfield 17, 3) := by decide +kernel
theorem dm_Hy_addAll_7 : decode mm_Hy_addAll.2.1 7 = .ok (.if_icmp .ge 19, 3) := by decide +kernel
theorem dm_Hy_addAll_10 : decode mm_Hy_addAll.2.1 10 = .ok (.aload_n 0, 1) := by decide +kernel
theorem dm_Hy_addAll_11 : decode mm_Hy_addAll.2.1 11 = .ok (.aload_n 1, 1) := by decide +kernel
theorem dm_Hy_addAll_12 : decode mm_Hy_addAll.2.1 12 = .ok (.getfield 11, 3) := by decide +kernel
theorem dm_Hy_addAll_15 : decode mm_Hy_addAll.2.1 15 = .ok (.iload_n 2, 1) := by decide +kernel
theorem dm_Hy_addAll_16 : decode mm_Hy_addAll.2.1 16 = .ok (.aaload, 1) := by decide +kernel
theorem dm_Hy_addAll_17 : decode mm_Hy_addAll.2.1 17 = .ok (.invokevirtual 28, 3) := by decide +kernel
theorem dm_Hy_addAll_20 : decode mm_Hy_addAll.2.1 20 = .ok (.iinc 2 1, 3) := by decide +kernel
theorem dm_Hy_addAll_23 : decode mm_Hy_addAll.2.1 23 = .ok (.goto (-21), 3) := by decide +kernel
theorem dm_Hy_addAll_26 : decode mm_Hy_addAll.2.1 26 = .ok (.return_, 1) := by decide +kernel
theorem dm_Hy_addAllBut_0 : decode mm_Hy_addAllBut.2.1 0 = .ok (.iconst 0, 1) := by decide +kernel
theorem dm_Hy_addAllBut_1 : decode mm_Hy_addAllBut.2.1 1 = .ok (.istore_n 3, 1) := by decide +kernel
theorem dm_Hy_addAllBut_2 : decode mm_Hy_addAllBut.2.1 2 = .ok (.iload_n 3, 1) := by decide +kernel
theorem dm_Hy_addAllBut_3 : decode mm_Hy_addAllBut.2.1 3 = .ok (.aload_n 1, 1) := by decide +kernel
theorem dm_Hy_addAllBut_4 : decode mm_Hy_addAllBut.2.1 4 = .ok (.getfield 17, 3) := by decide +kernel
theorem dm_Hy_addAllBut_7 : decode mm_Hy_addAllBut.2.1 7 = .ok (.if_icmp .ge 32, 3) := by decide +kernel
theorem dm_Hy_addAllBut_10 : decode mm_Hy_addAllBut.2.1 10 = .ok (.aload_n 1, 1) := by decide +kernel
theorem dm_Hy_addAllBut_11 : decode mm_Hy_addAllBut.2.1 11 = .ok (.getfield 11, 3) := by decide +kernel
theorem dm_Hy_addAllBut_14 : decode mm_Hy_addAllBut.2.1 14 = .ok (.iload_n 3, 1) := by decide +kernel
theorem dm_Hy_addAllBut_15 : decode mm_Hy_addAllBut.2.1 15 = .ok (.aaload, 1) := by decide +kernel
theorem dm_Hy_addAllBut_16 : decode mm_Hy_addAllBut.2.1 16 = .ok (.aload_n 2, 1) := by decide +kernel
theorem dm_Hy_addAllBut_17 : decode mm_Hy_addAllBut.2.1 17 = .ok (.invokevirtual 25, 3) := by decide +kernel
theorem dm_Hy_addAllBut_20 : decode mm_Hy_addAllBut.2.1 20 = .ok (.ifCond .ne 13, 3) := by decide +kernel
theorem dm_Hy_addAllBut_23 : decode mm_Hy_addAllBut.2.1 23 = .ok (.aload_n 0, 1) := by decide +kernel
theorem dm_Hy_addAllBut_24 : decode mm_Hy_addAllBut.2.1 24 = .ok (.aload_n 1, 1) := by decide +kernel
theorem dm_Hy_addAllBut_25 : decode mm_Hy_addAllBut.2.1 25 = .ok (.getfield 11, 3) := by decide +kernel
theorem dm_Hy_addAllBut_28 : decode mm_Hy_addAllBut.2.1 28 = .ok (.iload_n 3, 1) := by decide +kernel
theorem dm_Hy_addAllBut_29 : decode mm_Hy_addAllBut.2.1 29 = .ok (.aaload, 1) := by decide +kernel
theorem dm_Hy_addAllBut_30 : decode mm_Hy_addAllBut.2.1 30 = .ok (.invokevirtual 28, 3) := by decide +kernel
theorem dm_Hy_addAllBut_33 : decode mm_Hy_addAllBut.2.1 33 = .ok (.iinc 3 1, 3) := by decide +kernel
theorem dm_Hy_addAllBut_36 : decode mm_Hy_addAllBut.2.1 36 = .ok (.goto (-34), 3) := by decide +kernel
theorem dm_Hy_addAllBut_39 : decode mm_Hy_addAllBut.2.1 39 = .ok (.return_, 1) := by decide +kernel
theorem dm_Hy_haveFree_0 : decode mm_Hy_haveFree.2.1 0 = .ok (.iconst 0, 1) := by decide +kernel
theorem dm_Hy_haveFree_1 : decode mm_Hy_haveFree.2.1 1 = .ok (.istore_n 2, 1) := by decide +kernel
theorem dm_Hy_haveFree_2 : decode mm_Hy_haveFree.2.1 2 = .ok (.iload_n 2, 1) := by decide +kernel
theorem dm_Hy_haveFree_3 : decode mm_Hy_haveFree.2.1 3 = .ok (.aload_n 0, 1) := by decide +kernel
theorem dm_Hy_haveFree_4 : decode mm_Hy_haveFree.2.1 4 = .ok (.getfield 17, 3) := by decide +kernel
theorem dm_Hy_haveFree_7 : decode mm_Hy_haveFree.2.1 7 = .ok (.if_icmp .ge 24, 3) := by decide +kernel
theorem dm_Hy_haveFree_10 : decode mm_Hy_haveFree.2.1 10 = .ok (.aload_n 0, 1) := by decide +kernel
theorem dm_Hy_haveFree_11 : decode mm_Hy_haveFree.2.1 11 = .ok (.getfield 11, 3) := by decide +kernel
theorem dm_Hy_haveFree_14 : decode mm_Hy_haveFree.2.1 14 = .ok (.iload_n 2, 1) := by decide +kernel
theorem dm_Hy_haveFree_15 : decode mm_Hy_haveFree.2.1 15 = .ok (.aaload, 1) := by decide +kernel
theorem dm_Hy_haveFree_16 : decode mm_Hy_haveFree.2.1 16 = .ok (.aload_n 1, 1) := by decide +kernel
theorem dm_Hy_haveFree_17 : decode mm_Hy_haveFree.2.1 17 = .ok (.invokevirtual 32, 3) := by decide +kernel
theorem dm_Hy_haveFree_20 : decode mm_Hy_haveFree.2.1 20 = .ok (.ifCond .eq 5, 3) := by decide +kernel
theorem dm_Hy_haveFree_23 : decode mm_Hy_haveFree.2.1 23 = .ok (.iconst 1, 1) := by decide +kernel
theorem dm_Hy_haveFree_24 : decode mm_Hy_haveFree.2.1 24 = .ok (.ireturn, 1) := by decide +kernel
theorem dm_Hy_haveFree_25 : decode mm_Hy_haveFree.2.1 25 = .ok (.iinc 2 1, 3) := by decide +kernel
theorem dm_Hy_haveFree_28 : decode mm_Hy_haveFree.2.1 28 = .ok (.goto (-26), 3) := by decide +kernel
theorem dm_Hy_haveFree_31 : decode mm_Hy_haveFree.2.1 31 = .ok (.iconst 0, 1) := by decide +kernel
theorem dm_Hy_haveFree_32 : decode mm_Hy_haveFree.2.1 32 = .ok (.ireturn, 1) := by decide +kernel
theorem dm_Hy_areSmallEnough_0 : decode mm_Hy_areSmallEnough.2.1 0 = .ok (.iconst 0, 1) := by decide +kernel
theorem dm_Hy_areSmallEnough_1 : decode mm_Hy_areSmallEnough.2.1 1 = .ok (.istore_n 1, 1) := by decide +kernel
theorem dm_Hy_areSmallEnough_2 : decode mm_Hy_areSmallEnough.2.1 2 = .ok (.iload_n 1, 1) := by decide +kernel
theorem dm_Hy_areSmallEnough_3 : decode mm_Hy_areSmallEnough.2.1 3 = .ok (.aload_n 0, 1) := by decide +kernel
theorem dm_Hy_areSmallEnough_4 : decode mm_Hy_areSmallEnough.2.1 4 = .ok (.getfield 17, 3) := by decide +kernel
theorem dm_Hy_areSmallEnough_7 : decode mm_Hy_areSmallEnough.2.1 7 = .ok (.if_icmp .ge 25, 3) := by decide +kernel
theorem dm_Hy_areSmallEnough_10 : decode mm_Hy_areSmallEnough.2.1 10 = .ok (.aload_n 0, 1) := by decide +kernel
theorem dm_Hy_areSmallEnough_11 : decode mm_Hy_areSmallEnough.2.1 11 = .ok (.getfield 11, 3) := by decide +kernel
theorem dm_Hy_areSmallEnough_14 : decode mm_Hy_areSmallEnough.2.1 14 = .ok (.iload_n 1, 1) := by decide +kernel
theorem dm_Hy_areSmallEnough_15 : decode mm_Hy_areSmallEnough.2.1 15 = .ok (.aaload, 1) := by decide +kernel
theorem dm_Hy_areSmallEnough_16 : decode mm_Hy_areSmallEnough.2.1 16 = .ok (.getfield 35, 3) := by decide +kernel
theorem dm_Hy_areSmallEnough_19 : decode mm_Hy_areSmallEnough.2.1 19 = .ok (.bipush 40, 2) := by decide +kernel
theorem dm_Hy_areSmallEnough_21 : decode mm_Hy_areSmallEnough.2.1 21 = .ok (.if_icmp .le 5, 3) := by decide +kernel
theorem dm_Hy_areSmallEnough_24 : decode mm_Hy_areSmallEnough.2.1 24 = .ok (.iconst 0, 1) := by decide +kernel
theorem dm_Hy_areSmallEnough_25 : decode mm_Hy_areSmallEnough.2.1 25 = .ok (.ireturn, 1) := by decide +kernel
theorem dm_Hy_areSmallEnough_26 : decode mm_Hy_areSmallEnough.2.1 26 = .ok (.iinc 1 1, 3) := by decide +kernel
theorem dm_Hy_areSmallEnough_29 : decode mm_Hy_areSmallEnough.2.1 29 = .ok (.goto (-27), 3) := by decide +kernel
theorem dm_Hy_areSmallEnough_32 : decode mm_Hy_areSmallEnough.2.1 32 = .ok (.aload_n 0, 1) := by decide +kernel
theorem dm_Hy_areSmallEnough_33 : decode mm_Hy_areSmallEnough.2.1 33 = .ok (.getfield 17, 3) := by decide +kernel
theorem dm_Hy_areSmallEnough_36 : decode mm_Hy_areSmallEnough.2.1 36 = .ok (.iconst 3, 1) := by decide +kernel
theorem dm_Hy_areSmallEnough_37 : decode mm_Hy_areSmallEnough.2.1 37 = .ok (.if_icmp .gt 7, 3) := by decide +kernel
theorem dm_Hy_areSmallEnough_40 : decode mm_Hy_areSmallEnough.2.1 40 = .ok (.iconst 1, 1) := by decide +kernel
theorem dm_Hy_areSmallEnough_41 : decode mm_Hy_areSmallEnough.2.1 41 = .ok (.goto 4, 3) := by decide +kernel
theorem dm_Hy_areSmallEnough_44 : decode mm_Hy_areSmallEnough.2.1 44 = .ok (.iconst 0, 1) := by decide +kernel
theorem dm_Hy_areSmallEnough_45 : decode mm_Hy_areSmallEnough.2.1 45 = .ok (.ireturn, 1) := by decide +kernel
theorem dm_It_init_0 : decode mm_It_init.2.1 0 = .ok (.aload_n 0, 1) := by decide +kernel
theorem dm_It_init_1 : decode mm_It_init.2.1 1 = .ok (.invokespecial 3, 3) := by decide +kernel
theorem dm_It_init_4 : decode mm_It_init.2.1 4 = .ok (.aload_n 0, 1) := by decide +kernel
theorem dm_It_init_5 : decode mm_It_init.2.1 5 = .ok (.iload_n 1, 1) := by decide +kernel
theorem dm_It_init_6 : decode mm_It_init.2.1 6 = .ok (.putfield 9, 3) := by decide +kernel
theorem dm_It_init_9 : decode mm_It_init.2.1 9 = .ok (.aload_n 0, 1) := by decide +kernel
theorem dm_It_init_10 : decode mm_It_init.2.1 10 = .ok (.aload_n 2, 1) := by decide +kernel
theorem dm_It_init_11 : decode mm_It_init.2.1 11 = .ok (.putfield 15, 3) := by decide +kernel
theorem dm_It_init_14 : decode mm_It_init.2.1 14 = .ok (.aload_n 0, 1) := by decide +kernel
theorem dm_It_init_15 : decode mm_It_init.2.1 15 = .ok (.aload_n 3, 1) := by decide +kernel
theorem dm_It_init_16 : decode mm_It_init.2.1 16 = .ok (.putfield 19, 3) := by decide +kernel
theorem dm_It_init_19 : decode mm_It_init.2.1 19 = .ok (.return_, 1) := by decide +kernel
theorem dm_It_isSmallEnough_0 : decode mm_It_isSmallEnough.2.1 0 = .ok (.aload_n 0, 1) := by decide +kernel
theorem dm_It_isSmallEnough_1 : decode mm_It_isSmallEnough.2.1 1 = .ok (.getfield 9, 3) := by decide +kernel
theorem dm_It_isSmallEnough_4 : decode mm_It_isSmallEnough.2.1 4 = .ok (.ifCond .ne 8, 3) := by decide +kernel
theorem dm_It_isSmallEnough_7 : decode mm_It_isSmallEnough.2.1 7 = .ok (.bipush 15, 2) := by decide +kernel
theorem dm_It_isSmallEnough_9 : decode mm_It_isSmallEnough.2.1 9 = .ok (.goto 5, 3) := by decide +kernel
theorem dm_It_isSmallEnough_12 : decode mm_It_isSmallEnough.2.1 12 = .ok (.bipush 40, 2) := by decide +kernel
theorem dm_It_isSmallEnough_14 : decode mm_It_isSmallEnough.2.1 14 = .ok (.istore_n 1, 1) := by decide +kernel
theorem dm_It_isSmallEnough_15 : decode mm_It_isSmallEnough.2.1 15 = .ok (.aload_n 0, 1) := by decide +kernel
theorem dm_It_isSmallEnough_16 : decode mm_It_isSmallEnough.2.1 16 = .ok (.getfield 15, 3) := by decide +kernel
theorem dm_It_isSmallEnough_19 : decode mm_It_isSmallEnough.2.1 19 = .ok (.getfield 23, 3) := by decide +kernel
theorem dm_It_isSmallEnough_22 : decode mm_It_isSmallEnough.2.1 22 = .ok (.iload_n 1, 1) := by decide +kernel
theorem dm_It_isSmallEnough_23 : decode mm_It_isSmallEnough.2.1 23 = .ok (.if_icmp .gt 17, 3) := by decide +kernel
theorem dm_It_isSmallEnough_26 : decode mm_It_isSmallEnough.2.1 26 = .ok (.aload_n 0, 1) := by decide +kernel
theorem dm_It_isSmallEnough_27 : decode mm_It_isSmallEnough.2.1 27 = .ok (.getfield 19, 3) := by decide +kernel
theorem dm_It_isSmallEnough_30 : decode mm_It_isSmallEnough.2.1 30 = .ok (.invokevirtual 28, 3) := by decide +kernel
theorem dm_It_isSmallEnough_33 : decode mm_It_isSmallEnough.2.1 33 = .ok (.ifCond .eq 7, 3) := by decide +kernel
theorem dm_It_isSmallEnough_36 : decode mm_It_isSmallEnough.2.1 36 = .ok (.iconst 1, 1) := by decide +kernel
theorem dm_It_isSmallEnough_37 : decode mm_It_isSmallEnough.2.1 37 = .ok (.goto 4, 3) := by decide +kernel
theorem dm_It_isSmallEnough_40 : decode mm_It_isSmallEnough.2.1 40 = .ok (.iconst 0, 1) := by decide +kernel
theorem dm_It_isSmallEnough_41 : decode mm_It_isSmallEnough.2.1 41 = .ok (.ireturn, 1) := by decide +kernel
theorem dm_Ro_init_0 : decode mm_Ro_init.2.1 0 = .ok (.aload_n 0, 1) := by decide +kernel
theorem dm_Ro_init_1 : decode mm_Ro_init.2.1 1 = .ok (.invokespecial 3, 3) := by decide +kernel
theorem dm_Ro_init_4 : decode mm_Ro_init.2.1 4 = .ok (.iload_n 2, 1) := by decide +kernel
theorem dm_Ro_init_5 : decode mm_Ro_init.2.1 5 = .ok (.ifCond .lt 18, 3) := by decide +kernel
theorem dm_Ro_init_8 : decode mm_Ro_init.2.1 8 = .ok (.iload_n 2, 1) := by decide +kernel
theorem dm_Ro_init_9 : decode mm_Ro_init.2.1 9 = .ok (.iload_n 3, 1) := by decide +kernel
theorem dm_Ro_init_10 : decode mm_Ro_init.2.1 10 = .ok (.if_icmp .gt 13, 3) := by decide +kernel
theorem dm_Ro_init_13 : decode mm_Ro_init.2.1 13 = .ok (.iload_n 3, 1) := by decide +kernel
theorem dm_Ro_init_14 : decode mm_Ro_init.2.1 14 = .ok (.aload_n 1, 1) := by decide +kernel
theorem dm_Ro_init_15 : decode mm_Ro_init.2.1 15 = .ok (.arraylength, 1) := by decide +kernel
theorem dm_Ro_init_16 : decode mm_Ro_init.2.1 16 = .ok (.if_icmp .gt 7, 3) := by decide +kernel
theorem dm_Ro_init_19 : decode mm_Ro_init.2.1 19 = .ok (.iconst 1, 1) := by decide +kernel
theorem dm_Ro_init_20 : decode mm_Ro_init.2.1 20 = .ok (.goto 4, 3) := by decide +kernel
theorem dm_Ro_init_23 : decode mm_Ro_init.2.1 23 = .ok (.iconst 0, 1) := by decide +kernel
theorem dm_Ro_init_24 : decode mm_Ro_init.2.1 24 = .ok (.istore 4, 2) := by decide +kernel
theorem dm_Ro_init_26 : decode mm_Ro_init.2.1 26 = .ok (.aload_n 0, 1) := by decide +kernel
theorem dm_Ro_init_27 : decode mm_Ro_init.2.1 27 = .ok (.aload_n 1, 1) := by decide +kernel
theorem dm_Ro_init_28 : decode mm_Ro_init.2.1 28 = .ok (.putfield 9, 3) := by decide +kernel
theorem dm_Ro_init_31 : decode mm_Ro_init.2.1 31 = .ok (.aload_n 0, 1) := by decide +kernel
theorem dm_Ro_init_32 : decode mm_Ro_init.2.1 32 = .ok (.iload 4, 2) := by decide +kernel
theorem dm_Ro_init_34 : decode mm_Ro_init.2.1 34 = .ok (.ifCond .eq 7, 3) := by decide +kernel
theorem dm_Ro_init_37 : decode mm_Ro_init.2.1 37 = .ok (.iload_n 2, 1) := by decide +kernel
theorem dm_Ro_init_38 : decode mm_Ro_init.2.1 38 = .ok (.goto 4, 3) := by decide +kernel
theorem dm_Ro_init_41 : decode mm_Ro_init.2.1 41 = .ok (.iconst 0, 1) := by decide +kernel
theorem dm_Ro_init_42 : decode mm_Ro_init.2.1 42 = .ok (.putfield 15, 3) := by decide +kernel
theorem dm_Ro_init_45 : decode mm_Ro_init.2.1 45 = .ok (.aload_n 0, 1) := by decide +kernel
theorem dm_Ro_init_46 : decode mm_Ro_init.2.1 46 = .ok (.iload 4, 2) := by decide +kernel
theorem dm_Ro_init_48 : decode mm_Ro_init.2.1 48 = .ok (.ifCond .eq 9, 3) := by decide +kernel
theorem dm_Ro_init_51 : decode mm_Ro_init.2.1 51 = .ok (.iload_n 3, 1) := by decide +kernel
theorem dm_Ro_init_52 : decode mm_Ro_init.2.1 52 = .ok (.iload_n 2, 1) := by decide +kernel
theorem dm_Ro_init_53 : decode mm_Ro_init.2.1 53 = .ok (.isub, 1) := by decide +kernel
theorem dm_Ro_init_54 : decode mm_Ro_init.2.1 54 = .ok (.goto 4, 3) := by decide +kernel
theorem dm_Ro_init_57 : decode mm_Ro_init.2.1 57 = .ok (.iconst 0, 1) := by decide +kernel
theorem dm_Ro_init_58 : decode mm_Ro_init.2.1 58 = .ok (.putfield 19, 3) := by decide +kernel
theorem dm_Ro_init_61 : decode mm_Ro_init.2.1 61 = .ok (.return_, 1) := by decide +kernel
theorem dm_Ro_at_0 : decode mm_Ro_at.2.1 0 = .ok (.iload_n 1, 1) := by decide +kernel
theorem dm_Ro_at_1 : decode mm_Ro_at.2.1 1 = .ok (.ifCond .lt 25, 3) := by decide +kernel
theorem dm_Ro_at_4 : decode mm_Ro_at.2.1 4 = .ok (.iload_n 1, 1) := by decide +kernel
theorem dm_Ro_at_5 : decode mm_Ro_at.2.1 5 = .ok (.aload_n 0, 1) := by decide +kernel
theorem dm_Ro_at_6 : decode mm_Ro_at.2.1 6 = .ok (.getfield 19, 3) := by decide +kernel
theorem dm_Ro_at_9 : decode mm_Ro_at.2.1 9 = .ok (.if_icmp .ge 17, 3) := by decide +kernel
theorem dm_Ro_at_12 : decode mm_Ro_at.2.1 12 = .ok (.aload_n 0, 1) := by decide +kernel
theorem dm_Ro_at_13 : decode mm_Ro_at.2.1 13 = .ok (.getfield 9, 3) := by decide +kernel
theorem dm_Ro_at_16 : decode mm_Ro_at.2.1 16 = .ok (.aload_n 0, 1) := by decide +kernel
theorem dm_Ro_at_17 : decode mm_Ro_at.2.1 17 = .ok (.getfield 15, 3) := by decide +kernel
theorem dm_Ro_at_20 : decode mm_Ro_at.2.1 20 = .ok (.iload_n 1, 1) := by decide +kernel
theorem dm_Ro_at_21 : decode mm_Ro_at.2.1 21 = .ok (.iadd, 1) := by decide +kernel
theorem dm_Ro_at_22 : decode mm_Ro_at.2.1 22 = .ok (.iaload, 1) := by decide +kernel
theorem dm_Ro_at_23 : decode mm_Ro_at.2.1 23 = .ok (.goto 4, 3) := by decide +kernel
theorem dm_Ro_at_26 : decode mm_Ro_at.2.1 26 = .ok (.iconst (-1), 1) := by decide +kernel
theorem dm_Ro_at_27 : decode mm_Ro_at.2.1 27 = .ok (.ireturn, 1) := by decide +kernel
theorem dm_Ro_part_0 : decode mm_Ro_part.2.1 0 = .ok (.new 10, 3) := by decide +kernel
theorem dm_Ro_part_3 : decode mm_Ro_part.2.1 3 = .ok (.dup, 1) := by decide +kernel
theorem dm_Ro_part_4 : decode mm_Ro_part.2.1 4 = .ok (.aload_n 0, 1) := by decide +kernel
theorem dm_Ro_part_5 : decode mm_Ro_part.2.1 5 = .ok (.getfield 9, 3) := by decide +kernel
theorem dm_Ro_part_8 : decode mm_Ro_part.2.1 8 = .ok (.aload_n 0, 1) := by decide +kernel
theorem dm_Ro_part_9 : decode mm_Ro_part.2.1 9 = .ok (.getfield 15, 3) := by decide +kernel
theorem dm_Ro_part_12 : decode mm_Ro_part.2.1 12 = .ok (.iload_n 1, 1) := by decide +kernel
theorem dm_Ro_part_13 : decode mm_Ro_part.2.1 13 = .ok (.iadd, 1) := by decide +kernel
theorem dm_Ro_part_14 : decode mm_Ro_part.2.1 14 = .ok (.aload_n 0, 1) := by decide +kernel
theorem dm_Ro_part_15 : decode mm_Ro_part.2.1 15 = .ok (.getfield 15, 3) := by decide +kernel
theorem dm_Ro_part_18 : decode mm_Ro_part.2.1 18 = .ok (.iload_n 2, 1) := by decide +kernel
theorem dm_Ro_part_19 : decode mm_Ro_part.2.1 19 = .ok (.iadd, 1) := by decide +kernel
theorem dm_Ro_part_20 : decode mm_Ro_part.2.1 20 = .ok (.invokespecial 22, 3) := by decide +kernel
theorem dm_Ro_part_23 : decode mm_Ro_part.2.1 23 = .ok (.areturn, 1) := by decide +kernel
theorem dm_Ro_typeEnd_0 : decode mm_Ro_typeEnd.2.1 0 = .ok (.iconst 1, 1) := by decide +kernel
theorem dm_Ro_typeEnd_1 : decode mm_Ro_typeEnd.2.1 1 = .ok (.istore_n 2, 1) := by decide +kernel
theorem dm_Ro_typeEnd_2 : decode mm_Ro_typeEnd.2.1 2 = .ok (.iload_n 1, 1) := by decide +kernel
theorem dm_Ro_typeEnd_3 : decode mm_Ro_typeEnd.2.1 3 = .ok (.istore_n 3, 1) := by decide +kernel
theorem dm_Ro_typeEnd_4 : decode mm_Ro_typeEnd.2.1 4 = .ok (.iload_n 3, 1) := by decide +kernel
theorem dm_Ro_typeEnd_5 : decode mm_Ro_typeEnd.2.1 5 = .ok (.aload_n 0, 1) := by decide +kernel
theorem dm_Ro_typeEnd_6 : decode mm_Ro_typeEnd.2.1 6 = .ok (.getfield 19, 3) := by decide +kernel
theorem dm_Ro_typeEnd_9 : decode mm_Ro_typeEnd.2.1 9 = .ok (.if_icmp .ge 29, 3) := by decide +kernel
theorem dm_Ro_typeEnd_12 : decode mm_Ro_typeEnd.2.1 12 = .ok (.iload_n 2, 1) := by decide +kernel
theorem dm_Ro_typeEnd_13 : decode mm_Ro_typeEnd.2.1 13 = .ok (.ifCond .le 25, 3) := by decide +kernel
theorem dm_Ro_typeEnd_16 : decode mm_Ro_typeEnd.2.1 16 = .ok (.iload_n 2, 1) := by decide +kernel
theorem dm_Ro_typeEnd_17 : decode mm_Ro_typeEnd.2.1 17 = .ok (.aload_n 0, 1) := by decide +kernel
theorem dm_Ro_typeEnd_18 : decode mm_Ro_typeEnd.2.1 18 = .ok (.iload_n 3, 1) := by decide +kernel
theorem dm_Ro_typeEnd_19 : decode mm_Ro_typeEnd.2.1 19 = .ok (.invokevirtual 25, 3) := by decide +kernel
theorem dm_Ro_typeEnd_22 : decode mm_Ro_typeEnd.2.1 22 = .ok (.ifCond .ne 7, 3) := by decide +kernel
theorem dm_Ro_typeEnd_25 : decode mm_Ro_typeEnd.2.1 25 = .ok (.iconst 1, 1) := by decide +kernel
theorem dm_Ro_typeEnd_26 : decode mm_Ro_typeEnd.2.1 26 = .ok (.goto 4, 3) := by decide +kernel
theorem dm_Ro_typeEnd_29 : decode mm_Ro_typeEnd.2.1 29 = .ok (.iconst (-1), 1) := by decide +kernel
theorem dm_Ro_typeEnd_30 : decode mm_Ro_typeEnd.2.1 30 = .ok (.iadd, 1) := by decide +kernel
theorem dm_Ro_typeEnd_31 : decode mm_Ro_typeEnd.2.1 31 = .ok (.istore_n 2, 1) := by decide +kernel
theorem dm_Ro_typeEnd_32 : decode mm_Ro_typeEnd.2.1 32 = .ok (.iinc 3 1, 3) := by decide +kernel
theorem dm_Ro_typeEnd_35 : decode mm_Ro_typeEnd.2.1 35 = .ok (.goto (-31), 3) := by decide +kernel
theorem dm_Ro_typeEnd_38 : decode mm_Ro_typeEnd.2.1 38 = .ok (.iload_n 3, 1) := by decide +kernel
theorem dm_Ro_typeEnd_39 : decode mm_Ro_typeEnd.2.1 39 = .ok (.ireturn, 1) := by decide +kernel
theorem dm_Ro_termEnd_0 : decode mm_Ro_termEnd.2.1 0 = .ok (.iconst 1, 1) := by decide +kernel
theorem dm_Ro_termEnd_1 : decode mm_Ro_termEnd.2.1 1 = .ok (.istore_n 2, 1) := by decide +kernel
theorem dm_Ro_termEnd_2 : decode mm_Ro_termEnd.2.1 2 = .ok (.iload_n 1, 1) := by decide +kernel
theorem dm_Ro_termEnd_3 : decode mm_Ro_termEnd.2.1 3 = .ok (.istore_n 3, 1) := by decide +kernel
theorem dm_Ro_termEnd_4 : decode mm_Ro_termEnd.2.1 4 = .ok (.iload_n 3, 1) := by decide +kernel
theorem dm_Ro_termEnd_5 : decode mm_Ro_termEnd.2.1 5 = .ok (.aload_n 0, 1) := by decide +kernel
theorem dm_Ro_termEnd_6 : decode mm_Ro_termEnd.2.1 6 = .ok (.getfield 19, 3) := by decide +kernel
theorem dm_Ro_termEnd_9 : decode mm_Ro_termEnd.2.1 9 = .ok (.if_icmp .ge 55, 3) := by decide +kernel
theorem dm_Ro_termEnd_12 : decode mm_Ro_termEnd.2.1 12 = .ok (.aload_n 0, 1) := by decide +kernel
theorem dm_Ro_termEnd_13 : decode mm_Ro_termEnd.2.1 13 = .ok (.iload_n 3, 1) := by decide +kernel
theorem dm_Ro_termEnd_14 : decode mm_Ro_termEnd.2.1 14 = .ok (.invokevirtual 25, 3) := by decide +kernel
theorem dm_Ro_termEnd_17 : decode mm_Ro_termEnd.2.1 17 = .ok (.bipush 10, 2) := by decide +kernel
theorem dm_Ro_termEnd_19 : decode mm_Ro_termEnd.2.1 19 = .ok (.if_icmp .lt 7, 3) := by decide +kernel
theorem dm_Ro_termEnd_22 : decode mm_Ro_termEnd.2.1 22 = .ok (.iconst 1, 1) := by decide +kernel
theorem dm_Ro_termEnd_23 : decode mm_Ro_termEnd.2.1 23 = .ok (.goto 4, 3) := by decide +kernel
theorem dm_Ro_termEnd_26 : decode mm_Ro_termEnd.2.1 26 = .ok (.iconst 0, 1) := by decide +kernel
theorem dm_Ro_termEnd_27 : decode mm_Ro_termEnd.2.1 27 = .ok (.istore 4, 2) := by decide +kernel
theorem dm_Ro_termEnd_29 : decode mm_Ro_termEnd.2.1 29 = .ok (.iload 4, 2) := by decide +kernel
theorem dm_Ro_termEnd_31 : decode mm_Ro_termEnd.2.1 31 = .ok (.ifCond .eq 9, 3) := by decide +kernel
theorem dm_Ro_termEnd_34 : decode mm_Ro_termEnd.2.1 34 = .ok (.iload_n 2, 1) := by decide +kernel
theorem dm_Ro_termEnd_35 : decode mm_Ro_termEnd.2.1 35 = .ok (.ifCond .ne 5, 3) := by decide +kernel
theorem dm_Ro_termEnd_38 : decode mm_Ro_termEnd.2.1 38 = .ok (.iload_n 3, 1) := by decide +kernel
theorem dm_Ro_termEnd_39 : decode mm_Ro_termEnd.2.1 39 = .ok (.ireturn, 1) := by decide +kernel
theorem dm_Ro_termEnd_40 : decode mm_Ro_termEnd.2.1 40 = .ok (.iload 4, 2) := by decide +kernel
theorem dm_Ro_termEnd_42 : decode mm_Ro_termEnd.2.1 42 = .ok (.ifCond .eq 16, 3) := by decide +kernel
theorem dm_Ro_termEnd_45 : decode mm_Ro_termEnd.2.1 45 = .ok (.iload_n 2, 1) := by decide +kernel
theorem dm_Ro_termEnd_46 : decode mm_Ro_termEnd.2.1 46 = .ok (.aload_n 0, 1) := by decide +kernel
theorem dm_Ro_termEnd_47 : decode mm_Ro_termEnd.2.1 47 = .ok (.iload_n 3, 1) := by decide +kernel
theorem dm_Ro_termEnd_48 : decode mm_Ro_termEnd.2.1 48 = .ok (.invokevirtual 25, 3) := by decide +kernel
theorem dm_Ro_termEnd_51 : decode mm_Ro_termEnd.2.1 51 = .ok (.invokestatic 29, 3) := by decide +kernel
theorem dm_Ro_termEnd_54 : decode mm_Ro_termEnd.2.1 54 = .ok (.iconst 1, 1) := by decide +kernel
theorem dm_Ro_termEnd_55 : decode mm_Ro_termEnd.2.1 55 = .ok (.isub, 1) := by decide +kernel
theorem dm_Ro_termEnd_56 : decode mm_Ro_termEnd.2.1 56 = .ok (.iadd, 1) := by decide +kernel
theorem dm_Ro_termEnd_57 : decode mm_Ro_termEnd.2.1 57 = .ok (.istore_n 2, 1) := by decide +kernel
theorem dm_Ro_termEnd_58 : decode mm_Ro_termEnd.2.1 58 = .ok (.iinc 3 1, 3) := by decide +kernel
theorem dm_Ro_termEnd_61 : decode mm_Ro_termEnd.2.1 61 = .ok (.goto (-57), 3) := by decide +kernel
theorem dm_Ro_termEnd_64 : decode mm_Ro_termEnd.2.1 64 = .ok (.aload_n 0, 1) := by decide +kernel
theorem dm_Ro_termEnd_65 : decode mm_Ro_termEnd.2.1 65 = .ok (.getfield 19, 3) := by decide +kernel
theorem dm_Ro_termEnd_68 : decode mm_Ro_termEnd.2.1 68 = .ok (.ireturn, 1) := by decide +kernel
theorem dm_Ro_typeAt_0 : decode mm_Ro_typeAt.2.1 0 = .ok (.new 10, 3) := by decide +kernel
theorem dm_Ro_typeAt_3 : decode mm_Ro_typeAt.2.1 3 = .ok (.dup, 1) := by decide +kernel
theorem dm_Ro_typeAt_4 : decode mm_Ro_typeAt.2.1 4 = .ok (.aload_n 0, 1) := by decide +kernel
theorem dm_Ro_typeAt_5 : decode mm_Ro_typeAt.2.1 5 = .ok (.getfield 9, 3) := by decide +kernel
theorem dm_Ro_typeAt_8 : decode mm_Ro_typeAt.2.1 8 = .ok (.aload_n 0, 1) := by decide +kernel
theorem dm_Ro_typeAt_9 : decode mm_Ro_typeAt.2.1 9 = .ok (.getfield 15, 3) := by decide +kernel
theorem dm_Ro_typeAt_12 : decode mm_Ro_typeAt.2.1 12 = .ok (.iload_n 1, 1) := by decide +kernel
theorem dm_Ro_typeAt_13 : decode mm_Ro_typeAt.2.1 13 = .ok (.iadd, 1) := by decide +kernel
theorem dm_Ro_typeAt_14 : decode mm_Ro_typeAt.2.1 14 = .ok (.aload_n 0, 1) := by decide +kernel
theorem dm_Ro_typeAt_15 : decode mm_Ro_typeAt.2.1 15 = .ok (.getfield 15, 3) := by decide +kernel
theorem dm_Ro_typeAt_18 : decode mm_Ro_typeAt.2.1 18 = .ok (.aload_n 0, 1) := by decide +kernel
theorem dm_Ro_typeAt_19 : decode mm_Ro_typeAt.2.1 19 = .ok (.iload_n 1, 1) := by decide +kernel
theorem dm_Ro_typeAt_20 : decode mm_Ro_typeAt.2.1 20 = .ok (.invokevirtual 32, 3) := by decide +kernel
theorem dm_Ro_typeAt_23 : decode mm_Ro_typeAt.2.1 23 = .ok (.iadd, 1) := by decide +kernel
theorem dm_Ro_typeAt_24 : decode mm_Ro_typeAt.2.1 24 = .ok (.invokespecial 22, 3) := by decide +kernel
theorem dm_Ro_typeAt_27 : decode mm_Ro_typeAt.2.1 27 = .ok (.areturn, 1) := by decide +kernel
theorem dm_Ro_functionArgument_0 : decode mm_Ro_functionArgument.2.1 0 = .ok (.aload_n 0, 1) := by decide +kernel
theorem dm_Ro_functionArgument_1 : decode mm_Ro_functionArgument.2.1 1 = .ok (.iconst 1, 1) := by decide +kernel
theorem dm_Ro_functionArgument_2 : decode mm_Ro_functionArgument.2.1 2 = .ok (.invokevirtual 35, 3) := by decide +kernel
theorem dm_Ro_functionArgument_5 : decode mm_Ro_functionArgument.2.1 5 = .ok (.areturn, 1) := by decide +kernel
theorem dm_Ro_functionResult_0 : decode mm_Ro_functionResult.2.1 0 = .ok (.new 10, 3) := by decide +kernel
theorem dm_Ro_functionResult_3 : decode mm_Ro_functionResult.2.1 3 = .ok (.dup, 1) := by decide +kernel
theorem dm_Ro_functionResult_4 : decode mm_Ro_functionResult.2.1 4 = .ok (.aload_n 0, 1) := by decide +kernel
theorem dm_Ro_functionResult_5 : decode mm_Ro_functionResult.2.1 5 = .ok (.getfield 9, 3) := by decide +kernel
theorem dm_Ro_functionResult_8 : decode mm_Ro_functionResult.2.1 8 = .ok (.aload_n 0, 1) := by decide +kernel
theorem dm_Ro_functionResult_9 : decode mm_Ro_functionResult.2.1 9 = .ok (.getfield 15, 3) := by decide +kernel
theorem dm_Ro_functionResult_12 : decode mm_Ro_functionResult.2.1 12 = .ok (.aload_n 0, 1) := by decide +kernel
theorem dm_Ro_functionResult_13 : decode mm_Ro_functionResult.2.1 13 = .ok (.iconst 1, 1) := by decide +kernel
theorem dm_Ro_functionResult_14 : decode mm_Ro_functionResult.2.1 14 = .ok (.invokevirtual 32, 3) := by decide +kernel
theorem dm_Ro_functionResult_17 : decode mm_Ro_functionResult.2.1 17 = .ok (.iadd, 1) := by decide +kernel
theorem dm_Ro_functionResult_18 : decode mm_Ro_functionResult.2.1 18 = .ok (.aload_n 0, 1) := by decide +kernel
theorem dm_Ro_functionResult_19 : decode mm_Ro_functionResult.2.1 19 = .ok (.getfield 15, 3) := by decide +kernel
theorem dm_Ro_functionResult_22 : decode mm_Ro_functionResult.2.1 22 = .ok (.aload_n 0, 1) := by decide +kernel
theorem dm_Ro_functionResult_23 : decode mm_Ro_functionResult.2.1 23 = .ok (.getfield 19, 3) := by decide +kernel
theorem dm_Ro_functionResult_26 : decode mm_Ro_functionResult.2.1 26 = .ok (.iadd, 1) := by decide +kernel
theorem dm_Ro_functionResult_27 : decode mm_Ro_functionResult.2.1 27 = .ok (.invokespecial 22, 3) := by decide +kernel
theorem dm_Ro_functionResult_30 : decode mm_Ro_functionResult.2.1 30 = .ok (.areturn, 1) := by decide +kernel
theorem dm_Ro_same_0 : decode mm_Ro_same.2.1 0 = .ok (.aload_n 0, 1) := by decide +kernel
theorem dm_Ro_same_1 : decode mm_Ro_same.2.1 1 = .ok (.getfield 19, 3) := by decide +kernel
theorem dm_Ro_same_4 : decode mm_Ro_same.2.1 4 = .ok (.aload_n 1, 1) := by decide +kernel
theorem dm_Ro_same_5 : decode mm_Ro_same.2.1 5 = .ok (.getfield 19, 3) := by decide +kernel
theorem dm_Ro_same_8 : decode mm_Ro_same.2.1 8 = .ok (.if_icmp .ne 16, 3) := by decide +kernel
theorem dm_Ro_same_11 : decode mm_Ro_same.2.1 11 = .ok (.aload_n 0, 1) := by decide +kernel
theorem dm_Ro_same_12 : decode mm_Ro_same.2.1 12 = .ok (.iconst 0, 1) := by decide +kernel
theorem dm_Ro_same_13 : decode mm_Ro_same.2.1 13 = .ok (.aload_n 1, 1) := by decide +kernel
theorem dm_Ro_same_14 : decode mm_Ro_same.2.1 14 = .ok (.invokevirtual 39, 3) := by decide +kernel
theorem dm_Ro_same_17 : decode mm_Ro_same.2.1 17 = .ok (.ifCond .eq 7, 3) := by decide +kernel
theorem dm_Ro_same_20 : decode mm_Ro_same.2.1 20 = .ok (.iconst 1, 1) := by decide +kernel
theorem dm_Ro_same_21 : decode mm_Ro_same.2.1 21 = .ok (.goto 4, 3) := by decide +kernel
theorem dm_Ro_same_24 : decode mm_Ro_same.2.1 24 = .ok (.iconst 0, 1) := by decide +kernel
theorem dm_Ro_same_25 : decode mm_Ro_same.2.1 25 = .ok (.ireturn, 1) := by decide +kernel
theorem dm_Ro_holdsAt_0 : decode mm_Ro_holdsAt.2.1 0 = .ok (.iconst 0, 1) := by decide +kernel
theorem dm_Ro_holdsAt_1 : decode mm_Ro_holdsAt.2.1 1 = .ok (.istore_n 3, 1) := by decide +kernel
theorem dm_Ro_holdsAt_2 : decode mm_Ro_holdsAt.2.1 2 = .ok (.iload_n 3, 1) := by decide +kernel
theorem dm_Ro_holdsAt_3 : decode mm_Ro_holdsAt.2.1 3 = .ok (.aload_n 2, 1) := by decide +kernel
theorem dm_Ro_holdsAt_4 : decode mm_Ro_holdsAt.2.1 4 = .ok (.getfield 19, 3) := by decide +kernel
theorem dm_Ro_holdsAt_7 : decode mm_Ro_holdsAt.2.1 7 = .ok (.if_icmp .ge 26, 3) := by decide +kernel
theorem dm_Ro_holdsAt_10 : decode mm_Ro_holdsAt.2.1 10 = .ok (.aload_n 0, 1) := by decide +kernel
theorem dm_Ro_holdsAt_11 : decode mm_Ro_holdsAt.2.1 11 = .ok (.iload_n 1, 1) := by decide +kernel
theorem dm_Ro_holdsAt_12 : decode mm_Ro_holdsAt.2.1 12 = .ok (.iload_n 3, 1) := by decide +kernel
theorem dm_Ro_holdsAt_13 : decode mm_Ro_holdsAt.2.1 13 = .ok (.iadd, 1) := by decide +kernel
theorem dm_Ro_holdsAt_14 : decode mm_Ro_holdsAt.2.1 14 = .ok (.invokevirtual 25, 3) := by decide +kernel
theorem dm_Ro_holdsAt_17 : decode mm_Ro_holdsAt.2.1 17 = .ok (.aload_n 2, 1) := by decide +kernel
theorem dm_Ro_holdsAt_18 : decode mm_Ro_holdsAt.2.1 18 = .ok (.iload_n 3, 1) := by decide +kernel
theorem dm_Ro_holdsAt_19 : decode mm_Ro_holdsAt.2.1 19 = .ok (.invokevirtual 25, 3) := by decide +kernel
theorem dm_Ro_holdsAt_22 : decode mm_Ro_holdsAt.2.1 22 = .ok (.if_icmp .eq 5, 3) := by decide +kernel
theorem dm_Ro_holdsAt_25 : decode mm_Ro_holdsAt.2.1 25 = .ok (.iconst 0, 1) := by decide +kernel
theorem dm_Ro_holdsAt_26 : decode mm_Ro_holdsAt.2.1 26 = .ok (.ireturn, 1) := by decide +kernel
theorem dm_Ro_holdsAt_27 : decode mm_Ro_holdsAt.2.1 27 = .ok (.iinc 3 1, 3) := by decide +kernel
theorem dm_Ro_holdsAt_30 : decode mm_Ro_holdsAt.2.1 30 = .ok (.goto (-28), 3) := by decide +kernel
theorem dm_Ro_holdsAt_33 : decode mm_Ro_holdsAt.2.1 33 = .ok (.iconst 1, 1) := by decide +kernel
theorem dm_Ro_holdsAt_34 : decode mm_Ro_holdsAt.2.1 34 = .ok (.ireturn, 1) := by decide +kernel
theorem dm_Ro_comesBefore_0 : decode mm_Ro_comesBefore.2.1 0 = .ok (.iconst 0, 1) := by decide +kernel
theorem dm_Ro_comesBefore_1 : decode mm_Ro_comesBefore.2.1 1 = .ok (.istore_n 2, 1) := by decide +kernel
theorem dm_Ro_comesBefore_2 : decode mm_Ro_comesBefore.2.1 2 = .ok (.iload_n 2, 1) := by decide +kernel
theorem dm_Ro_comesBefore_3 : decode mm_Ro_comesBefore.2.1 3 = .ok (.aload_n 0, 1) := by decide +kernel
theorem dm_Ro_comesBefore_4 : decode mm_Ro_comesBefore.2.1 4 = .ok (.getfield 19, 3) := by decide +kernel
theorem dm_Ro_comesBefore_7 : decode mm_Ro_comesBefore.2.1 7 = .ok (.if_icmp .ge 41, 3) := by decide +kernel
theorem dm_Ro_comesBefore_10 : decode mm_Ro_comesBefore.2.1 10 = .ok (.aload_n 0, 1) := by decide +kernel
theorem dm_Ro_comesBefore_11 : decode mm_Ro_comesBefore.2.1 11 = .ok (.iload_n 2, 1) := by decide +kernel
theorem dm_Ro_comesBefore_12 : decode mm_Ro_comesBefore.2.1 12 = .ok (.invokevirtual 25, 3) := by decide +kernel
theorem dm_Ro_comesBefore_15 : decode mm_Ro_comesBefore.2.1 15 = .ok (.aload_n 1, 1) := by decide +kernel
theorem dm_Ro_comesBefore_16 : decode mm_Ro_comesBefore.2.1 16 = .ok (.iload_n 2, 1) := by decide +kernel
theorem dm_Ro_comesBefore_17 : decode mm_Ro_comesBefore.2.1 17 = .ok (.invokevirtual 25, 3) := by decide +kernel
theorem dm_Ro_comesBefore_20 : decode mm_Ro_comesBefore.2.1 20 = .ok (.if_icmp .eq 22, 3) := by decide +kernel
theorem dm_Ro_comesBefore_23 : decode mm_Ro_comesBefore.2.1 23 = .ok (.aload_n 0, 1) := by decide +kernel
theorem dm_Ro_comesBefore_24 : decode mm_Ro_comesBefore.2.1 24 = .ok (.iload_n 2, 1) := by decide +kernel
theorem dm_Ro_comesBefore_25 : decode mm_Ro_comesBefore.2.1 25 = .ok (.invokevirtual 25, 3) := by decide +kernel
theorem dm_Ro_comesBefore_28 : decode mm_Ro_comesBefore.2.1 28 = .ok (.aload_n 1, 1) := by decide +kernel
theorem dm_Ro_comesBefore_29 : decode mm_Ro_comesBefore.2.1 29 = .ok (.iload_n 2, 1) := by decide +kernel
theorem dm_Ro_comesBefore_30 : decode mm_Ro_comesBefore.2.1 30 = .ok (.invokevirtual 25, 3) := by decide +kernel
theorem dm_Ro_comesBefore_33 : decode mm_Ro_comesBefore.2.1 33 = .ok (.if_icmp .ge 7, 3) := by decide +kernel
theorem dm_Ro_comesBefore_36 : decode mm_Ro_comesBefore.2.1 36 = .ok (.iconst 1, 1) := by decide +kernel
theorem dm_Ro_comesBefore_37 : decode mm_Ro_comesBefore.2.1 37 = .ok (.goto 4, 3) := by decide +kernel
theorem dm_Ro_comesBefore_40 : decode mm_Ro_comesBefore.2.1 40 = .ok (.iconst 0, 1) := by decide +kernel
theorem dm_Ro_comesBefore_41 : decode mm_Ro_comesBefore.2.1 41 = .ok (.ireturn, 1) := by decide +kernel
theorem dm_Ro_comesBefore_42 : decode mm_Ro_comesBefore.2.1 42 = .ok (.iinc 2 1, 3) := by decide +kernel
theorem dm_Ro_comesBefore_45 : decode mm_Ro_comesBefore.2.1 45 = .ok (.goto (-43), 3) := by decide +kernel
theorem dm_Ro_comesBefore_48 : decode mm_Ro_comesBefore.2.1 48 = .ok (.iconst 0, 1) := by decide +kernel
theorem dm_Ro_comesBefore_49 : decode mm_Ro_comesBefore.2.1 49 = .ok (.ireturn, 1) := by decide +kernel
theorem dm_Ro_hasFree_0 : decode mm_Ro_hasFree.2.1 0 = .ok (.iconst 0, 1) := by decide +kernel
theorem dm_Ro_hasFree_1 : decode mm_Ro_hasFree.2.1 1 = .ok (.istore_n 2, 1) := by decide +kernel
theorem dm_Ro_hasFree_2 : decode mm_Ro_hasFree.2.1 2 = .ok (.iload_n 2, 1) := by decide +kernel
theorem dm_Ro_hasFree_3 : decode mm_Ro_hasFree.2.1 3 = .ok (.aload_n 0, 1) := by decide +kernel
theorem dm_Ro_hasFree_4 : decode mm_Ro_hasFree.2.1 4 = .ok (.getfield 19, 3) := by decide +kernel
theorem dm_Ro_hasFree_7 : decode mm_Ro_hasFree.2.1 7 = .ok (.if_icmp .ge 20, 3) := by decide +kernel
theorem dm_Ro_hasFree_10 : decode mm_Ro_hasFree.2.1 10 = .ok (.aload_n 0, 1) := by decide +kernel
theorem dm_Ro_hasFree_11 : decode mm_Ro_hasFree.2.1 11 = .ok (.iload_n 2, 1) := by decide +kernel
theorem dm_Ro_hasFree_12 : decode mm_Ro_hasFree.2.1 12 = .ok (.aload_n 1, 1) := by decide +kernel
theorem dm_Ro_hasFree_13 : decode mm_Ro_hasFree.2.1 13 = .ok (.invokevirtual 39, 3) := by decide +kernel
theorem dm_Ro_hasFree_16 : decode mm_Ro_hasFree.2.1 16 = .ok (.ifCond .eq 5, 3) := by decide +kernel
theorem dm_Ro_hasFree_19 : decode mm_Ro_hasFree.2.1 19 = .ok (.iconst 1, 1) := by decide +kernel
theorem dm_Ro_hasFree_20 : decode mm_Ro_hasFree.2.1 20 = .ok (.ireturn, 1) := by decide +kernel
theorem dm_Ro_hasFree_21 : decode mm_Ro_hasFree.2.1 21 = .ok (.iinc 2 1, 3) := by decide +kernel
theorem dm_Ro_hasFree_24 : decode mm_Ro_hasFree.2.1 24 = .ok (.goto (-22), 3) := by decide +kernel
theorem dm_Ro_hasFree_27 : decode mm_Ro_hasFree.2.1 27 = .ok (.iconst 0, 1) := by decide +kernel
theorem dm_Ro_hasFree_28 : decode mm_Ro_hasFree.2.1 28 = .ok (.ireturn, 1) := by decide +kernel
theorem dm_Ro_hasFreeVariable_0 : decode mm_Ro_hasFreeVariable.2.1 0 = .ok (.aload_n 0, 1) := by decide +kernel
theorem dm_Ro_hasFreeVariable_1 : decode mm_Ro_hasFreeVariable.2.1 1 = .ok (.bipush 10, 2) := by decide +kernel
theorem dm_Ro_hasFreeVariable_3 : decode mm_Ro_hasFreeVariable.2.1 3 = .ok (.invokevirtual 43, 3) := by decide +kernel
theorem dm_Ro_hasFreeVariable_6 : decode mm_Ro_hasFreeVariable.2.1 6 = .ok (.ireturn, 1) := by decide +kernel
theorem dm_Ro_has_0 : decode mm_Ro_has.2.1 0 = .ok (.iconst 0, 1) := by decide +kernel
theorem dm_Ro_has_1 : decode mm_Ro_has.2.1 1 = .ok (.istore_n 2, 1) := by decide +kernel
theorem dm_Ro_has_2 : decode mm_Ro_has.2.1 2 = .ok (.iload_n 2, 1) := by decide +kernel
theorem dm_Ro_has_3 : decode mm_Ro_has.2.1 3 = .ok (.aload_n 0, 1) := by decide +kernel
theorem dm_Ro_has_4 : decode mm_Ro_has.2.1 4 = .ok (.getfield 19, 3) := by decide +kernel
theorem dm_Ro_has_7 : decode mm_Ro_has.2.1 7 = .ok (.if_icmp .ge 20, 3) := by decide +kernel
theorem dm_Ro_has_10 : decode mm_Ro_has.2.1 10 = .ok (.aload_n 0, 1) := by decide +kernel
theorem dm_Ro_has_11 : decode mm_Ro_has.2.1 11 = .ok (.iload_n 2, 1) := by decide +kernel
theorem dm_Ro_has_12 : decode mm_Ro_has.2.1 12 = .ok (.invokevirtual 25, 3) := by decide +kernel
theorem dm_Ro_has_15 : decode mm_Ro_has.2.1 15 = .ok (.iload_n 1, 1) := by decide +kernel
theorem dm_Ro_has_16 : decode mm_Ro_has.2.1 16 = .ok (.if_icmp .ne 5, 3) := by decide +kernel
theorem dm_Ro_has_19 : decode mm_Ro_has.2.1 19 = .ok (.iconst 1, 1) := by decide +kernel
theorem dm_Ro_has_20 : decode mm_Ro_has.2.1 20 = .ok (.ireturn, 1) := by decide +kernel
theorem dm_Ro_has_21 : decode mm_Ro_has.2.1 21 = .ok (.iinc 2 1, 3) := by decide +kernel
theorem dm_Ro_has_24 : decode mm_Ro_has.2.1 24 = .ok (.goto (-22), 3) := by decide +kernel
theorem dm_Ro_has_27 : decode mm_Ro_has.2.1 27 = .ok (.iconst 0, 1) := by decide +kernel
theorem dm_Ro_has_28 : decode mm_Ro_has.2.1 28 = .ok (.ireturn, 1) := by decide +kernel
theorem dm_Ro_typeVariablesStandIn_0 : decode mm_Ro_typeVariablesStandIn.2.1 0 = .ok (.iconst 0, 1) := by decide +kernel
theorem dm_Ro_typeVariablesStandIn_1 : decode mm_Ro_typeVariablesStandIn.2.1 1 = .ok (.istore_n 2, 1) := by decide +kernel
theorem dm_Ro_typeVariablesStandIn_2 : decode mm_Ro_typeVariablesStandIn.2.1 2 = .ok (.iload_n 2, 1) := by decide +kernel
theorem dm_Ro_typeVariablesStandIn_3 : decode mm_Ro_typeVariablesStandIn.2.1 3 = .ok (.aload_n 0, 1) := by decide +kernel
theorem dm_Ro_typeVariablesStandIn_4 : decode mm_Ro_typeVariablesStandIn.2.1 4 = .ok (.getfield 19, 3) := by decide +kernel
theorem dm_Ro_typeVariablesStandIn_7 : decode mm_Ro_typeVariablesStandIn.2.1 7 = .ok (.if_icmp .ge 40, 3) := by decide +kernel
theorem dm_Ro_typeVariablesStandIn_10 : decode mm_Ro_typeVariablesStandIn.2.1 10 = .ok (.aload_n 0, 1) := by decide +kernel
theorem dm_Ro_typeVariablesStandIn_11 : decode mm_Ro_typeVariablesStandIn.2.1 11 = .ok (.iload_n 2, 1) := by decide +kernel
theorem dm_Ro_typeVariablesStandIn_12 : decode mm_Ro_typeVariablesStandIn.2.1 12 = .ok (.invokevirtual 47, 3) := by decide +kernel
theorem dm_Ro_typeVariablesStandIn_15 : decode mm_Ro_typeVariablesStandIn.2.1 15 = .ok (.ifCond .eq 26, 3) := by decide +kernel
theorem dm_Ro_typeVariablesStandIn_18 : decode mm_Ro_typeVariablesStandIn.2.1 18 = .ok (.aload_n 0, 1) := by decide +kernel
theorem dm_Ro_typeVariablesStandIn_19 : decode mm_Ro_typeVariablesStandIn.2.1 19 = .ok (.iload_n 2, 1) := by decide +kernel
theorem dm_Ro_typeVariablesStandIn_20 : decode mm_Ro_typeVariablesStandIn.2.1 20 = .ok (.invokevirtual 25, 3) := by decide +kernel
theorem dm_Ro_typeVariablesStandIn_23 : decode mm_Ro_typeVariablesStandIn.2.1 23 = .ok (.iconst 2, 1) := by decide +kernel
theorem dm_Ro_typeVariablesStandIn_24 : decode mm_Ro_typeVariablesStandIn.2.1 24 = .ok (.if_icmp .lt 17, 3) := by decide +kernel
theorem dm_Ro_typeVariablesStandIn_27 : decode mm_Ro_typeVariablesStandIn.2.1 27 = .ok (.aload_n 1, 1) := by decide +kernel
theorem dm_Ro_typeVariablesStandIn_28 : decode mm_Ro_typeVariablesStandIn.2.1 28 = .ok (.aload_n 0, 1) := by decide +kernel
theorem dm_Ro_typeVariablesStandIn_29 : decode mm_Ro_typeVariablesStandIn.2.1 29 = .ok (.iload_n 2, 1) := by decide +kernel
theorem dm_Ro_typeVariablesStandIn_30 : decode mm_Ro_typeVariablesStandIn.2.1 30 = .ok (.invokevirtual 25, 3) := by decide +kernel
theorem dm_Ro_typeVariablesStandIn_33 : decode mm_Ro_typeVariablesStandIn.2.1 33 = .ok (.invokevirtual 43, 3) := by decide +kernel
theorem dm_Ro_typeVariablesStandIn_36 : decode mm_Ro_typeVariablesStandIn.2.1 36 = .ok (.ifCond .ne 5, 3) := by decide +kernel
theorem dm_Ro_typeVariablesStandIn_39 : decode mm_Ro_typeVariablesStandIn.2.1 39 = .ok (.iconst 0, 1) := by decide +kernel
theorem dm_Ro_typeVariablesStandIn_40 : decode mm_Ro_typeVariablesStandIn.2.1 40 = .ok (.ireturn, 1) := by decide +kernel
theorem dm_Ro_typeVariablesStandIn_41 : decode mm_Ro_typeVariablesStandIn.2.1 41 = .ok (.iinc 2 1, 3) := by decide +kernel
theorem dm_Ro_typeVariablesStandIn_44 : decode mm_Ro_typeVariablesStandIn.2.1 44 = .ok (.goto (-42), 3) := by decide +kernel
theorem dm_Ro_typeVariablesStandIn_47 : decode mm_Ro_typeVariablesStandIn.2.1 47 = .ok (.iconst 1, 1) := by decide +kernel
theorem dm_Ro_typeVariablesStandIn_48 : decode mm_Ro_typeVariablesStandIn.2.1 48 = .ok (.ireturn, 1) := by decide +kernel
theorem dm_Ro_isOfType_0 : decode mm_Ro_isOfType.2.1 0 = .ok (.aload_n 0, 1) := by decide +kernel
theorem dm_Ro_isOfType_1 : decode mm_Ro_isOfType.2.1 1 = .ok (.iload_n 1, 1) := by decide +kernel
theorem dm_Ro_isOfType_2 : decode mm_Ro_isOfType.2.1 2 = .ok (.iconst 1, 1) := by decide +kernel
theorem dm_Ro_isOfType_3 : decode mm_Ro_isOfType.2.1 3 = .ok (.isub, 1) := by decide +kernel
theorem dm_Ro_isOfType_4 : decode mm_Ro_isOfType.2.1 4 = .ok (.invokevirtual 25, 3) := by decide +kernel
theorem dm_Ro_isOfType_7 : decode mm_Ro_isOfType.2.1 7 = .ok (.istore_n 2, 1) := by decide +kernel
theorem dm_Ro_isOfType_8 : decode mm_Ro_isOfType.2.1 8 = .ok (.aload_n 0, 1) := by decide +kernel
theorem dm_Ro_isOfType_9 : decode mm_Ro_isOfType.2.1 9 = .ok (.iload_n 1, 1) := by decide +kernel
theorem dm_Ro_isOfType_10 : decode mm_Ro_isOfType.2.1 10 = .ok (.invokevirtual 25, 3) := by decide +kernel
theorem dm_Ro_isOfType_13 : decode mm_Ro_isOfType.2.1 13 = .ok (.bipush 10, 2) := by decide +kernel
theorem dm_Ro_isOfType_15 : decode mm_Ro_isOfType.2.1 15 = .ok (.if_icmp .ge 19, 3) := by decide +kernel
theorem dm_Ro_isOfType_18 : decode mm_Ro_isOfType.2.1 18 = .ok (.iload_n 2, 1) := by decide +kernel
theorem dm_Ro_isOfType_19 : decode mm_Ro_isOfType.2.1 19 = .ok (.bipush 10, 2) := by decide +kernel
theorem dm_Ro_isOfType_21 : decode mm_Ro_isOfType.2.1 21 = .ok (.if_icmp .eq 13, 3) := by decide +kernel
theorem dm_Ro_isOfType_24 : decode mm_Ro_isOfType.2.1 24 = .ok (.iload_n 2, 1) := by decide +kernel
theorem dm_Ro_isOfType_25 : decode mm_Ro_isOfType.2.1 25 = .ok (.bipush 11, 2) := by decide +kernel
theorem dm_Ro_isOfType_27 : decode mm_Ro_isOfType.2.1 27 = .ok (.if_icmp .eq 7, 3) := by decide +kernel
theorem dm_Ro_isOfType_30 : decode mm_Ro_isOfType.2.1 30 = .ok (.iconst 1, 1) := by decide +kernel
theorem dm_Ro_isOfType_31 : decode mm_Ro_isOfType.2.1 31 = .ok (.goto 4, 3) := by decide +kernel
theorem dm_Ro_isOfType_34 : decode mm_Ro_isOfType.2.1 34 = .ok (.iconst 0, 1) := by decide +kernel
theorem dm_Ro_isOfType_35 : decode mm_Ro_isOfType.2.1 35 = .ok (.ireturn, 1) := by decide +kernel
theorem dm_Ro_termsWithin_0 : decode mm_Ro_termsWithin.2.1 0 = .ok (.iload_n 0, 1) := by decide +kernel
theorem dm_Ro_termsWithin_1 : decode mm_Ro_termsWithin.2.1 1 = .ok (.bipush 12, 2) := by decide +kernel
theorem dm_Ro_termsWithin_3 : decode mm_Ro_termsWithin.2.1 3 = .ok (.if_icmp .ne 5, 3) := by decide +kernel
theorem dm_Ro_termsWithin_6 : decode mm_Ro_termsWithin.2.1 6 = .ok (.iconst 2, 1) := by decide +kernel
theorem dm_Ro_termsWithin_7 : decode mm_Ro_termsWithin.2.1 7 = .ok (.ireturn, 1) := by decide +kernel
theorem dm_Ro_termsWithin_8 : decode mm_Ro_termsWithin.2.1 8 = .ok (.iload_n 0, 1) := by decide +kernel
theorem dm_Ro_termsWithin_9 : decode mm_Ro_termsWithin.2.1 9 = .ok (.bipush 13, 2) := by decide +kernel
theorem dm_Ro_termsWithin_11 : decode mm_Ro_termsWithin.2.1 11 = .ok (.if_icmp .ne 7, 3) := by decide +kernel
theorem dm_Ro_termsWithin_14 : decode mm_Ro_termsWithin.2.1 14 = .ok (.iconst 1, 1) := by decide +kernel
theorem dm_Ro_termsWithin_15 : decode mm_Ro_termsWithin.2.1 15 = .ok (.goto 4, 3) := by decide +kernel
theorem dm_Ro_termsWithin_18 : decode mm_Ro_termsWithin.2.1 18 = .ok (.iconst 0, 1) := by decide +kernel
theorem dm_Ro_termsWithin_19 : decode mm_Ro_termsWithin.2.1 19 = .ok (.ireturn, 1) := by decide +kernel
theorem dm_Sc_init_0 : decode mm_Sc_init.2.1 0 = .ok (.aload_n 0, 1) := by decide +kernel
theorem dm_Sc_init_1 : decode mm_Sc_init.2.1 1 = .ok (.invokespecial 3, 3) := by decide +kernel
theorem dm_Sc_init_4 : decode mm_Sc_init.2.1 4 = .ok (.aload_n 0, 1) := by decide +kernel
theorem dm_Sc_init_5 : decode mm_Sc_init.2.1 5 = .ok (.bipush 81, 2) := by decide +kernel
theorem dm_Sc_init_7 : decode mm_Sc_init.2.1 7 = .ok (.newarray .int, 2) := by decide +kernel
theorem dm_Sc_init_9 : decode mm_Sc_init.2.1 9 = .ok (.putfield 9, 3) := by decide +kernel
theorem dm_Sc_init_12 : decode mm_Sc_init.2.1 12 = .ok (.aload_n 0, 1) := by decide +kernel
theorem dm_Sc_init_13 : decode mm_Sc_init.2.1 13 = .ok (.new 15, 3) := by decide +kernel
theorem dm_Sc_init_16 : decode mm_Sc_init.2.1 16 = .ok (.dup, 1) := by decide +kernel
theorem dm_Sc_init_17 : decode mm_Sc_init.2.1 17 = .ok (.invokespecial 17, 3) := by decide +kernel
theorem dm_Sc_init_20 : decode mm_Sc_init.2.1 20 = .ok (.putfield 18, 3) := by decide +kernel
theorem dm_Sc_init_23 : decode mm_Sc_init.2.1 23 = .ok (.aload_n 0, 1) := by decide +kernel
theorem dm_Sc_init_24 : decode mm_Sc_init.2.1 24 = .ok (.bipush 40, 2) := by decide +kernel
theorem dm_Sc_init_26 : decode mm_Sc_init.2.1 26 = .ok (.anewarray 22, 3) := by decide +kernel
theorem dm_Sc_init_29 : decode mm_Sc_init.2.1 29 = .ok (.putfield 24, 3) := by decide +kernel
theorem dm_Sc_init_32 : decode mm_Sc_init.2.1 32 = .ok (.return_, 1) := by decide +kernel
theorem dm_Sc_simpleType_0 : decode mm_Sc_simpleType.2.1 0 = .ok (.aload_n 0, 1) := by decide +kernel
theorem dm_Sc_simpleType_1 : decode mm_Sc_simpleType.2.1 1 = .ok (.iload_n 1, 1) := by decide +kernel
theorem dm_Sc_simpleType_2 : decode mm_Sc_simpleType.2.1 2 = .ok (.invokevirtual 28, 3) := by decide +kernel
theorem dm_Sc_simpleType_5 : decode mm_Sc_simpleType.2.1 5 = .ok (.aload_n 0, 1) := by decide +kernel
theorem dm_Sc_simpleType_6 : decode mm_Sc_simpleType.2.1 6 = .ok (.invokevirtual 32, 3) := by decide +kernel
theorem dm_Sc_simpleType_9 : decode mm_Sc_simpleType.2.1 9 = .ok (.areturn, 1) := by decide +kernel
theorem dm_Sc_functionType_0 : decode mm_Sc_functionType.2.1 0 = .ok (.aload_n 0, 1) := by decide +kernel
theorem dm_Sc_functionType_1 : decode mm_Sc_functionType.2.1 1 = .ok (.iconst 0, 1) := by decide +kernel
theorem dm_Sc_functionType_2 : decode mm_Sc_functionType.2.1 2 = .ok (.invokevirtual 28, 3) := by decide +kernel
theorem dm_Sc_functionType_5 : decode mm_Sc_functionType.2.1 5 = .ok (.aload_n 0, 1) := by decide +kernel
theorem dm_Sc_functionType_6 : decode mm_Sc_functionType.2.1 6 = .ok (.aload_n 1, 1) := by decide +kernel
theorem dm_Sc_functionType_7 : decode mm_Sc_functionType.2.1 7 = .ok (.invokevirtual 36, 3) := by decide +kernel
theorem dm_Sc_functionType_10 : decode mm_Sc_functionType.2.1 10 = .ok (.aload_n 0, 1) := by decide +kernel
theorem dm_Sc_functionType_11 : decode mm_Sc_functionType.2.1 11 = .ok (.aload_n 2, 1) := by decide +kernel
theorem dm_Sc_functionType_12 : decode mm_Sc_functionType.2.1 12 = .ok (.invokevirtual 36, 3) := by decide +kernel
theorem dm_Sc_functionType_15 : decode mm_Sc_functionType.2.1 15 = .ok (.aload_n 0, 1) := by decide +kernel
theorem dm_Sc_functionType_16 : decode mm_Sc_functionType.2.1 16 = .ok (.invokevirtual 32, 3) := by decide +kernel
theorem dm_Sc_functionType_19 : decode mm_Sc_functionType.2.1 19 = .ok (.areturn, 1) := by decide +kernel
theorem dm_Sc_leaf_0 : decode mm_Sc_leaf.2.1 0 = .ok (.aload_n 0, 1) := by decide +kernel
theorem dm_Sc_leaf_1 : decode mm_Sc_leaf.2.1 1 = .ok (.iload_n 1, 1) := by decide +kernel
theorem dm_Sc_leaf_2 : decode mm_Sc_leaf.2.1 2 = .ok (.invokevirtual 28, 3) := by decide +kernel
theorem dm_Sc_leaf_5 : decode mm_Sc_leaf.2.1 5 = .ok (.aload_n 0, 1) := by decide +kernel
theorem dm_Sc_leaf_6 : decode mm_Sc_leaf.2.1 6 = .ok (.iload_n 2, 1) := by decide +kernel
theorem dm_Sc_leaf_7 : decode mm_Sc_leaf.2.1 7 = .ok (.invokevirtual 28, 3) := by decide +kernel
theorem dm_Sc_leaf_10 : decode mm_Sc_leaf.2.1 10 = .ok (.aload_n 0, 1) := by decide +kernel
theorem dm_Sc_leaf_11 : decode mm_Sc_leaf.2.1 11 = .ok (.aload_n 3, 1) := by decide +kernel
theorem dm_Sc_leaf_12 : decode mm_Sc_leaf.2.1 12 = .ok (.invokevirtual 36, 3) := by decide +kernel
theorem dm_Sc_leaf_15 : decode mm_Sc_leaf.2.1 15 = .ok (.aload_n 0, 1) := by decide +kernel
theorem dm_Sc_leaf_16 : decode mm_Sc_leaf.2.1 16 = .ok (.invokevirtual 32, 3) := by decide +kernel
theorem dm_Sc_leaf_19 : decode mm_Sc_leaf.2.1 19 = .ok (.areturn, 1) := by decide +kernel
theorem dm_Sc_application_0 : decode mm_Sc_application.2.1 0 = .ok (.aload_n 0, 1) := by decide +kernel
theorem dm_Sc_application_1 : decode mm_Sc_application.2.1 1 = .ok (.bipush 12, 2) := by decide +kernel
theorem dm_Sc_application_3 : decode mm_Sc_application.2.1 3 = .ok (.invokevirtual 28, 3) := by decide +kernel
theorem dm_Sc_application_6 : decode mm_Sc_application.2.1 6 = .ok (.aload_n 0, 1) := by decide +kernel
theorem dm_Sc_application_7 : decode mm_Sc_application.2.1 7 = .ok (.aload_n 1, 1) := by decide +kernel
theorem dm_Sc_application_8 : decode mm_Sc_application.2.1 8 = .ok (.invokevirtual 36, 3) := by decide +kernel
theorem dm_Sc_application_11 : decode mm_Sc_application.2.1 11 = .ok (.aload_n 0, 1) := by decide +kernel
theorem dm_Sc_application_12 : decode mm_Sc_application.2.1 12 = .ok (.aload_n 2, 1) := by decide +kernel
theorem dm_Sc_application_13 : decode mm_Sc_application.2.1 13 = .ok (.invokevirtual 36, 3) := by decide +kernel
theorem dm_Sc_application_16 : decode mm_Sc_application.2.1 16 = .ok (.aload_n 0, 1) := by decide +kernel
theorem dm_Sc_application_17 : decode mm_Sc_application.2.1 17 = .ok (.invokevirtual 32, 3) := by decide +kernel
theorem dm_Sc_application_20 : decode mm_Sc_application.2.1 20 = .ok (.areturn, 1) := by decide +kernel
theorem dm_Sc_equation_0 : decode mm_Sc_equation.2.1 0 = .ok (.aload_n 0, 1) := by decide +kernel
theorem dm_Sc_equation_1 : decode mm_Sc_equation.2.1 1 = .ok (.bipush 12, 2) := by decide +kernel
theorem dm_Sc_equation_3 : decode mm_Sc_equation.2.1 3 = .ok (.invokevirtual 28, 3) := by decide +kernel
theorem dm_Sc_equation_6 : decode mm_Sc_equation.2.1 6 = .ok (.aload_n 0, 1) := by decide +kernel
theorem dm_Sc_equation_7 : decode mm_Sc_equation.2.1 7 = .ok (.bipush 12, 2) := by decide +kernel
theorem dm_Sc_equation_9 : decode mm_Sc_equation.2.1 9 = .ok (.invokevirtual 28, 3) := by decide +kernel
theorem dm_Sc_equation_12 : decode mm_Sc_equation.2.1 12 = .ok (.aload_n 0, 1) := by decide +kernel
theorem dm_Sc_equation_13 : decode mm_Sc_equation.2.1 13 = .ok (.bipush 11, 2) := by decide +kernel
theorem dm_Sc_equation_15 : decode mm_Sc_equation.2.1 15 = .ok (.invokevirtual 28, 3) := by decide +kernel
theorem dm_Sc_equation_18 : decode mm_Sc_equation.2.1 18 = .ok (.aload_n 0, 1) := by decide +kernel
theorem dm_Sc_equation_19 : decode mm_Sc_equation.2.1 19 = .ok (.iconst 0, 1) := by decide +kernel
theorem dm_Sc_equation_20 : decode mm_Sc_equation.2.1 20 = .ok (.invokevirtual 28, 3) := by decide +kernel
theorem dm_Sc_equation_23 : decode mm_Sc_equation.2.1 23 = .ok (.aload_n 0, 1) := by decide +kernel
theorem dm_Sc_equation_24 : decode mm_Sc_equation.2.1 24 = .ok (.aload_n 1, 1) := by decide +kernel
theorem dm_Sc_equation_25 : decode mm_Sc_equation.2.1 25 = .ok (.invokevirtual 36, 3) := by decide +kernel
theorem dm_Sc_equation_28 : decode mm_Sc_equation.2.1 28 = .ok (.aload_n 0, 1) := by decide +kernel
theorem dm_Sc_equation_29 : decode mm_Sc_equation.2.1 29 = .ok (.aload_n 2, 1) := by decide +kernel
theorem dm_Sc_equation_30 : decode mm_Sc_equation.2.1 30 = .ok (.invokevirtual 36, 3) := by decide +kernel
end
section
theorem dm_Sc_equation_33 : decode mm_Sc_equation.2.1 33 = .ok (.aload_n 0, 1) := by decide +kernel
theorem dm_Sc_equation_34 : decode mm_Sc_equation.2.1 34 = .ok (.aload_n 3, 1) := by decide +kernel
theorem dm_Sc_equation_35 : decode mm_Sc_equation.2.1 35 = .ok (.invokevirtual 36, 3) := by decide +kernel
theorem dm_Sc_equation_38 : decode mm_Sc_equation.2.1 38 = .ok (.aload_n 0, 1) := by decide +kernel
theorem dm_Sc_equation_39 : decode mm_Sc_equation.2.1 39 = .ok (.invokevirtual 32, 3) := by decide +kernel
theorem dm_Sc_equation_42 : decode mm_Sc_equation.2.1 42 = .ok (.areturn, 1) := by decide +kernel
theorem dm_Sc_abstraction_0 : decode mm_Sc_abstraction.2.1 0 = .ok (.aload_n 0, 1) := by decide +kernel
theorem dm_Sc_abstraction_1 : decode mm_Sc_abstraction.2.1 1 = .ok (.bipush 13, 2) := by decide +kernel
theorem dm_Sc_abstraction_3 : decode mm_Sc_abstraction.2.1 3 = .ok (.invokevirtual 28, 3) := by decide +kernel
theorem dm_Sc_abstraction_6 : decode mm_Sc_abstraction.2.1 6 = .ok (.aload_n 0, 1) := by decide +kernel
theorem dm_Sc_abstraction_7 : decode mm_Sc_abstraction.2.1 7 = .ok (.aload_n 1, 1) := by decide +kernel
theorem dm_Sc_abstraction_8 : decode mm_Sc_abstraction.2.1 8 = .ok (.iconst 2, 1) := by decide +kernel
theorem dm_Sc_abstraction_9 : decode mm_Sc_abstraction.2.1 9 = .ok (.invokevirtual 40, 3) := by decide +kernel
theorem dm_Sc_abstraction_12 : decode mm_Sc_abstraction.2.1 12 = .ok (.invokevirtual 36, 3) := by decide +kernel
theorem dm_Sc_abstraction_15 : decode mm_Sc_abstraction.2.1 15 = .ok (.aload_n 0, 1) := by decide +kernel
theorem dm_Sc_abstraction_16 : decode mm_Sc_abstraction.2.1 16 = .ok (.getfield 18, 3) := by decide +kernel
theorem dm_Sc_abstraction_19 : decode mm_Sc_abstraction.2.1 19 = .ok (.invokevirtual 44, 3) := by decide +kernel
theorem dm_Sc_abstraction_22 : decode mm_Sc_abstraction.2.1 22 = .ok (.iconst 0, 1) := by decide +kernel
theorem dm_Sc_abstraction_23 : decode mm_Sc_abstraction.2.1 23 = .ok (.istore_n 3, 1) := by decide +kernel
theorem dm_Sc_abstraction_24 : decode mm_Sc_abstraction.2.1 24 = .ok (.iconst 0, 1) := by decide +kernel
theorem dm_Sc_abstraction_25 : decode mm_Sc_abstraction.2.1 25 = .ok (.istore 4, 2) := by decide +kernel
theorem dm_Sc_abstraction_27 : decode mm_Sc_abstraction.2.1 27 = .ok (.iload 4, 2) := by decide +kernel
theorem dm_Sc_abstraction_29 : decode mm_Sc_abstraction.2.1 29 = .ok (.aload_n 2, 1) := by decide +kernel
theorem dm_Sc_abstraction_30 : decode mm_Sc_abstraction.2.1 30 = .ok (.getfield 47, 3) := by decide +kernel
theorem dm_Sc_abstraction_33 : decode mm_Sc_abstraction.2.1 33 = .ok (.if_icmp .ge 73, 3) := by decide +kernel
theorem dm_Sc_abstraction_36 : decode mm_Sc_abstraction.2.1 36 = .ok (.aload_n 0, 1) := by decide +kernel
theorem dm_Sc_abstraction_37 : decode mm_Sc_abstraction.2.1 37 = .ok (.getfield 18, 3) := by decide +kernel
theorem dm_Sc_abstraction_40 : decode mm_Sc_abstraction.2.1 40 = .ok (.aload_n 2, 1) := by decide +kernel
theorem dm_Sc_abstraction_41 : decode mm_Sc_abstraction.2.1 41 = .ok (.iload 4, 2) := by decide +kernel
theorem dm_Sc_abstraction_43 : decode mm_Sc_abstraction.2.1 43 = .ok (.invokevirtual 51, 3) := by decide +kernel
theorem dm_Sc_abstraction_46 : decode mm_Sc_abstraction.2.1 46 = .ok (.invokevirtual 55, 3) := by decide +kernel
theorem dm_Sc_abstraction_49 : decode mm_Sc_abstraction.2.1 49 = .ok (.aload_n 2, 1) := by decide +kernel
theorem dm_Sc_abstraction_50 : decode mm_Sc_abstraction.2.1 50 = .ok (.iload 4, 2) := by decide +kernel
theorem dm_Sc_abstraction_52 : decode mm_Sc_abstraction.2.1 52 = .ok (.aload_n 1, 1) := by decide +kernel
theorem dm_Sc_abstraction_53 : decode mm_Sc_abstraction.2.1 53 = .ok (.invokevirtual 58, 3) := by decide +kernel
theorem dm_Sc_abstraction_56 : decode mm_Sc_abstraction.2.1 56 = .ok (.ifCond .eq 28, 3) := by decide +kernel
theorem dm_Sc_abstraction_59 : decode mm_Sc_abstraction.2.1 59 = .ok (.aload_n 0, 1) := by decide +kernel
theorem dm_Sc_abstraction_60 : decode mm_Sc_abstraction.2.1 60 = .ok (.bipush 20, 2) := by decide +kernel
theorem dm_Sc_abstraction_62 : decode mm_Sc_abstraction.2.1 62 = .ok (.aload_n 0, 1) := by decide +kernel
theorem dm_Sc_abstraction_63 : decode mm_Sc_abstraction.2.1 63 = .ok (.getfield 18, 3) := by decide +kernel
theorem dm_Sc_abstraction_66 : decode mm_Sc_abstraction.2.1 66 = .ok (.getfield 62, 3) := by decide +kernel
theorem dm_Sc_abstraction_69 : decode mm_Sc_abstraction.2.1 69 = .ok (.iadd, 1) := by decide +kernel
theorem dm_Sc_abstraction_70 : decode mm_Sc_abstraction.2.1 70 = .ok (.invokevirtual 28, 3) := by decide +kernel
theorem dm_Sc_abstraction_73 : decode mm_Sc_abstraction.2.1 73 = .ok (.iload 4, 2) := by decide +kernel
theorem dm_Sc_abstraction_75 : decode mm_Sc_abstraction.2.1 75 = .ok (.aload_n 1, 1) := by decide +kernel
theorem dm_Sc_abstraction_76 : decode mm_Sc_abstraction.2.1 76 = .ok (.getfield 47, 3) := by decide +kernel
theorem dm_Sc_abstraction_79 : decode mm_Sc_abstraction.2.1 79 = .ok (.iadd, 1) := by decide +kernel
theorem dm_Sc_abstraction_80 : decode mm_Sc_abstraction.2.1 80 = .ok (.istore_n 3, 1) := by decide +kernel
theorem dm_Sc_abstraction_81 : decode mm_Sc_abstraction.2.1 81 = .ok (.goto 19, 3) := by decide +kernel
theorem dm_Sc_abstraction_84 : decode mm_Sc_abstraction.2.1 84 = .ok (.iload 4, 2) := by decide +kernel
theorem dm_Sc_abstraction_86 : decode mm_Sc_abstraction.2.1 86 = .ok (.iload_n 3, 1) := by decide +kernel
theorem dm_Sc_abstraction_87 : decode mm_Sc_abstraction.2.1 87 = .ok (.if_icmp .lt 13, 3) := by decide +kernel
theorem dm_Sc_abstraction_90 : decode mm_Sc_abstraction.2.1 90 = .ok (.aload_n 0, 1) := by decide +kernel
theorem dm_Sc_abstraction_91 : decode mm_Sc_abstraction.2.1 91 = .ok (.aload_n 2, 1) := by decide +kernel
theorem dm_Sc_abstraction_92 : decode mm_Sc_abstraction.2.1 92 = .ok (.iload 4, 2) := by decide +kernel
theorem dm_Sc_abstraction_94 : decode mm_Sc_abstraction.2.1 94 = .ok (.invokevirtual 51, 3) := by decide +kernel
theorem dm_Sc_abstraction_97 : decode mm_Sc_abstraction.2.1 97 = .ok (.invokevirtual 28, 3) := by decide +kernel
theorem dm_Sc_abstraction_100 : decode mm_Sc_abstraction.2.1 100 = .ok (.iinc 4 1, 3) := by decide +kernel
theorem dm_Sc_abstraction_103 : decode mm_Sc_abstraction.2.1 103 = .ok (.goto (-76), 3) := by decide +kernel
theorem dm_Sc_abstraction_106 : decode mm_Sc_abstraction.2.1 106 = .ok (.aload_n 0, 1) := by decide +kernel
theorem dm_Sc_abstraction_107 : decode mm_Sc_abstraction.2.1 107 = .ok (.invokevirtual 32, 3) := by decide +kernel
theorem dm_Sc_abstraction_110 : decode mm_Sc_abstraction.2.1 110 = .ok (.areturn, 1) := by decide +kernel
theorem dm_Sc_replaceVariable_0 : decode mm_Sc_replaceVariable.2.1 0 = .ok (.iconst 0, 1) := by decide +kernel
theorem dm_Sc_replaceVariable_1 : decode mm_Sc_replaceVariable.2.1 1 = .ok (.istore 4, 2) := by decide +kernel
theorem dm_Sc_replaceVariable_3 : decode mm_Sc_replaceVariable.2.1 3 = .ok (.iconst 0, 1) := by decide +kernel
theorem dm_Sc_replaceVariable_4 : decode mm_Sc_replaceVariable.2.1 4 = .ok (.istore 5, 2) := by decide +kernel
theorem dm_Sc_replaceVariable_6 : decode mm_Sc_replaceVariable.2.1 6 = .ok (.iload 5, 2) := by decide +kernel
theorem dm_Sc_replaceVariable_8 : decode mm_Sc_replaceVariable.2.1 8 = .ok (.aload_n 1, 1) := by decide +kernel
theorem dm_Sc_replaceVariable_9 : decode mm_Sc_replaceVariable.2.1 9 = .ok (.getfield 47, 3) := by decide +kernel
theorem dm_Sc_replaceVariable_12 : decode mm_Sc_replaceVariable.2.1 12 = .ok (.if_icmp .ge 53, 3) := by decide +kernel
theorem dm_Sc_replaceVariable_15 : decode mm_Sc_replaceVariable.2.1 15 = .ok (.aload_n 1, 1) := by decide +kernel
theorem dm_Sc_replaceVariable_16 : decode mm_Sc_replaceVariable.2.1 16 = .ok (.iload 5, 2) := by decide +kernel
theorem dm_Sc_replaceVariable_18 : decode mm_Sc_replaceVariable.2.1 18 = .ok (.aload_n 2, 1) := by decide +kernel
theorem dm_Sc_replaceVariable_19 : decode mm_Sc_replaceVariable.2.1 19 = .ok (.invokevirtual 58, 3) := by decide +kernel
theorem dm_Sc_replaceVariable_22 : decode mm_Sc_replaceVariable.2.1 22 = .ok (.ifCond .eq 20, 3) := by decide +kernel
theorem dm_Sc_replaceVariable_25 : decode mm_Sc_replaceVariable.2.1 25 = .ok (.aload_n 0, 1) := by decide +kernel
theorem dm_Sc_replaceVariable_26 : decode mm_Sc_replaceVariable.2.1 26 = .ok (.aload_n 3, 1) := by decide +kernel
theorem dm_Sc_replaceVariable_27 : decode mm_Sc_replaceVariable.2.1 27 = .ok (.invokevirtual 36, 3) := by decide +kernel
theorem dm_Sc_replaceVariable_30 : decode mm_Sc_replaceVariable.2.1 30 = .ok (.iload 5, 2) := by decide +kernel
theorem dm_Sc_replaceVariable_32 : decode mm_Sc_replaceVariable.2.1 32 = .ok (.aload_n 2, 1) := by decide +kernel
theorem dm_Sc_replaceVariable_33 : decode mm_Sc_replaceVariable.2.1 33 = .ok (.getfield 47, 3) := by decide +kernel
theorem dm_Sc_replaceVariable_36 : decode mm_Sc_replaceVariable.2.1 36 = .ok (.iadd, 1) := by decide +kernel
theorem dm_Sc_replaceVariable_37 : decode mm_Sc_replaceVariable.2.1 37 = .ok (.istore 4, 2) := by decide +kernel
theorem dm_Sc_replaceVariable_39 : decode mm_Sc_replaceVariable.2.1 39 = .ok (.goto 20, 3) := by decide +kernel
theorem dm_Sc_replaceVariable_42 : decode mm_Sc_replaceVariable.2.1 42 = .ok (.iload 5, 2) := by decide +kernel
theorem dm_Sc_replaceVariable_44 : decode mm_Sc_replaceVariable.2.1 44 = .ok (.iload 4, 2) := by decide +kernel
theorem dm_Sc_replaceVariable_46 : decode mm_Sc_replaceVariable.2.1 46 = .ok (.if_icmp .lt 13, 3) := by decide +kernel
theorem dm_Sc_replaceVariable_49 : decode mm_Sc_replaceVariable.2.1 49 = .ok (.aload_n 0, 1) := by decide +kernel
theorem dm_Sc_replaceVariable_50 : decode mm_Sc_replaceVariable.2.1 50 = .ok (.aload_n 1, 1) := by decide +kernel
theorem dm_Sc_replaceVariable_51 : decode mm_Sc_replaceVariable.2.1 51 = .ok (.iload 5, 2) := by decide +kernel
theorem dm_Sc_replaceVariable_53 : decode mm_Sc_replaceVariable.2.1 53 = .ok (.invokevirtual 51, 3) := by decide +kernel
theorem dm_Sc_replaceVariable_56 : decode mm_Sc_replaceVariable.2.1 56 = .ok (.invokevirtual 28, 3) := by decide +kernel
theorem dm_Sc_replaceVariable_59 : decode mm_Sc_replaceVariable.2.1 59 = .ok (.iinc 5 1, 3) := by decide +kernel
theorem dm_Sc_replaceVariable_62 : decode mm_Sc_replaceVariable.2.1 62 = .ok (.goto (-56), 3) := by decide +kernel
theorem dm_Sc_replaceVariable_65 : decode mm_Sc_replaceVariable.2.1 65 = .ok (.aload_n 0, 1) := by decide +kernel
theorem dm_Sc_replaceVariable_66 : decode mm_Sc_replaceVariable.2.1 66 = .ok (.invokevirtual 32, 3) := by decide +kernel
theorem dm_Sc_replaceVariable_69 : decode mm_Sc_replaceVariable.2.1 69 = .ok (.areturn, 1) := by decide +kernel
theorem dm_Sc_replaceOutermost_0 : decode mm_Sc_replaceOutermost.2.1 0 = .ok (.aload_n 0, 1) := by decide +kernel
theorem dm_Sc_replaceOutermost_1 : decode mm_Sc_replaceOutermost.2.1 1 = .ok (.getfield 18, 3) := by decide +kernel
theorem dm_Sc_replaceOutermost_4 : decode mm_Sc_replaceOutermost.2.1 4 = .ok (.invokevirtual 44, 3) := by decide +kernel
theorem dm_Sc_replaceOutermost_7 : decode mm_Sc_replaceOutermost.2.1 7 = .ok (.iconst 0, 1) := by decide +kernel
theorem dm_Sc_replaceOutermost_8 : decode mm_Sc_replaceOutermost.2.1 8 = .ok (.istore_n 3, 1) := by decide +kernel
theorem dm_Sc_replaceOutermost_9 : decode mm_Sc_replaceOutermost.2.1 9 = .ok (.iload_n 3, 1) := by decide +kernel
theorem dm_Sc_replaceOutermost_10 : decode mm_Sc_replaceOutermost.2.1 10 = .ok (.aload_n 1, 1) := by decide +kernel
theorem dm_Sc_replaceOutermost_11 : decode mm_Sc_replaceOutermost.2.1 11 = .ok (.getfield 47, 3) := by decide +kernel
theorem dm_Sc_replaceOutermost_14 : decode mm_Sc_replaceOutermost.2.1 14 = .ok (.if_icmp .ge 56, 3) := by decide +kernel
theorem dm_Sc_replaceOutermost_17 : decode mm_Sc_replaceOutermost.2.1 17 = .ok (.aload_n 0, 1) := by decide +kernel
theorem dm_Sc_replaceOutermost_18 : decode mm_Sc_replaceOutermost.2.1 18 = .ok (.getfield 18, 3) := by decide +kernel
theorem dm_Sc_replaceOutermost_21 : decode mm_Sc_replaceOutermost.2.1 21 = .ok (.aload_n 1, 1) := by decide +kernel
theorem dm_Sc_replaceOutermost_22 : decode mm_Sc_replaceOutermost.2.1 22 = .ok (.iload_n 3, 1) := by decide +kernel
theorem dm_Sc_replaceOutermost_23 : decode mm_Sc_replaceOutermost.2.1 23 = .ok (.invokevirtual 51, 3) := by decide +kernel
theorem dm_Sc_replaceOutermost_26 : decode mm_Sc_replaceOutermost.2.1 26 = .ok (.invokevirtual 55, 3) := by decide +kernel
theorem dm_Sc_replaceOutermost_29 : decode mm_Sc_replaceOutermost.2.1 29 = .ok (.aload_n 1, 1) := by decide +kernel
theorem dm_Sc_replaceOutermost_30 : decode mm_Sc_replaceOutermost.2.1 30 = .ok (.iload_n 3, 1) := by decide +kernel
theorem dm_Sc_replaceOutermost_31 : decode mm_Sc_replaceOutermost.2.1 31 = .ok (.invokevirtual 51, 3) := by decide +kernel
theorem dm_Sc_replaceOutermost_34 : decode mm_Sc_replaceOutermost.2.1 34 = .ok (.bipush 20, 2) := by decide +kernel
theorem dm_Sc_replaceOutermost_36 : decode mm_Sc_replaceOutermost.2.1 36 = .ok (.aload_n 0, 1) := by decide +kernel
theorem dm_Sc_replaceOutermost_37 : decode mm_Sc_replaceOutermost.2.1 37 = .ok (.getfield 18, 3) := by decide +kernel
theorem dm_Sc_replaceOutermost_40 : decode mm_Sc_replaceOutermost.2.1 40 = .ok (.getfield 62, 3) := by decide +kernel
theorem dm_Sc_replaceOutermost_43 : decode mm_Sc_replaceOutermost.2.1 43 = .ok (.iadd, 1) := by decide +kernel
theorem dm_Sc_replaceOutermost_44 : decode mm_Sc_replaceOutermost.2.1 44 = .ok (.if_icmp .ne 11, 3) := by decide +kernel
theorem dm_Sc_replaceOutermost_47 : decode mm_Sc_replaceOutermost.2.1 47 = .ok (.aload_n 0, 1) := by decide +kernel
theorem dm_Sc_replaceOutermost_48 : decode mm_Sc_replaceOutermost.2.1 48 = .ok (.aload_n 2, 1) := by decide +kernel
theorem dm_Sc_replaceOutermost_49 : decode mm_Sc_replaceOutermost.2.1 49 = .ok (.invokevirtual 36, 3) := by decide +kernel
theorem dm_Sc_replaceOutermost_52 : decode mm_Sc_replaceOutermost.2.1 52 = .ok (.goto 12, 3) := by decide +kernel
theorem dm_Sc_replaceOutermost_55 : decode mm_Sc_replaceOutermost.2.1 55 = .ok (.aload_n 0, 1) := by decide +kernel
theorem dm_Sc_replaceOutermost_56 : decode mm_Sc_replaceOutermost.2.1 56 = .ok (.aload_n 1, 1) := by decide +kernel
theorem dm_Sc_replaceOutermost_57 : decode mm_Sc_replaceOutermost.2.1 57 = .ok (.iload_n 3, 1) := by decide +kernel
theorem dm_Sc_replaceOutermost_58 : decode mm_Sc_replaceOutermost.2.1 58 = .ok (.invokevirtual 51, 3) := by decide +kernel
theorem dm_Sc_replaceOutermost_61 : decode mm_Sc_replaceOutermost.2.1 61 = .ok (.invokevirtual 28, 3) := by decide +kernel
theorem dm_Sc_replaceOutermost_64 : decode mm_Sc_replaceOutermost.2.1 64 = .ok (.iinc 3 1, 3) := by decide +kernel
theorem dm_Sc_replaceOutermost_67 : decode mm_Sc_replaceOutermost.2.1 67 = .ok (.goto (-58), 3) := by decide +kernel
theorem dm_Sc_replaceOutermost_70 : decode mm_Sc_replaceOutermost.2.1 70 = .ok (.aload_n 0, 1) := by decide +kernel
theorem dm_Sc_replaceOutermost_71 : decode mm_Sc_replaceOutermost.2.1 71 = .ok (.invokevirtual 32, 3) := by decide +kernel
theorem dm_Sc_replaceOutermost_74 : decode mm_Sc_replaceOutermost.2.1 74 = .ok (.areturn, 1) := by decide +kernel
theorem dm_Sc_replaceTypeVariable_0 : decode mm_Sc_replaceTypeVariable.2.1 0 = .ok (.iconst 0, 1) := by decide +kernel
theorem dm_Sc_replaceTypeVariable_1 : decode mm_Sc_replaceTypeVariable.2.1 1 = .ok (.istore 4, 2) := by decide +kernel
theorem dm_Sc_replaceTypeVariable_3 : decode mm_Sc_replaceTypeVariable.2.1 3 = .ok (.iload 4, 2) := by decide +kernel
theorem dm_Sc_replaceTypeVariable_5 : decode mm_Sc_replaceTypeVariable.2.1 5 = .ok (.aload_n 1, 1) := by decide +kernel
theorem dm_Sc_replaceTypeVariable_6 : decode mm_Sc_replaceTypeVariable.2.1 6 = .ok (.getfield 47, 3) := by decide +kernel
theorem dm_Sc_replaceTypeVariable_9 : decode mm_Sc_replaceTypeVariable.2.1 9 = .ok (.if_icmp .ge 48, 3) := by decide +kernel
theorem dm_Sc_replaceTypeVariable_12 : decode mm_Sc_replaceTypeVariable.2.1 12 = .ok (.aload_n 1, 1) := by decide +kernel
theorem dm_Sc_replaceTypeVariable_13 : decode mm_Sc_replaceTypeVariable.2.1 13 = .ok (.iload 4, 2) := by decide +kernel
theorem dm_Sc_replaceTypeVariable_15 : decode mm_Sc_replaceTypeVariable.2.1 15 = .ok (.invokevirtual 65, 3) := by decide +kernel
theorem dm_Sc_replaceTypeVariable_18 : decode mm_Sc_replaceTypeVariable.2.1 18 = .ok (.ifCond .eq 23, 3) := by decide +kernel
theorem dm_Sc_replaceTypeVariable_21 : decode mm_Sc_replaceTypeVariable.2.1 21 = .ok (.aload_n 1, 1) := by decide +kernel
theorem dm_Sc_replaceTypeVariable_22 : decode mm_Sc_replaceTypeVariable.2.1 22 = .ok (.iload 4, 2) := by decide +kernel
theorem dm_Sc_replaceTypeVariable_24 : decode mm_Sc_replaceTypeVariable.2.1 24 = .ok (.invokevirtual 51, 3) := by decide +kernel
theorem dm_Sc_replaceTypeVariable_27 : decode mm_Sc_replaceTypeVariable.2.1 27 = .ok (.iconst 2, 1) := by decide +kernel
theorem dm_Sc_replaceTypeVariable_28 : decode mm_Sc_replaceTypeVariable.2.1 28 = .ok (.iload_n 2, 1) := by decide +kernel
theorem dm_Sc_replaceTypeVariable_29 : decode mm_Sc_replaceTypeVariable.2.1 29 = .ok (.iadd, 1) := by decide +kernel
theorem dm_Sc_replaceTypeVariable_30 : decode mm_Sc_replaceTypeVariable.2.1 30 = .ok (.if_icmp .ne 11, 3) := by decide +kernel
theorem dm_Sc_replaceTypeVariable_33 : decode mm_Sc_replaceTypeVariable.2.1 33 = .ok (.aload_n 0, 1) := by decide +kernel
theorem dm_Sc_replaceTypeVariable_34 : decode mm_Sc_replaceTypeVariable.2.1 34 = .ok (.aload_n 3, 1) := by decide +kernel
theorem dm_Sc_replaceTypeVariable_35 : decode mm_Sc_replaceTypeVariable.2.1 35 = .ok (.invokevirtual 36, 3) := by decide +kernel
theorem dm_Sc_replaceTypeVariable_38 : decode mm_Sc_replaceTypeVariable.2.1 38 = .ok (.goto 13, 3) := by decide +kernel
theorem dm_Sc_replaceTypeVariable_41 : decode mm_Sc_replaceTypeVariable.2.1 41 = .ok (.aload_n 0, 1) := by decide +kernel
theorem dm_Sc_replaceTypeVariable_42 : decode mm_Sc_replaceTypeVariable.2.1 42 = .ok (.aload_n 1, 1) := by decide +kernel
theorem dm_Sc_replaceTypeVariable_43 : decode mm_Sc_replaceTypeVariable.2.1 43 = .ok (.iload 4, 2) := by decide +kernel
theorem dm_Sc_replaceTypeVariable_45 : decode mm_Sc_replaceTypeVariable.2.1 45 = .ok (.invokevirtual 51, 3) := by decide +kernel
theorem dm_Sc_replaceTypeVariable_48 : decode mm_Sc_replaceTypeVariable.2.1 48 = .ok (.invokevirtual 28, 3) := by decide +kernel
theorem dm_Sc_replaceTypeVariable_51 : decode mm_Sc_replaceTypeVariable.2.1 51 = .ok (.iinc 4 1, 3) := by decide +kernel
theorem dm_Sc_replaceTypeVariable_54 : decode mm_Sc_replaceTypeVariable.2.1 54 = .ok (.goto (-51), 3) := by decide +kernel
theorem dm_Sc_replaceTypeVariable_57 : decode mm_Sc_replaceTypeVariable.2.1 57 = .ok (.aload_n 0, 1) := by decide +kernel
theorem dm_Sc_replaceTypeVariable_58 : decode mm_Sc_replaceTypeVariable.2.1 58 = .ok (.invokevirtual 32, 3) := by decide +kernel
theorem dm_Sc_replaceTypeVariable_61 : decode mm_Sc_replaceTypeVariable.2.1 61 = .ok (.areturn, 1) := by decide +kernel
theorem dm_Sc_typeOf_0 : decode mm_Sc_typeOf.2.1 0 = .ok (.iconst 0, 1) := by decide +kernel
theorem dm_Sc_typeOf_1 : decode mm_Sc_typeOf.2.1 1 = .ok (.istore_n 2, 1) := by decide +kernel
theorem dm_Sc_typeOf_2 : decode mm_Sc_typeOf.2.1 2 = .ok (.iconst 0, 1) := by decide +kernel
theorem dm_Sc_typeOf_3 : decode mm_Sc_typeOf.2.1 3 = .ok (.istore_n 3, 1) := by decide +kernel
theorem dm_Sc_typeOf_4 : decode mm_Sc_typeOf.2.1 4 = .ok (.iconst 0, 1) := by decide +kernel
theorem dm_Sc_typeOf_5 : decode mm_Sc_typeOf.2.1 5 = .ok (.istore 4, 2) := by decide +kernel
theorem dm_Sc_typeOf_7 : decode mm_Sc_typeOf.2.1 7 = .ok (.iload 4, 2) := by decide +kernel
theorem dm_Sc_typeOf_9 : decode mm_Sc_typeOf.2.1 9 = .ok (.aload_n 1, 1) := by decide +kernel
theorem dm_Sc_typeOf_10 : decode mm_Sc_typeOf.2.1 10 = .ok (.getfield 47, 3) := by decide +kernel
theorem dm_Sc_typeOf_13 : decode mm_Sc_typeOf.2.1 13 = .ok (.if_icmp .ge 110, 3) := by decide +kernel
theorem dm_Sc_typeOf_16 : decode mm_Sc_typeOf.2.1 16 = .ok (.aload_n 1, 1) := by decide +kernel
theorem dm_Sc_typeOf_17 : decode mm_Sc_typeOf.2.1 17 = .ok (.iload 4, 2) := by decide +kernel
theorem dm_Sc_typeOf_19 : decode mm_Sc_typeOf.2.1 19 = .ok (.invokevirtual 51, 3) := by decide +kernel
theorem dm_Sc_typeOf_22 : decode mm_Sc_typeOf.2.1 22 = .ok (.istore 5, 2) := by decide +kernel
theorem dm_Sc_typeOf_24 : decode mm_Sc_typeOf.2.1 24 = .ok (.iload 5, 2) := by decide +kernel
theorem dm_Sc_typeOf_26 : decode mm_Sc_typeOf.2.1 26 = .ok (.bipush 12, 2) := by decide +kernel
theorem dm_Sc_typeOf_28 : decode mm_Sc_typeOf.2.1 28 = .ok (.if_icmp .ne 9, 3) := by decide +kernel
theorem dm_Sc_typeOf_31 : decode mm_Sc_typeOf.2.1 31 = .ok (.iinc 2 1, 3) := by decide +kernel
theorem dm_Sc_typeOf_34 : decode mm_Sc_typeOf.2.1 34 = .ok (.goto 83, 3) := by decide +kernel
theorem dm_Sc_typeOf_37 : decode mm_Sc_typeOf.2.1 37 = .ok (.iload 5, 2) := by decide +kernel
theorem dm_Sc_typeOf_39 : decode mm_Sc_typeOf.2.1 39 = .ok (.bipush 13, 2) := by decide +kernel
theorem dm_Sc_typeOf_41 : decode mm_Sc_typeOf.2.1 41 = .ok (.if_icmp .ne 57, 3) := by decide +kernel
theorem dm_Sc_typeOf_44 : decode mm_Sc_typeOf.2.1 44 = .ok (.iload_n 3, 1) := by decide +kernel
theorem dm_Sc_typeOf_45 : decode mm_Sc_typeOf.2.1 45 = .ok (.aload_n 0, 1) := by decide +kernel
theorem dm_Sc_typeOf_46 : decode mm_Sc_typeOf.2.1 46 = .ok (.getfield 24, 3) := by decide +kernel
theorem dm_Sc_typeOf_49 : decode mm_Sc_typeOf.2.1 49 = .ok (.arraylength, 1) := by decide +kernel
theorem dm_Sc_typeOf_50 : decode mm_Sc_typeOf.2.1 50 = .ok (.if_icmp .ge 48, 3) := by decide +kernel
theorem dm_Sc_typeOf_53 : decode mm_Sc_typeOf.2.1 53 = .ok (.aload_n 0, 1) := by decide +kernel
theorem dm_Sc_typeOf_54 : decode mm_Sc_typeOf.2.1 54 = .ok (.getfield 24, 3) := by decide +kernel
theorem dm_Sc_typeOf_57 : decode mm_Sc_typeOf.2.1 57 = .ok (.iload_n 3, 1) := by decide +kernel
theorem dm_Sc_typeOf_58 : decode mm_Sc_typeOf.2.1 58 = .ok (.aload_n 1, 1) := by decide +kernel
theorem dm_Sc_typeOf_59 : decode mm_Sc_typeOf.2.1 59 = .ok (.iload 4, 2) := by decide +kernel
theorem dm_Sc_typeOf_61 : decode mm_Sc_typeOf.2.1 61 = .ok (.iconst 1, 1) := by decide +kernel
theorem dm_Sc_typeOf_62 : decode mm_Sc_typeOf.2.1 62 = .ok (.iadd, 1) := by decide +kernel
theorem dm_Sc_typeOf_63 : decode mm_Sc_typeOf.2.1 63 = .ok (.invokevirtual 40, 3) := by decide +kernel
theorem dm_Sc_typeOf_66 : decode mm_Sc_typeOf.2.1 66 = .ok (.aastore, 1) := by decide +kernel
theorem dm_Sc_typeOf_67 : decode mm_Sc_typeOf.2.1 67 = .ok (.iload_n 2, 1) := by decide +kernel
theorem dm_Sc_typeOf_68 : decode mm_Sc_typeOf.2.1 68 = .ok (.ifCond .le 9, 3) := by decide +kernel
theorem dm_Sc_typeOf_71 : decode mm_Sc_typeOf.2.1 71 = .ok (.iinc 2 (-1), 3) := by decide +kernel
theorem dm_Sc_typeOf_74 : decode mm_Sc_typeOf.2.1 74 = .ok (.goto 18, 3) := by decide +kernel
theorem dm_Sc_typeOf_77 : decode mm_Sc_typeOf.2.1 77 = .ok (.aload_n 0, 1) := by decide +kernel
theorem dm_Sc_typeOf_78 : decode mm_Sc_typeOf.2.1 78 = .ok (.iconst 0, 1) := by decide +kernel
theorem dm_Sc_typeOf_79 : decode mm_Sc_typeOf.2.1 79 = .ok (.invokevirtual 28, 3) := by decide +kernel
theorem dm_Sc_typeOf_82 : decode mm_Sc_typeOf.2.1 82 = .ok (.aload_n 0, 1) := by decide +kernel
theorem dm_Sc_typeOf_83 : decode mm_Sc_typeOf.2.1 83 = .ok (.aload_n 0, 1) := by decide +kernel
theorem dm_Sc_typeOf_84 : decode mm_Sc_typeOf.2.1 84 = .ok (.getfield 24, 3) := by decide +kernel
theorem dm_Sc_typeOf_87 : decode mm_Sc_typeOf.2.1 87 = .ok (.iload_n 3, 1) := by decide +kernel
theorem dm_Sc_typeOf_88 : decode mm_Sc_typeOf.2.1 88 = .ok (.aaload, 1) := by decide +kernel
theorem dm_Sc_typeOf_89 : decode mm_Sc_typeOf.2.1 89 = .ok (.invokevirtual 36, 3) := by decide +kernel
theorem dm_Sc_typeOf_92 : decode mm_Sc_typeOf.2.1 92 = .ok (.iinc 3 1, 3) := by decide +kernel
theorem dm_Sc_typeOf_95 : decode mm_Sc_typeOf.2.1 95 = .ok (.goto 22, 3) := by decide +kernel
theorem dm_Sc_typeOf_98 : decode mm_Sc_typeOf.2.1 98 = .ok (.iload 5, 2) := by decide +kernel
theorem dm_Sc_typeOf_100 : decode mm_Sc_typeOf.2.1 100 = .ok (.bipush 10, 2) := by decide +kernel
theorem dm_Sc_typeOf_102 : decode mm_Sc_typeOf.2.1 102 = .ok (.if_icmp .lt 15, 3) := by decide +kernel
theorem dm_Sc_typeOf_105 : decode mm_Sc_typeOf.2.1 105 = .ok (.aload_n 0, 1) := by decide +kernel
theorem dm_Sc_typeOf_106 : decode mm_Sc_typeOf.2.1 106 = .ok (.aload_n 1, 1) := by decide +kernel
theorem dm_Sc_typeOf_107 : decode mm_Sc_typeOf.2.1 107 = .ok (.iload 4, 2) := by decide +kernel
theorem dm_Sc_typeOf_109 : decode mm_Sc_typeOf.2.1 109 = .ok (.iload_n 3, 1) := by decide +kernel
theorem dm_Sc_typeOf_110 : decode mm_Sc_typeOf.2.1 110 = .ok (.iload_n 2, 1) := by decide +kernel
theorem dm_Sc_typeOf_111 : decode mm_Sc_typeOf.2.1 111 = .ok (.invokevirtual 69, 3) := by decide +kernel
theorem dm_Sc_typeOf_114 : decode mm_Sc_typeOf.2.1 114 = .ok (.goto 9, 3) := by decide +kernel
theorem dm_Sc_typeOf_117 : decode mm_Sc_typeOf.2.1 117 = .ok (.iinc 4 1, 3) := by decide +kernel
theorem dm_Sc_typeOf_120 : decode mm_Sc_typeOf.2.1 120 = .ok (.goto (-113), 3) := by decide +kernel
theorem dm_Sc_typeOf_123 : decode mm_Sc_typeOf.2.1 123 = .ok (.aload_n 0, 1) := by decide +kernel
theorem dm_Sc_typeOf_124 : decode mm_Sc_typeOf.2.1 124 = .ok (.invokevirtual 32, 3) := by decide +kernel
theorem dm_Sc_typeOf_127 : decode mm_Sc_typeOf.2.1 127 = .ok (.areturn, 1) := by decide +kernel
theorem dm_Sc_putLeafType_0 : decode mm_Sc_putLeafType.2.1 0 = .ok (.aload_n 1, 1) := by decide +kernel
theorem dm_Sc_putLeafType_1 : decode mm_Sc_putLeafType.2.1 1 = .ok (.iload_n 2, 1) := by decide +kernel
theorem dm_Sc_putLeafType_2 : decode mm_Sc_putLeafType.2.1 2 = .ok (.invokevirtual 51, 3) := by decide +kernel
theorem dm_Sc_putLeafType_5 : decode mm_Sc_putLeafType.2.1 5 = .ok (.istore 5, 2) := by decide +kernel
theorem dm_Sc_putLeafType_7 : decode mm_Sc_putLeafType.2.1 7 = .ok (.iload 5, 2) := by decide +kernel
theorem dm_Sc_putLeafType_9 : decode mm_Sc_putLeafType.2.1 9 = .ok (.bipush 11, 2) := by decide +kernel
theorem dm_Sc_putLeafType_11 : decode mm_Sc_putLeafType.2.1 11 = .ok (.if_icmp .ne 27, 3) := by decide +kernel
theorem dm_Sc_putLeafType_14 : decode mm_Sc_putLeafType.2.1 14 = .ok (.aload_n 1, 1) := by decide +kernel
theorem dm_Sc_putLeafType_15 : decode mm_Sc_putLeafType.2.1 15 = .ok (.iload_n 2, 1) := by decide +kernel
theorem dm_Sc_putLeafType_16 : decode mm_Sc_putLeafType.2.1 16 = .ok (.iconst 1, 1) := by decide +kernel
theorem dm_Sc_putLeafType_17 : decode mm_Sc_putLeafType.2.1 17 = .ok (.iadd, 1) := by decide +kernel
theorem dm_Sc_putLeafType_18 : decode mm_Sc_putLeafType.2.1 18 = .ok (.invokevirtual 51, 3) := by decide +kernel
theorem dm_Sc_putLeafType_21 : decode mm_Sc_putLeafType.2.1 21 = .ok (.ifCond .ne 17, 3) := by decide +kernel
theorem dm_Sc_putLeafType_24 : decode mm_Sc_putLeafType.2.1 24 = .ok (.aload_n 0, 1) := by decide +kernel
theorem dm_Sc_putLeafType_25 : decode mm_Sc_putLeafType.2.1 25 = .ok (.aload_n 1, 1) := by decide +kernel
theorem dm_Sc_putLeafType_26 : decode mm_Sc_putLeafType.2.1 26 = .ok (.iload_n 2, 1) := by decide +kernel
theorem dm_Sc_putLeafType_27 : decode mm_Sc_putLeafType.2.1 27 = .ok (.iconst 2, 1) := by decide +kernel
theorem dm_Sc_putLeafType_28 : decode mm_Sc_putLeafType.2.1 28 = .ok (.iadd, 1) := by decide +kernel
theorem dm_Sc_putLeafType_29 : decode mm_Sc_putLeafType.2.1 29 = .ok (.invokevirtual 40, 3) := by decide +kernel
theorem dm_Sc_putLeafType_32 : decode mm_Sc_putLeafType.2.1 32 = .ok (.iload 4, 2) := by decide +kernel
theorem dm_Sc_putLeafType_34 : decode mm_Sc_putLeafType.2.1 34 = .ok (.invokevirtual 73, 3) := by decide +kernel
theorem dm_Sc_putLeafType_37 : decode mm_Sc_putLeafType.2.1 37 = .ok (.return_, 1) := by decide +kernel
theorem dm_Sc_putLeafType_38 : decode mm_Sc_putLeafType.2.1 38 = .ok (.iload_n 3, 1) := by decide +kernel
theorem dm_Sc_putLeafType_39 : decode mm_Sc_putLeafType.2.1 39 = .ok (.iconst 1, 1) := by decide +kernel
theorem dm_Sc_putLeafType_40 : decode mm_Sc_putLeafType.2.1 40 = .ok (.isub, 1) := by decide +kernel
theorem dm_Sc_putLeafType_41 : decode mm_Sc_putLeafType.2.1 41 = .ok (.iload 5, 2) := by decide +kernel
theorem dm_Sc_putLeafType_43 : decode mm_Sc_putLeafType.2.1 43 = .ok (.bipush 20, 2) := by decide +kernel
theorem dm_Sc_putLeafType_45 : decode mm_Sc_putLeafType.2.1 45 = .ok (.isub, 1) := by decide +kernel
theorem dm_Sc_putLeafType_46 : decode mm_Sc_putLeafType.2.1 46 = .ok (.isub, 1) := by decide +kernel
theorem dm_Sc_putLeafType_47 : decode mm_Sc_putLeafType.2.1 47 = .ok (.istore 6, 2) := by decide +kernel
theorem dm_Sc_putLeafType_49 : decode mm_Sc_putLeafType.2.1 49 = .ok (.iload 5, 2) := by decide +kernel
theorem dm_Sc_putLeafType_51 : decode mm_Sc_putLeafType.2.1 51 = .ok (.bipush 20, 2) := by decide +kernel
theorem dm_Sc_putLeafType_53 : decode mm_Sc_putLeafType.2.1 53 = .ok (.if_icmp .lt 12, 3) := by decide +kernel
theorem dm_Sc_putLeafType_56 : decode mm_Sc_putLeafType.2.1 56 = .ok (.iload 6, 2) := by decide +kernel
theorem dm_Sc_putLeafType_58 : decode mm_Sc_putLeafType.2.1 58 = .ok (.ifCond .lt 7, 3) := by decide +kernel
theorem dm_Sc_putLeafType_61 : decode mm_Sc_putLeafType.2.1 61 = .ok (.iconst 1, 1) := by decide +kernel
theorem dm_Sc_putLeafType_62 : decode mm_Sc_putLeafType.2.1 62 = .ok (.goto 4, 3) := by decide +kernel
theorem dm_Sc_putLeafType_65 : decode mm_Sc_putLeafType.2.1 65 = .ok (.iconst 0, 1) := by decide +kernel
theorem dm_Sc_putLeafType_66 : decode mm_Sc_putLeafType.2.1 66 = .ok (.istore 7, 2) := by decide +kernel
theorem dm_Sc_putLeafType_68 : decode mm_Sc_putLeafType.2.1 68 = .ok (.iload 7, 2) := by decide +kernel
theorem dm_Sc_putLeafType_70 : decode mm_Sc_putLeafType.2.1 70 = .ok (.ifCond .eq 13, 3) := by decide +kernel
theorem dm_Sc_putLeafType_73 : decode mm_Sc_putLeafType.2.1 73 = .ok (.aload_n 0, 1) := by decide +kernel
theorem dm_Sc_putLeafType_74 : decode mm_Sc_putLeafType.2.1 74 = .ok (.getfield 24, 3) := by decide +kernel
theorem dm_Sc_putLeafType_77 : decode mm_Sc_putLeafType.2.1 77 = .ok (.iload 6, 2) := by decide +kernel
theorem dm_Sc_putLeafType_79 : decode mm_Sc_putLeafType.2.1 79 = .ok (.aaload, 1) := by decide +kernel
theorem dm_Sc_putLeafType_80 : decode mm_Sc_putLeafType.2.1 80 = .ok (.goto 10, 3) := by decide +kernel
theorem dm_Sc_putLeafType_83 : decode mm_Sc_putLeafType.2.1 83 = .ok (.aload_n 1, 1) := by decide +kernel
theorem dm_Sc_putLeafType_84 : decode mm_Sc_putLeafType.2.1 84 = .ok (.iload_n 2, 1) := by decide +kernel
theorem dm_Sc_putLeafType_85 : decode mm_Sc_putLeafType.2.1 85 = .ok (.iconst 2, 1) := by decide +kernel
theorem dm_Sc_putLeafType_86 : decode mm_Sc_putLeafType.2.1 86 = .ok (.iadd, 1) := by decide +kernel
theorem dm_Sc_putLeafType_87 : decode mm_Sc_putLeafType.2.1 87 = .ok (.invokevirtual 40, 3) := by decide +kernel
theorem dm_Sc_putLeafType_90 : decode mm_Sc_putLeafType.2.1 90 = .ok (.astore 8, 2) := by decide +kernel
theorem dm_Sc_putLeafType_92 : decode mm_Sc_putLeafType.2.1 92 = .ok (.iconst 0, 1) := by decide +kernel
theorem dm_Sc_putLeafType_93 : decode mm_Sc_putLeafType.2.1 93 = .ok (.istore 9, 2) := by decide +kernel
theorem dm_Sc_putLeafType_95 : decode mm_Sc_putLeafType.2.1 95 = .ok (.iload 9, 2) := by decide +kernel
theorem dm_Sc_putLeafType_97 : decode mm_Sc_putLeafType.2.1 97 = .ok (.iload 4, 2) := by decide +kernel
theorem dm_Sc_putLeafType_99 : decode mm_Sc_putLeafType.2.1 99 = .ok (.if_icmp .ge 16, 3) := by decide +kernel
theorem dm_Sc_putLeafType_102 : decode mm_Sc_putLeafType.2.1 102 = .ok (.aload 8, 2) := by decide +kernel
theorem dm_Sc_putLeafType_104 : decode mm_Sc_putLeafType.2.1 104 = .ok (.invokevirtual 77, 3) := by decide +kernel
theorem dm_Sc_putLeafType_107 : decode mm_Sc_putLeafType.2.1 107 = .ok (.astore 8, 2) := by decide +kernel
theorem dm_Sc_putLeafType_109 : decode mm_Sc_putLeafType.2.1 109 = .ok (.iinc 9 1, 3) := by decide +kernel
theorem dm_Sc_putLeafType_112 : decode mm_Sc_putLeafType.2.1 112 = .ok (.goto (-17), 3) := by decide +kernel
theorem dm_Sc_putLeafType_115 : decode mm_Sc_putLeafType.2.1 115 = .ok (.aload_n 0, 1) := by decide +kernel
theorem dm_Sc_putLeafType_116 : decode mm_Sc_putLeafType.2.1 116 = .ok (.aload 8, 2) := by decide +kernel
theorem dm_Sc_putLeafType_118 : decode mm_Sc_putLeafType.2.1 118 = .ok (.invokevirtual 36, 3) := by decide +kernel
theorem dm_Sc_putLeafType_121 : decode mm_Sc_putLeafType.2.1 121 = .ok (.return_, 1) := by decide +kernel
theorem dm_Sc_putEqualType_0 : decode mm_Sc_putEqualType.2.1 0 = .ok (.iload_n 2, 1) := by decide +kernel
theorem dm_Sc_putEqualType_1 : decode mm_Sc_putEqualType.2.1 1 = .ok (.istore_n 3, 1) := by decide +kernel
theorem dm_Sc_putEqualType_2 : decode mm_Sc_putEqualType.2.1 2 = .ok (.iload_n 3, 1) := by decide +kernel
theorem dm_Sc_putEqualType_3 : decode mm_Sc_putEqualType.2.1 3 = .ok (.iconst 2, 1) := by decide +kernel
theorem dm_Sc_putEqualType_4 : decode mm_Sc_putEqualType.2.1 4 = .ok (.if_icmp .ge 19, 3) := by decide +kernel
theorem dm_Sc_putEqualType_7 : decode mm_Sc_putEqualType.2.1 7 = .ok (.aload_n 0, 1) := by decide +kernel
theorem dm_Sc_putEqualType_8 : decode mm_Sc_putEqualType.2.1 8 = .ok (.iconst 0, 1) := by decide +kernel
theorem dm_Sc_putEqualType_9 : decode mm_Sc_putEqualType.2.1 9 = .ok (.invokevirtual 28, 3) := by decide +kernel
theorem dm_Sc_putEqualType_12 : decode mm_Sc_putEqualType.2.1 12 = .ok (.aload_n 0, 1) := by decide +kernel
theorem dm_Sc_putEqualType_13 : decode mm_Sc_putEqualType.2.1 13 = .ok (.aload_n 1, 1) := by decide +kernel
theorem dm_Sc_putEqualType_14 : decode mm_Sc_putEqualType.2.1 14 = .ok (.invokevirtual 36, 3) := by decide +kernel
theorem dm_Sc_putEqualType_17 : decode mm_Sc_putEqualType.2.1 17 = .ok (.iinc 3 1, 3) := by decide +kernel
theorem dm_Sc_putEqualType_20 : decode mm_Sc_putEqualType.2.1 20 = .ok (.goto (-18), 3) := by decide +kernel
theorem dm_Sc_putEqualType_23 : decode mm_Sc_putEqualType.2.1 23 = .ok (.aload_n 0, 1) := by decide +kernel
theorem dm_Sc_putEqualType_24 : decode mm_Sc_putEqualType.2.1 24 = .ok (.iconst 1, 1) := by decide +kernel
theorem dm_Sc_putEqualType_25 : decode mm_Sc_putEqualType.2.1 25 = .ok (.invokevirtual 28, 3) := by decide +kernel
theorem dm_Sc_putEqualType_28 : decode mm_Sc_putEqualType.2.1 28 = .ok (.return_, 1) := by decide +kernel
theorem dm_Sc_put_0 : decode mm_Sc_put.2.1 0 = .ok (.aload_n 0, 1) := by decide +kernel
theorem dm_Sc_put_1 : decode mm_Sc_put.2.1 1 = .ok (.getfield 80, 3) := by decide +kernel
theorem dm_Sc_put_4 : decode mm_Sc_put.2.1 4 = .ok (.aload_n 0, 1) := by decide +kernel
theorem dm_Sc_put_5 : decode mm_Sc_put.2.1 5 = .ok (.getfield 9, 3) := by decide +kernel
theorem dm_Sc_put_8 : decode mm_Sc_put.2.1 8 = .ok (.arraylength, 1) := by decide +kernel
theorem dm_Sc_put_9 : decode mm_Sc_put.2.1 9 = .ok (.if_icmp .ge 23, 3) := by decide +kernel
theorem dm_Sc_put_12 : decode mm_Sc_put.2.1 12 = .ok (.aload_n 0, 1) := by decide +kernel
theorem dm_Sc_put_13 : decode mm_Sc_put.2.1 13 = .ok (.getfield 9, 3) := by decide +kernel
theorem dm_Sc_put_16 : decode mm_Sc_put.2.1 16 = .ok (.aload_n 0, 1) := by decide +kernel
theorem dm_Sc_put_17 : decode mm_Sc_put.2.1 17 = .ok (.getfield 80, 3) := by decide +kernel
theorem dm_Sc_put_20 : decode mm_Sc_put.2.1 20 = .ok (.iload_n 1, 1) := by decide +kernel
theorem dm_Sc_put_21 : decode mm_Sc_put.2.1 21 = .ok (.iastore, 1) := by decide +kernel
theorem dm_Sc_put_22 : decode mm_Sc_put.2.1 22 = .ok (.aload_n 0, 1) := by decide +kernel
theorem dm_Sc_put_23 : decode mm_Sc_put.2.1 23 = .ok (.dup, 1) := by decide +kernel
theorem dm_Sc_put_24 : decode mm_Sc_put.2.1 24 = .ok (.getfield 80, 3) := by decide +kernel
theorem dm_Sc_put_27 : decode mm_Sc_put.2.1 27 = .ok (.iconst 1, 1) := by decide +kernel
theorem dm_Sc_put_28 : decode mm_Sc_put.2.1 28 = .ok (.iadd, 1) := by decide +kernel
theorem dm_Sc_put_29 : decode mm_Sc_put.2.1 29 = .ok (.putfield 80, 3) := by decide +kernel
theorem dm_Sc_put_32 : decode mm_Sc_put.2.1 32 = .ok (.return_, 1) := by decide +kernel
theorem dm_Sc_putRow_0 : decode mm_Sc_putRow.2.1 0 = .ok (.iconst 0, 1) := by decide +kernel
theorem dm_Sc_putRow_1 : decode mm_Sc_putRow.2.1 1 = .ok (.istore_n 2, 1) := by decide +kernel
theorem dm_Sc_putRow_2 : decode mm_Sc_putRow.2.1 2 = .ok (.iload_n 2, 1) := by decide +kernel
theorem dm_Sc_putRow_3 : decode mm_Sc_putRow.2.1 3 = .ok (.aload_n 1, 1) := by decide +kernel
theorem dm_Sc_putRow_4 : decode mm_Sc_putRow.2.1 4 = .ok (.getfield 47, 3) := by decide +kernel
theorem dm_Sc_putRow_7 : decode mm_Sc_putRow.2.1 7 = .ok (.if_icmp .ge 18, 3) := by decide +kernel
theorem dm_Sc_putRow_10 : decode mm_Sc_putRow.2.1 10 = .ok (.aload_n 0, 1) := by decide +kernel
theorem dm_Sc_putRow_11 : decode mm_Sc_putRow.2.1 11 = .ok (.aload_n 1, 1) := by decide +kernel
theorem dm_Sc_putRow_12 : decode mm_Sc_putRow.2.1 12 = .ok (.iload_n 2, 1) := by decide +kernel
theorem dm_Sc_putRow_13 : decode mm_Sc_putRow.2.1 13 = .ok (.invokevirtual 51, 3) := by decide +kernel
theorem dm_Sc_putRow_16 : decode mm_Sc_putRow.2.1 16 = .ok (.invokevirtual 28, 3) := by decide +kernel
theorem dm_Sc_putRow_19 : decode mm_Sc_putRow.2.1 19 = .ok (.iinc 2 1, 3) := by decide +kernel
theorem dm_Sc_putRow_22 : decode mm_Sc_putRow.2.1 22 = .ok (.goto (-20), 3) := by decide +kernel
theorem dm_Sc_putRow_25 : decode mm_Sc_putRow.2.1 25 = .ok (.return_, 1) := by decide +kernel
theorem dm_Sc_finishedRow_0 : decode mm_Sc_finishedRow.2.1 0 = .ok (.new 22, 3) := by decide +kernel
theorem dm_Sc_finishedRow_3 : decode mm_Sc_finishedRow.2.1 3 = .ok (.dup, 1) := by decide +kernel
theorem dm_Sc_finishedRow_4 : decode mm_Sc_finishedRow.2.1 4 = .ok (.aload_n 0, 1) := by decide +kernel
theorem dm_Sc_finishedRow_5 : decode mm_Sc_finishedRow.2.1 5 = .ok (.getfield 9, 3) := by decide +kernel
theorem dm_Sc_finishedRow_8 : decode mm_Sc_finishedRow.2.1 8 = .ok (.aload_n 0, 1) := by decide +kernel
theorem dm_Sc_finishedRow_9 : decode mm_Sc_finishedRow.2.1 9 = .ok (.getfield 80, 3) := by decide +kernel
theorem dm_Sc_finishedRow_12 : decode mm_Sc_finishedRow.2.1 12 = .ok (.invokestatic 83, 3) := by decide +kernel
theorem dm_Sc_finishedRow_15 : decode mm_Sc_finishedRow.2.1 15 = .ok (.iconst 0, 1) := by decide +kernel
theorem dm_Sc_finishedRow_16 : decode mm_Sc_finishedRow.2.1 16 = .ok (.aload_n 0, 1) := by decide +kernel
theorem dm_Sc_finishedRow_17 : decode mm_Sc_finishedRow.2.1 17 = .ok (.getfield 80, 3) := by decide +kernel
theorem dm_Sc_finishedRow_20 : decode mm_Sc_finishedRow.2.1 20 = .ok (.invokespecial 89, 3) := by decide +kernel
theorem dm_Sc_finishedRow_23 : decode mm_Sc_finishedRow.2.1 23 = .ok (.astore_n 1, 1) := by decide +kernel
theorem dm_Sc_finishedRow_24 : decode mm_Sc_finishedRow.2.1 24 = .ok (.aload_n 0, 1) := by decide +kernel
theorem dm_Sc_finishedRow_25 : decode mm_Sc_finishedRow.2.1 25 = .ok (.iconst 0, 1) := by decide +kernel
theorem dm_Sc_finishedRow_26 : decode mm_Sc_finishedRow.2.1 26 = .ok (.putfield 80, 3) := by decide +kernel
theorem dm_Sc_finishedRow_29 : decode mm_Sc_finishedRow.2.1 29 = .ok (.aload_n 1, 1) := by decide +kernel
theorem dm_Sc_finishedRow_30 : decode mm_Sc_finishedRow.2.1 30 = .ok (.areturn, 1) := by decide +kernel
theorem dm_Sh_init_0 : decode mm_Sh_init.2.1 0 = .ok (.aload_n 0, 1) := by decide +kernel
theorem dm_Sh_init_1 : decode mm_Sh_init.2.1 1 = .ok (.invokespecial 1, 3) := by decide +kernel
theorem dm_Sh_init_4 : decode mm_Sh_init.2.1 4 = .ok (.aload_n 0, 1) := by decide +kernel
theorem dm_Sh_init_5 : decode mm_Sh_init.2.1 5 = .ok (.iload_n 1, 1) := by decide +kernel
theorem dm_Sh_init_6 : decode mm_Sh_init.2.1 6 = .ok (.anewarray 7, 3) := by decide +kernel
theorem dm_Sh_init_9 : decode mm_Sh_init.2.1 9 = .ok (.putfield 9, 3) := by decide +kernel
theorem dm_Sh_init_12 : decode mm_Sh_init.2.1 12 = .ok (.return_, 1) := by decide +kernel
theorem dm_Sh_isFull_0 : decode mm_Sh_isFull.2.1 0 = .ok (.aload_n 0, 1) := by decide +kernel
theorem dm_Sh_isFull_1 : decode mm_Sh_isFull.2.1 1 = .ok (.getfield 15, 3) := by decide +kernel
theorem dm_Sh_isFull_4 : decode mm_Sh_isFull.2.1 4 = .ok (.aload_n 0, 1) := by decide +kernel
theorem dm_Sh_isFull_5 : decode mm_Sh_isFull.2.1 5 = .ok (.getfield 9, 3) := by decide +kernel
theorem dm_Sh_isFull_8 : decode mm_Sh_isFull.2.1 8 = .ok (.arraylength, 1) := by decide +kernel
theorem dm_Sh_isFull_9 : decode mm_Sh_isFull.2.1 9 = .ok (.if_icmp .lt 7, 3) := by decide +kernel
theorem dm_Sh_isFull_12 : decode mm_Sh_isFull.2.1 12 = .ok (.iconst 1, 1) := by decide +kernel
theorem dm_Sh_isFull_13 : decode mm_Sh_isFull.2.1 13 = .ok (.goto 4, 3) := by decide +kernel
theorem dm_Sh_isFull_16 : decode mm_Sh_isFull.2.1 16 = .ok (.iconst 0, 1) := by decide +kernel
theorem dm_Sh_isFull_17 : decode mm_Sh_isFull.2.1 17 = .ok (.ireturn, 1) := by decide +kernel
theorem dm_Sh_get_0 : decode mm_Sh_get.2.1 0 = .ok (.iload_n 1, 1) := by decide +kernel
theorem dm_Sh_get_1 : decode mm_Sh_get.2.1 1 = .ok (.ifCond .lt 20, 3) := by decide +kernel
theorem dm_Sh_get_4 : decode mm_Sh_get.2.1 4 = .ok (.iload_n 1, 1) := by decide +kernel
theorem dm_Sh_get_5 : decode mm_Sh_get.2.1 5 = .ok (.aload_n 0, 1) := by decide +kernel
theorem dm_Sh_get_6 : decode mm_Sh_get.2.1 6 = .ok (.getfield 15, 3) := by decide +kernel
theorem dm_Sh_get_9 : decode mm_Sh_get.2.1 9 = .ok (.if_icmp .ge 12, 3) := by decide +kernel
theorem dm_Sh_get_12 : decode mm_Sh_get.2.1 12 = .ok (.aload_n 0, 1) := by decide +kernel
theorem dm_Sh_get_13 : decode mm_Sh_get.2.1 13 = .ok (.getfield 9, 3) := by decide +kernel
theorem dm_Sh_get_16 : decode mm_Sh_get.2.1 16 = .ok (.iload_n 1, 1) := by decide +kernel
theorem dm_Sh_get_17 : decode mm_Sh_get.2.1 17 = .ok (.aaload, 1) := by decide +kernel
theorem dm_Sh_get_18 : decode mm_Sh_get.2.1 18 = .ok (.goto 4, 3) := by decide +kernel
theorem dm_Sh_get_21 : decode mm_Sh_get.2.1 21 = .ok (.aconst_null, 1) := by decide +kernel
theorem dm_Sh_get_22 : decode mm_Sh_get.2.1 22 = .ok (.areturn, 1) := by decide +kernel
theorem dm_Sh_below_0 : decode mm_Sh_below.2.1 0 = .ok (.iload_n 1, 1) := by decide +kernel
theorem dm_Sh_below_1 : decode mm_Sh_below.2.1 1 = .ok (.ifCond .lt 27, 3) := by decide +kernel
theorem dm_Sh_below_4 : decode mm_Sh_below.2.1 4 = .ok (.iload_n 1, 1) := by decide +kernel
theorem dm_Sh_below_5 : decode mm_Sh_below.2.1 5 = .ok (.aload_n 0, 1) := by decide +kernel
theorem dm_Sh_below_6 : decode mm_Sh_below.2.1 6 = .ok (.getfield 15, 3) := by decide +kernel
theorem dm_Sh_below_9 : decode mm_Sh_below.2.1 9 = .ok (.if_icmp .ge 19, 3) := by decide +kernel
theorem dm_Sh_below_12 : decode mm_Sh_below.2.1 12 = .ok (.aload_n 0, 1) := by decide +kernel
theorem dm_Sh_below_13 : decode mm_Sh_below.2.1 13 = .ok (.getfield 9, 3) := by decide +kernel
theorem dm_Sh_below_16 : decode mm_Sh_below.2.1 16 = .ok (.aload_n 0, 1) := by decide +kernel
theorem dm_Sh_below_17 : decode mm_Sh_below.2.1 17 = .ok (.getfield 15, 3) := by decide +kernel
theorem dm_Sh_below_20 : decode mm_Sh_below.2.1 20 = .ok (.iconst 1, 1) := by decide +kernel
theorem dm_Sh_below_21 : decode mm_Sh_below.2.1 21 = .ok (.isub, 1) := by decide +kernel
theorem dm_Sh_below_22 : decode mm_Sh_below.2.1 22 = .ok (.iload_n 1, 1) := by decide +kernel
theorem dm_Sh_below_23 : decode mm_Sh_below.2.1 23 = .ok (.isub, 1) := by decide +kernel
theorem dm_Sh_below_24 : decode mm_Sh_below.2.1 24 = .ok (.aaload, 1) := by decide +kernel
theorem dm_Sh_below_25 : decode mm_Sh_below.2.1 25 = .ok (.goto 4, 3) := by decide +kernel
theorem dm_Sh_below_28 : decode mm_Sh_below.2.1 28 = .ok (.aconst_null, 1) := by decide +kernel
theorem dm_Sh_below_29 : decode mm_Sh_below.2.1 29 = .ok (.areturn, 1) := by decide +kernel
theorem dm_Sh_add_0 : decode mm_Sh_add.2.1 0 = .ok (.aload_n 0, 1) := by decide +kernel
theorem dm_Sh_add_1 : decode mm_Sh_add.2.1 1 = .ok (.getfield 15, 3) := by decide +kernel
theorem dm_Sh_add_4 : decode mm_Sh_add.2.1 4 = .ok (.aload_n 0, 1) := by decide +kernel
theorem dm_Sh_add_5 : decode mm_Sh_add.2.1 5 = .ok (.getfield 9, 3) := by decide +kernel
theorem dm_Sh_add_8 : decode mm_Sh_add.2.1 8 = .ok (.arraylength, 1) := by decide +kernel
theorem dm_Sh_add_9 : decode mm_Sh_add.2.1 9 = .ok (.if_icmp .ge 23, 3) := by decide +kernel
theorem dm_Sh_add_12 : decode mm_Sh_add.2.1 12 = .ok (.aload_n 0, 1) := by decide +kernel
theorem dm_Sh_add_13 : decode mm_Sh_add.2.1 13 = .ok (.getfield 9, 3) := by decide +kernel
theorem dm_Sh_add_16 : decode mm_Sh_add.2.1 16 = .ok (.aload_n 0, 1) := by decide +kernel
theorem dm_Sh_add_17 : decode mm_Sh_add.2.1 17 = .ok (.getfield 15, 3) := by decide +kernel
theorem dm_Sh_add_20 : decode mm_Sh_add.2.1 20 = .ok (.aload_n 1, 1) := by decide +kernel
theorem dm_Sh_add_21 : decode mm_Sh_add.2.1 21 = .ok (.aastore, 1) := by decide +kernel
theorem dm_Sh_add_22 : decode mm_Sh_add.2.1 22 = .ok (.aload_n 0, 1) := by decide +kernel
theorem dm_Sh_add_23 : decode mm_Sh_add.2.1 23 = .ok (.dup, 1) := by decide +kernel
theorem dm_Sh_add_24 : decode mm_Sh_add.2.1 24 = .ok (.getfield 15, 3) := by decide +kernel
theorem dm_Sh_add_27 : decode mm_Sh_add.2.1 27 = .ok (.iconst 1, 1) := by decide +kernel
theorem dm_Sh_add_28 : decode mm_Sh_add.2.1 28 = .ok (.iadd, 1) := by decide +kernel
theorem dm_Sh_add_29 : decode mm_Sh_add.2.1 29 = .ok (.putfield 15, 3) := by decide +kernel
theorem dm_Sh_add_32 : decode mm_Sh_add.2.1 32 = .ok (.return_, 1) := by decide +kernel
theorem dm_Sh_drop_0 : decode mm_Sh_drop.2.1 0 = .ok (.aload_n 0, 1) := by decide +kernel
theorem dm_Sh_drop_1 : decode mm_Sh_drop.2.1 1 = .ok (.iconst 0, 1) := by decide +kernel
theorem dm_Sh_drop_2 : decode mm_Sh_drop.2.1 2 = .ok (.aload_n 0, 1) := by decide +kernel
theorem dm_Sh_drop_3 : decode mm_Sh_drop.2.1 3 = .ok (.getfield 15, 3) := by decide +kernel
theorem dm_Sh_drop_6 : decode mm_Sh_drop.2.1 6 = .ok (.iload_n 1, 1) := by decide +kernel
theorem dm_Sh_drop_7 : decode mm_Sh_drop.2.1 7 = .ok (.isub, 1) := by decide +kernel
theorem dm_Sh_drop_8 : decode mm_Sh_drop.2.1 8 = .ok (.invokestatic 19, 3) := by decide +kernel
theorem dm_Sh_drop_11 : decode mm_Sh_drop.2.1 11 = .ok (.putfield 15, 3) := by decide +kernel
theorem dm_Sh_drop_14 : decode mm_Sh_drop.2.1 14 = .ok (.return_, 1) := by decide +kernel
theorem dm_Ar_copyOf_0 : decode mm_Ar_copyOf.2.1 0 = .ok (.iload_n 1, 1) := by decide +kernel
theorem dm_Ar_copyOf_1 : decode mm_Ar_copyOf.2.1 1 = .ok (.aload_n 0, 1) := by decide +kernel
theorem dm_Ar_copyOf_2 : decode mm_Ar_copyOf.2.1 2 = .ok (.arraylength, 1) := by decide +kernel
theorem dm_Ar_copyOf_3 : decode mm_Ar_copyOf.2.1 3 = .ok (.if_icmp .ne 11, 3) := by decide +kernel
theorem dm_Ar_copyOf_6 : decode mm_Ar_copyOf.2.1 6 = .ok (.aload_n 0, 1) := by decide +kernel
theorem dm_Ar_copyOf_7 : decode mm_Ar_copyOf.2.1 7 = .ok (.invokevirtual 316, 3) := by decide +kernel
theorem dm_Ar_copyOf_10 : decode mm_Ar_copyOf.2.1 10 = .ok (.checkcast 317, 3) := by decide +kernel
theorem dm_Ar_copyOf_13 : decode mm_Ar_copyOf.2.1 13 = .ok (.areturn, 1) := by decide +kernel
theorem dm_Ar_copyOf_14 : decode mm_Ar_copyOf.2.1 14 = .ok (.iload_n 1, 1) := by decide +kernel
theorem dm_Ar_copyOf_15 : decode mm_Ar_copyOf.2.1 15 = .ok (.newarray .int, 2) := by decide +kernel
theorem dm_Ar_copyOf_17 : decode mm_Ar_copyOf.2.1 17 = .ok (.astore_n 2, 1) := by decide +kernel
theorem dm_Ar_copyOf_18 : decode mm_Ar_copyOf.2.1 18 = .ok (.aload_n 0, 1) := by decide +kernel
theorem dm_Ar_copyOf_19 : decode mm_Ar_copyOf.2.1 19 = .ok (.iconst 0, 1) := by decide +kernel
theorem dm_Ar_copyOf_20 : decode mm_Ar_copyOf.2.1 20 = .ok (.aload_n 2, 1) := by decide +kernel
theorem dm_Ar_copyOf_21 : decode mm_Ar_copyOf.2.1 21 = .ok (.iconst 0, 1) := by decide +kernel
theorem dm_Ar_copyOf_22 : decode mm_Ar_copyOf.2.1 22 = .ok (.aload_n 0, 1) := by decide +kernel
theorem dm_Ar_copyOf_23 : decode mm_Ar_copyOf.2.1 23 = .ok (.arraylength, 1) := by decide +kernel
theorem dm_Ar_copyOf_24 : decode mm_Ar_copyOf.2.1 24 = .ok (.iload_n 1, 1) := by decide +kernel
theorem dm_Ar_copyOf_25 : decode mm_Ar_copyOf.2.1 25 = .ok (.invokestatic 304, 3) := by decide +kernel
theorem dm_Ar_copyOf_28 : decode mm_Ar_copyOf.2.1 28 = .ok (.invokestatic 150, 3) := by decide +kernel
theorem dm_Ar_copyOf_31 : decode mm_Ar_copyOf.2.1 31 = .ok (.aload_n 2, 1) := by decide +kernel
theorem dm_Ar_copyOf_32 : decode mm_Ar_copyOf.2.1 32 = .ok (.areturn, 1) := by decide +kernel
theorem dm_Mt_min_0 : decode mm_Mt_min.2.1 0 = .ok (.iload_n 0, 1) := by decide +kernel
theorem dm_Mt_min_1 : decode mm_Mt_min.2.1 1 = .ok (.iload_n 1, 1) := by decide +kernel
theorem dm_Mt_min_2 : decode mm_Mt_min.2.1 2 = .ok (.if_icmp .gt 7, 3) := by decide +kernel
theorem dm_Mt_min_5 : decode mm_Mt_min.2.1 5 = .ok (.iload_n 0, 1) := by decide +kernel
theorem dm_Mt_min_6 : decode mm_Mt_min.2.1 6 = .ok (.goto 4, 3) := by decide +kernel
theorem dm_Mt_min_9 : decode mm_Mt_min.2.1 9 = .ok (.iload_n 1, 1) := by decide +kernel
theorem dm_Mt_min_10 : decode mm_Mt_min.2.1 10 = .ok (.ireturn, 1) := by decide +kernel
theorem dm_Mt_max_0 : decode mm_Mt_max.2.1 0 = .ok (.iload_n 0, 1) := by decide +kernel
theorem dm_Mt_max_1 : decode mm_Mt_max.2.1 1 = .ok (.iload_n 1, 1) := by decide +kernel
theorem dm_Mt_max_2 : decode mm_Mt_max.2.1 2 = .ok (.if_icmp .lt 7, 3) := by decide +kernel
theorem dm_Mt_max_5 : decode mm_Mt_max.2.1 5 = .ok (.iload_n 0, 1) := by decide +kernel
theorem dm_Mt_max_6 : decode mm_Mt_max.2.1 6 = .ok (.goto 4, 3) := by decide +kernel
theorem dm_Mt_max_9 : decode mm_Mt_max.2.1 9 = .ok (.iload_n 1, 1) := by decide +kernel
theorem dm_Mt_max_10 : decode mm_Mt_max.2.1 10 = .ok (.ireturn, 1) := by decide +kernel
end
section
/-! types and terms as rows of symbols -/
def isTy (l : List Int) : Prop := ∀ P : List Int → Prop, P [1] → (∀ k : Int, 2 ≤ k → k ≤ 5 → P [k]) → (∀ a b, P a → P b → P (0 :: (a ++ b))) → P l
theorem isTy_b : isTy [1] := fun _ h1 _ _ => h1
theorem isTy_v {k : Int} (h1 : 2 ≤ k) (h2 : k ≤ 5) : isTy [k] := fun _ _ hv _ => hv k h1 h2
theorem isTy_f {a b : List Int} (ha : isTy a) (hb : isTy b) : isTy (0 :: (a ++ b)) := fun P h1 h2 h3 => h3 a b (ha P h1 h2 h3) (hb P h1 h2 h3)
theorem isTy_ind {P : List Int → Prop} (h1 : P [1]) (h2 : ∀ k : Int, 2 ≤ k → k ≤ 5 → P [k]) (h3 : ∀ a b, isTy a → isTy b → P a → P b → P (0 :: (a ++ b))) {l : List Int} (h : isTy l) : P l :=
  (h (fun l => isTy l ∧ P l) ⟨isTy_b, h1⟩ (fun k a b => ⟨isTy_v a b, h2 k a b⟩) (fun a b ha hb => ⟨isTy_f ha.1 hb.1, h3 a b ha.1 hb.1 ha.2 hb.2⟩)).2
theorem isTy_inv {l : List Int} (h : isTy l) : l = [1] ∨ (∃ k : Int, 2 ≤ k ∧ k ≤ 5 ∧ l = [k]) ∨ ∃ a b, isTy a ∧ isTy b ∧ l = 0 :: (a ++ b) :=
  isTy_ind (P := fun l => l = [1] ∨ (∃ k : Int, 2 ≤ k ∧ k ≤ 5 ∧ l = [k]) ∨ ∃ a b, isTy a ∧ isTy b ∧ l = 0 :: (a ++ b)) (Or.inl rfl) (fun k a b => Or.inr (Or.inl ⟨k, a, b, rfl⟩)) (fun a b ha hb _ _ => Or.inr (Or.inr ⟨a, b, ha, hb, rfl⟩)) h
theorem isTy_sym {l : List Int} (h : isTy l) : ∀ s ∈ l, 0 ≤ s ∧ s ≤ 5 := by
  refine isTy_ind (P := fun l => ∀ s ∈ l, 0 ≤ s ∧ s ≤ 5) ?_ ?_ ?_ h
  · intro s hs
    simp at hs
    omega
  · intro k h1 h2 s hs
    simp at hs
    omega
  · intro a b _ _ ha hb s hs
    simp at hs
    rcases hs with hs | hs | hs
    · omega
    · exact ha s hs
    · exact hb s hs
theorem isTy_len {l : List Int} (h : isTy l) : 0 < l.length := by
  rcases isTy_inv h with h | ⟨k, _, _, h⟩ | ⟨a, b, _, _, h⟩ <;> subst h <;> simp
def tyS : List Int → Nat → Option (List Int)
  | [], n => if n = 0 then some [] else none
  | s :: l, n => if n = 0 then some (s :: l) else if s = 0 then tyS l (n + 1) else tyS l (n - 1)
theorem tyS_0 (l : List Int) : tyS l 0 = some l := by
  cases l <;> simp [tyS]
theorem tyS_ty {a : List Int} (h : isTy a) : ∀ (r : List Int) (n : Nat), tyS (a ++ r) (n + 1) = tyS r n := by
  refine isTy_ind (P := fun a => ∀ (r : List Int) (n : Nat), tyS (a ++ r) (n + 1) = tyS r n) ?_ ?_ ?_ h
  · intro r n
    simp [tyS]
  · intro k h1 h2 r n
    have : ¬ k = 0 := by omega
    simp [tyS, this]
  · intro a b _ _ ha hb r n
    simp only [List.cons_append, List.append_assoc, tyS]
    simp [ha, hb]
theorem isTy_cut {a b r r' : List Int} (ha : isTy a) (hb : isTy b) (e : a ++ r = b ++ r') : a = b ∧ r = r' := by
  have h1 := tyS_ty ha r 0
  have h2 := tyS_ty hb r' 0
  rw [e, h2, tyS_0, tyS_0] at h1
  have h3 : r = r' := (Option.some.inj h1).symm
  subst h3
  exact ⟨List.append_cancel_right e, rfl⟩
theorem isTy_fi {a b a' b' : List Int} (ha : isTy a) (ha' : isTy a') (e : (0 : Int) :: (a ++ b) = 0 :: (a' ++ b')) : a = a' ∧ b = b' :=
  isTy_cut ha ha' (List.cons.inj e).2
/-! terms: the types of the abstractions around, the row, its type -/
def isTm (G : List (List Int)) (t a : List Int) : Prop := ∀ P : List (List Int) → List Int → List Int → Prop,
  (∀ G (n : Int) a, 0 ≤ n → n ≤ 7 → isTy a → P G (10 :: n :: a) a) →
  (∀ G (c : Int) a, 1 ≤ c → c ≤ 6 → isTy a → P G (11 :: c :: a) a) →
  (∀ G a, isTy a → P G (11 :: 0 :: a) (0 :: (a ++ (0 :: (a ++ [1]))))) →
  (∀ (G : List (List Int)) (d : Nat) a, G[d]? = some a → isTy a → P G [20 + (d : Int)] a) →
  (∀ G f x a b, isTy a → isTy b → P G f (0 :: (a ++ b)) → P G x a → P G (12 :: (f ++ x)) b) →
  (∀ G a t b, isTy a → isTy b → P (a :: G) t b → P G (13 :: (a ++ t)) (0 :: (a ++ b))) → P G t a
section TM
variable {G : List (List Int)} {a b t f x : List Int}
theorem isTm_v {n : Int} (h0 : 0 ≤ n) (h7 : n ≤ 7) (ha : isTy a) : isTm G (10 :: n :: a) a := fun _ h1 _ _ _ _ _ => h1 G n a h0 h7 ha
theorem isTm_c {c : Int} (h1 : 1 ≤ c) (h6 : c ≤ 6) (ha : isTy a) : isTm G (11 :: c :: a) a := fun _ _ h2 _ _ _ _ => h2 G c a h1 h6 ha
theorem isTm_e (ha : isTy a) : isTm G (11 :: 0 :: a) (0 :: (a ++ (0 :: (a ++ [1])))) := fun _ _ _ h3 _ _ _ => h3 G a ha
theorem isTm_b {d : Nat} (hd : G[d]? = some a) (ha : isTy a) : isTm G [20 + (d : Int)] a := fun _ _ _ _ h4 _ _ => h4 G d a hd ha
theorem isTm_a (ha : isTy a) (hb : isTy b) (hf : isTm G f (0 :: (a ++ b))) (hx : isTm G x a) : isTm G (12 :: (f ++ x)) b := fun P h1 h2 h3 h4 h5 h6 => h5 G f x a b ha hb (hf P h1 h2 h3 h4 h5 h6) (hx P h1 h2 h3 h4 h5 h6)
theorem isTm_l (ha : isTy a) (hb : isTy b) (ht : isTm (a :: G) t b) : isTm G (13 :: (a ++ t)) (0 :: (a ++ b)) := fun P h1 h2 h3 h4 h5 h6 => h6 G a t b ha hb (ht P h1 h2 h3 h4 h5 h6)
theorem isTm_ind {P : List (List Int) → List Int → List Int → Prop}
    (h1 : ∀ G (n : Int) a, 0 ≤ n → n ≤ 7 → isTy a → P G (10 :: n :: a) a)
    (h2 : ∀ G (c : Int) a, 1 ≤ c → c ≤ 6 → isTy a → P G (11 :: c :: a) a)
    (h3 : ∀ G a, isTy a → P G (11 :: 0 :: a) (0 :: (a ++ (0 :: (a ++ [1])))))
    (h4 : ∀ (G : List (List Int)) (d : Nat) a, G[d]? = some a → isTy a → P G [20 + (d : Int)] a)
    (h5 : ∀ G f x a b, isTy a → isTy b → isTm G f (0 :: (a ++ b)) → isTm G x a → P G f (0 :: (a ++ b)) → P G x a → P G (12 :: (f ++ x)) b)
    (h6 : ∀ G a t b, isTy a → isTy b → isTm (a :: G) t b → P (a :: G) t b → P G (13 :: (a ++ t)) (0 :: (a ++ b)))
    (h : isTm G t a) : P G t a :=
  (h (fun G t a => isTm G t a ∧ P G t a) (fun G n a p q r => ⟨isTm_v p q r, h1 G n a p q r⟩) (fun G c a p q r => ⟨isTm_c p q r, h2 G c a p q r⟩) (fun G a r => ⟨isTm_e r, h3 G a r⟩) (fun G d a p r => ⟨isTm_b p r, h4 G d a p r⟩)
    (fun G f x a b p q hf hx => ⟨isTm_a p q hf.1 hx.1, h5 G f x a b p q hf.1 hx.1 hf.2 hx.2⟩) (fun G a t b p q ht => ⟨isTm_l p q ht.1, h6 G a t b p q ht.1 ht.2⟩)).2
theorem isTm_inv (h : isTm G t a) : (∃ n : Int, 0 ≤ n ∧ n ≤ 7 ∧ isTy a ∧ t = 10 :: n :: a) ∨ (∃ c : Int, 1 ≤ c ∧ c ≤ 6 ∧ isTy a ∧ t = 11 :: c :: a) ∨ (∃ s, isTy s ∧ t = 11 :: 0 :: s ∧ a = 0 :: (s ++ (0 :: (s ++ [1])))) ∨ (∃ d : Nat, G[d]? = some a ∧ isTy a ∧ t = [20 + (d : Int)]) ∨ (∃ f x s, isTy s ∧ isTy a ∧ isTm G f (0 :: (s ++ a)) ∧ isTm G x s ∧ t = 12 :: (f ++ x)) ∨ (∃ s u b, isTy s ∧ isTy b ∧ isTm (s :: G) u b ∧ t = 13 :: (s ++ u) ∧ a = 0 :: (s ++ b)) :=
  isTm_ind (P := fun G t a => (∃ n : Int, 0 ≤ n ∧ n ≤ 7 ∧ isTy a ∧ t = 10 :: n :: a) ∨ (∃ c : Int, 1 ≤ c ∧ c ≤ 6 ∧ isTy a ∧ t = 11 :: c :: a) ∨ (∃ s, isTy s ∧ t = 11 :: 0 :: s ∧ a = 0 :: (s ++ (0 :: (s ++ [1])))) ∨ (∃ d : Nat, G[d]? = some a ∧ isTy a ∧ t = [20 + (d : Int)]) ∨ (∃ f x s, isTy s ∧ isTy a ∧ isTm G f (0 :: (s ++ a)) ∧ isTm G x s ∧ t = 12 :: (f ++ x)) ∨ (∃ s u b, isTy s ∧ isTy b ∧ isTm (s :: G) u b ∧ t = 13 :: (s ++ u) ∧ a = 0 :: (s ++ b)))
    (fun G n a p q r => Or.inl ⟨n, p, q, r, rfl⟩) (fun G c a p q r => Or.inr (Or.inl ⟨c, p, q, r, rfl⟩)) (fun G a r => Or.inr (Or.inr (Or.inl ⟨a, r, rfl, rfl⟩))) (fun G d a p r => Or.inr (Or.inr (Or.inr (Or.inl ⟨d, p, r, rfl⟩))))
    (fun G f x a b p q hf hx _ _ => Or.inr (Or.inr (Or.inr (Or.inr (Or.inl ⟨f, x, a, p, q, hf, hx, rfl⟩))))) (fun G a t b p q ht _ => Or.inr (Or.inr (Or.inr (Or.inr (Or.inr ⟨a, t, b, p, q, ht, rfl, rfl⟩))))) h
theorem isTm_ty (h : isTm G t a) : isTy a := by
  refine isTm_ind (P := fun _ _ a => isTy a) ?_ ?_ ?_ ?_ ?_ ?_ h
  · intro _ _ _ _ _ h; exact h
  · intro _ _ _ _ _ h; exact h
  · intro _ a h; exact isTy_f h (isTy_f h isTy_b)
  · intro _ _ _ _ h; exact h
  · intro _ _ _ _ _ _ h _ _ _ _; exact h
  · intro _ _ _ _ h1 h2 _ _; exact isTy_f h1 h2
theorem isTm_hd (h : isTm G t a) : ∃ s r, t = s :: r ∧ 10 ≤ s := by
  rcases isTm_inv h with ⟨n, _, _, _, e⟩ | ⟨c, _, _, _, e⟩ | ⟨s, _, e, _⟩ | ⟨d, _, _, e⟩ | ⟨f, x, s, _, _, _, _, e⟩ | ⟨s, u, b, _, _, _, e, _⟩
  · exact ⟨_, _, e, by omega⟩
  · exact ⟨_, _, e, by omega⟩
  · exact ⟨_, _, e, by omega⟩
  · exact ⟨_, _, e, by omega⟩
  · exact ⟨_, _, e, by omega⟩
  · exact ⟨_, _, e, by omega⟩
theorem isTm_len (h : isTm G t a) : 0 < t.length := by
  obtain ⟨s, r, e, _⟩ := isTm_hd h
  subst e
  simp
/-- every symbol is small and none is below 0 -/
theorem isTm_sym (h : isTm G t a) : ∀ s ∈ t, 0 ≤ s ∧ (s ≤ 13 ∨ 20 ≤ s ∧ s < 20 + (G.length : Int) + (t.length : Int)) := by
  refine isTm_ind (P := fun G t _ => ∀ s ∈ t, 0 ≤ s ∧ (s ≤ 13 ∨ 20 ≤ s ∧ s < 20 + (G.length : Int) + (t.length : Int))) ?_ ?_ ?_ ?_ ?_ ?_ h
  · intro G n a h0 h7 ha s hs
    simp at hs
    rcases hs with hs | hs | hs
    · omega
    · omega
    · have := isTy_sym ha s hs; omega
  · intro G n a h0 h7 ha s hs
    simp at hs
    rcases hs with hs | hs | hs
    · omega
    · omega
    · have := isTy_sym ha s hs; omega
  · intro G a ha s hs
    simp at hs
    rcases hs with hs | hs | hs
    · omega
    · omega
    · have := isTy_sym ha s hs; omega
  · intro G d a hd ha s hs
    have := (List.getElem?_eq_some_iff.mp hd).1
    simp at hs
    subst hs
    simp
    omega
  · intro G f x a b _ _ _ _ hf hx s hs
    simp at hs ⊢
    rcases hs with hs | hs | hs
    · omega
    · have := hf s hs; omega
    · have := hx s hs; omega
  · intro G a t b ha _ _ ht s hs
    simp at hs ⊢
    rcases hs with hs | hs | hs
    · omega
    · have := isTy_sym ha s hs; omega
    · have := ht s hs; simp at this; omega
/-- more abstractions around change nothing -/
theorem isTm_weak (h : isTm G t a) : ∀ D, isTm (G ++ D) t a := by
  refine isTm_ind (P := fun G t a => ∀ D, isTm (G ++ D) t a) ?_ ?_ ?_ ?_ ?_ ?_ h
  · intro G n a h0 h7 ha D; exact isTm_v h0 h7 ha
  · intro G n a h0 h7 ha D; exact isTm_c h0 h7 ha
  · intro G a ha D; exact isTm_e ha
  · intro G d a hd ha D
    refine isTm_b ?_ ha
    rw [List.getElem?_append_left (List.getElem?_eq_some_iff.mp hd).1]
    exact hd
  · intro G f x a b ha hb _ _ hf hx D; exact isTm_a ha hb (hf D) (hx D)
  · intro G a t b ha hb _ ht D; exact isTm_l ha hb (ht D)
/-- behind n terms -/
def tmS : List Int → Nat → List Int
  | [], _ => []
  | s :: l, n => if s < 10 then tmS l n else if n = 0 then s :: l else if s = 12 then tmS l (n + 1) else if s = 13 then tmS l n else tmS l (n - 1)
theorem tmS_low {l : List Int} (hl : ∀ s ∈ l, s < 10) : ∀ (r : List Int) (n : Nat), tmS (l ++ r) n = tmS r n := by
  induction l with
  | nil => intro r n; rfl
  | cons s l ih =>
    intro r n
    have h1 : s < 10 := hl s List.mem_cons_self
    simp only [List.cons_append, tmS, if_pos h1]
    exact ih (fun z hz => hl z (List.mem_cons_of_mem _ hz)) r n
theorem isTy_low {l : List Int} (h : isTy l) : ∀ s ∈ l, s < 10 := fun s hs => by have := isTy_sym h s hs; omega
theorem tmS_tm (h : isTm G t a) : ∀ (r : List Int) (n : Nat), tmS (t ++ r) (n + 1) = tmS r n := by
  refine isTm_ind (P := fun _ t _ => ∀ (r : List Int) (n : Nat), tmS (t ++ r) (n + 1) = tmS r n) ?_ ?_ ?_ ?_ ?_ ?_ h
  · intro G m a h0 h7 ha r n
    have h1 : m < 10 := by omega
    simp [tmS, h1, tmS_low (isTy_low ha)]
  · intro G m a h0 h7 ha r n
    have h1 : m < 10 := by omega
    simp [tmS, h1, tmS_low (isTy_low ha)]
  · intro G a ha r n
    simp [tmS, tmS_low (isTy_low ha)]
  · intro G d a hd ha r n
    have h1 : ¬ (20 + (d : Int)) < 10 := by omega
    have h2 : ¬ (20 + (d : Int)) = 12 := by omega
    have h3 : ¬ (20 + (d : Int)) = 13 := by omega
    simp [tmS, h1, h2, h3]
  · intro G f x a b _ _ _ _ hf hx r n
    simp [tmS, hf, hx]
  · intro G a t b ha _ _ ht r n
    simp [tmS, tmS_low (isTy_low ha), ht]
def hdT (r : List Int) : Prop := r = [] ∨ ∃ s l, r = s :: l ∧ 10 ≤ s
theorem tmS_0 {r : List Int} (h : hdT r) : tmS r 0 = r := by
  rcases h with h | ⟨s, l, h, hs⟩
  · subst h; rfl
  · subst h
    have : ¬ s < 10 := by omega
    simp [tmS, this]
theorem isTm_cut {G' : List (List Int)} {t' a' r r' : List Int} (h : isTm G t a) (h' : isTm G' t' a') (hr : hdT r) (hr' : hdT r') (e : t ++ r = t' ++ r') : t = t' ∧ r = r' := by
  have h1 := tmS_tm h r 0
  have h2 := tmS_tm h' r' 0
  rw [e, h2, tmS_0 hr, tmS_0 hr'] at h1
  subst h1
  exact ⟨List.append_cancel_right e, rfl⟩
theorem isTm_hdT (h : isTm G t a) (r : List Int) : hdT (t ++ r) := by
  obtain ⟨s, l, e, hs⟩ := isTm_hd h
  subst e
  exact Or.inr ⟨s, l ++ r, rfl, hs⟩
/-- a term has one type -/
theorem isTm_uni (h : isTm G t a) : ∀ a', isTm G t a' → a = a' := by
  refine isTm_ind (P := fun G t a => ∀ a', isTm G t a' → a = a') ?_ ?_ ?_ ?_ ?_ ?_ h
  · intro G n a h0 h7 ha a' h'
    rcases isTm_inv h' with ⟨n', _, _, _, e⟩ | ⟨c, _, _, _, e⟩ | ⟨s, _, e, _⟩ | ⟨d, _, _, e⟩ | ⟨f, x, s, _, _, _, _, e⟩ | ⟨s, u, b, _, _, _, e, _⟩ <;> simp at e
    · exact e.2
  · intro G n a h0 h7 ha a' h'
    rcases isTm_inv h' with ⟨n', _, _, _, e⟩ | ⟨c, _, _, _, e⟩ | ⟨s, _, e, _⟩ | ⟨d, _, _, e⟩ | ⟨f, x, s, _, _, _, _, e⟩ | ⟨s, u, b, _, _, _, e, _⟩ <;> simp at e
    · exact e.2
    · omega
  · intro G a ha a' h'
    rcases isTm_inv h' with ⟨n', _, _, _, e⟩ | ⟨c, _, _, _, e⟩ | ⟨s, _, e, e2⟩ | ⟨d, _, _, e⟩ | ⟨f, x, s, _, _, _, _, e⟩ | ⟨s, u, b, _, _, _, e, _⟩ <;> simp at e
    · omega
    · subst e; exact e2.symm
  · intro G d a hd ha a' h'
    rcases isTm_inv h' with ⟨n', _, _, _, e⟩ | ⟨c, _, _, _, e⟩ | ⟨s, _, e, e2⟩ | ⟨d', hd', _, e⟩ | ⟨f, x, s, _, _, _, _, e⟩ | ⟨s, u, b, _, _, _, e, _⟩ <;> simp at e
    · have e1 : d = d' := by omega
      subst e1
      exact Option.some.inj (hd.symm.trans hd')
    · omega
    · omega
  · intro G f x a b ha hb hf hx ihf ihx a' h'
    rcases isTm_inv h' with ⟨n', _, _, _, e⟩ | ⟨c, _, _, _, e⟩ | ⟨s, _, e, e2⟩ | ⟨d', hd', _, e⟩ | ⟨f', x', s, hs, ha', hf', hx', e⟩ | ⟨s, u, b, _, _, _, e, _⟩ <;> simp at e
    · omega
    · have hz := isTm_cut hf hf' (by have := isTm_hdT hx []; simpa using this) (by have := isTm_hdT hx' []; simpa using this) e
      obtain ⟨e1, e2⟩ := hz
      subst e1; subst e2
      have := ihf _ hf'
      exact (isTy_fi ha hs this).2
  · intro G a t b ha hb ht ih a' h'
    rcases isTm_inv h' with ⟨n', _, _, _, e⟩ | ⟨c, _, _, _, e⟩ | ⟨s, _, e, e2⟩ | ⟨d', hd', _, e⟩ | ⟨f', x', s, hs, ha', hf', hx', e⟩ | ⟨s, u, b', hs, _, hu, e, e2⟩ <;> simp at e
    · omega
    · obtain ⟨e1, e3⟩ := isTy_cut ha hs e
      subst e1; subst e3
      rw [e2, ih _ hu]
end TM
end
section
/-! what the rules do to a term's row -/
section OP
variable {G : List (List Int)} {a b t f x : List Int}
/-- where 10 stands a variable stands -/
theorem isTm_10 (h : isTm G t a) : ∀ (i : Nat), t[i]? = some 10 → ∃ (m : Int) (c r : List Int), isTy c ∧ 0 ≤ m ∧ m ≤ 7 ∧ t.drop i = 10 :: m :: (c ++ r) := by
  have low : ∀ (l : List Int), (∀ s ∈ l, s < 10) → ∀ i : Nat, l[i]? = some 10 → False := by
    intro l hl i hi
    have := hl 10 (List.mem_of_getElem? hi)
    omega
  refine isTm_ind (P := fun _ t _ => ∀ (i : Nat), t[i]? = some 10 → ∃ (m : Int) (c r : List Int), isTy c ∧ 0 ≤ m ∧ m ≤ 7 ∧ t.drop i = 10 :: m :: (c ++ r)) ?_ ?_ ?_ ?_ ?_ ?_ h
  · intro G n a h0 h7 ha i hi
    cases i with
    | zero => exact ⟨n, a, [], ha, h0, h7, by simp⟩
    | succ i =>
      cases i with
      | zero => simp at hi; omega
      | succ i => simp at hi; exact (low a (isTy_low ha) i hi).elim
  · intro G n a h0 h7 ha i hi
    cases i with
    | zero => simp at hi
    | succ i =>
      cases i with
      | zero => simp at hi; omega
      | succ i => simp at hi; exact (low a (isTy_low ha) i hi).elim
  · intro G a ha i hi
    cases i with
    | zero => simp at hi
    | succ i =>
      cases i with
      | zero => simp at hi
      | succ i => simp at hi; exact (low a (isTy_low ha) i hi).elim
  · intro G d a hd ha i hi
    cases i with
    | zero => simp at hi; omega
    | succ i => simp at hi
  · intro G f x a b _ _ _ _ hf hx i hi
    cases i with
    | zero => simp at hi
    | succ i =>
      simp at hi
      by_cases hl : i < f.length
      · rw [List.getElem?_append_left hl] at hi
        obtain ⟨m, c, r, h1, h2, h3, h4⟩ := hf i hi
        refine ⟨m, c, r ++ x, h1, h2, h3, ?_⟩
        simp only [List.drop_succ_cons]
        rw [List.drop_append_of_le_length (by omega), h4]
        simp
      · rw [List.getElem?_append_right (by omega)] at hi
        obtain ⟨m, c, r, h1, h2, h3, h4⟩ := hx _ hi
        refine ⟨m, c, r, h1, h2, h3, ?_⟩
        simp only [List.drop_succ_cons]
        rw [List.drop_append, List.drop_eq_nil_of_le (by omega), List.nil_append]
        exact h4
  · intro G a t b ha _ _ ht i hi
    cases i with
    | zero => simp at hi
    | succ i =>
      simp at hi
      by_cases hl : i < a.length
      · rw [List.getElem?_append_left hl] at hi
        exact (low a (isTy_low ha) i hi).elim
      · rw [List.getElem?_append_right (by omega)] at hi
        obtain ⟨m, c, r, h1, h2, h3, h4⟩ := ht _ hi
        refine ⟨m, c, r, h1, h2, h3, ?_⟩
        simp only [List.drop_succ_cons]
        rw [List.drop_append, List.drop_eq_nil_of_le (by omega), List.nil_append]
        exact h4
theorem isTm_13 (h : isTm G t a) : ∀ (i : Nat), t[i]? = some 13 → ∃ (D : List (List Int)) (u c r : List Int), isTm D u c ∧ t.drop i = u ++ r ∧ hdT r ∧ D.length ≤ G.length + t.length := by
  have low : ∀ (l : List Int), (∀ s ∈ l, s < 10) → ∀ i : Nat, l[i]? = some 13 → False := by
    intro l hl i hi
    have := hl 13 (List.mem_of_getElem? hi)
    omega
  refine isTm_ind (P := fun G t _ => ∀ (i : Nat), t[i]? = some 13 → ∃ (D : List (List Int)) (u c r : List Int), isTm D u c ∧ t.drop i = u ++ r ∧ hdT r ∧ D.length ≤ G.length + t.length) ?_ ?_ ?_ ?_ ?_ ?_ h
  · intro G n a h0 h7 ha i hi
    cases i with
    | zero => simp at hi
    | succ i =>
      cases i with
      | zero => simp at hi; omega
      | succ i => simp at hi; exact (low a (isTy_low ha) i hi).elim
  · intro G n a h0 h7 ha i hi
    cases i with
    | zero => simp at hi
    | succ i =>
      cases i with
      | zero => simp at hi; omega
      | succ i => simp at hi; exact (low a (isTy_low ha) i hi).elim
  · intro G a ha i hi
    cases i with
    | zero => simp at hi
    | succ i =>
      cases i with
      | zero => simp at hi
      | succ i => simp at hi; exact (low a (isTy_low ha) i hi).elim
  · intro G d a hd ha i hi
    cases i with
    | zero => simp at hi; omega
    | succ i => simp at hi
  · intro G f x a b _ _ _ hx0 hf hx i hi
    cases i with
    | zero => simp at hi
    | succ i =>
      simp at hi
      by_cases hl : i < f.length
      · rw [List.getElem?_append_left hl] at hi
        obtain ⟨D, u, c, r, h1, h2, h3, h4⟩ := hf i hi
        refine ⟨D, u, c, r ++ x, h1, ?_, ?_, by simp; omega⟩
        · simp only [List.drop_succ_cons]
          rw [List.drop_append_of_le_length (by omega), h2]
          simp
        · rcases h3 with h3 | ⟨s, l, h3, hs⟩
          · subst h3; exact (by have := isTm_hdT hx0 []; simpa using this)
          · subst h3; exact Or.inr ⟨s, l ++ x, rfl, hs⟩
      · rw [List.getElem?_append_right (by omega)] at hi
        obtain ⟨D, u, c, r, h1, h2, h3, h4⟩ := hx _ hi
        refine ⟨D, u, c, r, h1, ?_, h3, by simp; omega⟩
        simp only [List.drop_succ_cons]
        rw [List.drop_append, List.drop_eq_nil_of_le (by omega), List.nil_append]
        exact h2
  · intro G a t b ha hb ht0 ht i hi
    cases i with
    | zero => exact ⟨G, 13 :: (a ++ t), _, [], isTm_l ha hb ht0, by simp, Or.inl rfl, by omega⟩
    | succ i =>
      simp at hi
      by_cases hl : i < a.length
      · rw [List.getElem?_append_left hl] at hi
        exact (low a (isTy_low ha) i hi).elim
      · rw [List.getElem?_append_right (by omega)] at hi
        obtain ⟨D, u, c, r, h1, h2, h3, h4⟩ := ht _ hi
        refine ⟨D, u, c, r, h1, ?_, h3, by simp at h4 ⊢; omega⟩
        simp only [List.drop_succ_cons]
        rw [List.drop_append, List.drop_eq_nil_of_le (by omega), List.nil_append]
        exact h2
/-! a variable's row at the front -/
theorem pf_v {n m : Int} {c a r : List Int} (hc : isTy c) (ha : isTy a) : (10 :: n :: c).isPrefixOf (10 :: m :: (a ++ r)) = true ↔ n = m ∧ c = a := by
  rw [List.isPrefixOf_iff_prefix]
  constructor
  · rintro ⟨z, e⟩
    simp at e
    exact ⟨e.1, (isTy_cut hc ha e.2).1⟩
  · rintro ⟨e1, e2⟩
    subst e1; subst e2
    exact ⟨r, by simp⟩
theorem pf_n {s n : Int} {c l : List Int} (hs : ¬ s = 10) : (10 :: n :: c).isPrefixOf (s :: l) = false := by
  simp [List.isPrefixOf]
  intro h
  exact absurd h.symm hs
/-! a variable replaced by a term -/
def rplC (v u : List Int) : List Int → Nat → List Int
  | [], _ => []
  | s :: l, k => if v.isPrefixOf (s :: l) = true then u ++ rplC v u l (v.length - 1) else if k = 0 then s :: rplC v u l 0 else rplC v u l (k - 1)
section RP
variable {n : Int} {c u : List Int}
theorem rpl_low {l : List Int} (hl : ∀ s ∈ l, s < 10) (r : List Int) : rplC (10 :: n :: c) u (l ++ r) 0 = l ++ rplC (10 :: n :: c) u r 0 := by
  induction l with
  | nil => rfl
  | cons s l ih =>
    have h1 : ¬ s = 10 := by have := hl s List.mem_cons_self; omega
    simp [rplC, pf_n h1, ih (fun z hz => hl z (List.mem_cons_of_mem _ hz))]
theorem rpl_skip {l : List Int} (hl : ∀ s ∈ l, s < 10) (r : List Int) : rplC (10 :: n :: c) u (l ++ r) l.length = rplC (10 :: n :: c) u r 0 := by
  induction l with
  | nil => rfl
  | cons s l ih =>
    have h1 : ¬ s = 10 := by have := hl s List.mem_cons_self; omega
    simp [rplC, pf_n h1, ih (fun z hz => hl z (List.mem_cons_of_mem _ hz))]
theorem rpl_hit (hn : n < 10) (hc : isTy c) (r : List Int) : rplC (10 :: n :: c) u (10 :: n :: (c ++ r)) 0 = u ++ rplC (10 :: n :: c) u r 0 := by
  have h1 : (10 :: n :: c).isPrefixOf (10 :: n :: (c ++ r)) = true := (pf_v hc hc).mpr ⟨rfl, rfl⟩
  have hl : ∀ s ∈ n :: c, s < 10 := by
    intro s hs
    rcases List.mem_cons.mp hs with h | h
    · omega
    · exact isTy_low hc s h
  have h2 := rpl_skip (n := n) (c := c) (u := u) hl r
  rw [rplC, if_pos h1]
  simp only [List.length_cons, Nat.add_sub_cancel, List.cons_append] at h2 ⊢
  rw [h2]
theorem rpl_tm (hn : n < 10) (hc : isTy c) (hu : isTm [] u c) (h : isTm G t b) : ∃ t', isTm G t' b ∧ ∀ r, rplC (10 :: n :: c) u (t ++ r) 0 = t' ++ rplC (10 :: n :: c) u r 0 := by
  refine isTm_ind (P := fun G t b => ∃ t', isTm G t' b ∧ ∀ r, rplC (10 :: n :: c) u (t ++ r) 0 = t' ++ rplC (10 :: n :: c) u r 0) ?_ ?_ ?_ ?_ ?_ ?_ h
  · intro G m a h0 h7 ha
    by_cases he : n = m ∧ c = a
    · obtain ⟨e1, e2⟩ := he
      subst e1; subst e2
      exact ⟨u, isTm_weak hu G, fun r => by have := rpl_hit (u := u) hn hc r; simpa using this⟩
    · refine ⟨10 :: m :: a, isTm_v h0 h7 ha, fun r => ?_⟩
      have h1 : ¬ (10 :: n :: c).isPrefixOf (10 :: m :: (a ++ r)) = true := fun q => he ((pf_v hc ha).mp q)
      have hm : ¬ m = 10 := by omega
      simp only [List.cons_append]
      rw [rplC, if_neg h1, if_pos rfl, rplC, pf_n hm, if_neg (by decide), if_pos rfl, rpl_low (isTy_low ha)]
  · intro G m a h0 h7 ha
    refine ⟨11 :: m :: a, isTm_c h0 h7 ha, fun r => ?_⟩
    have hm : ¬ m = 10 := by omega
    simp only [List.cons_append]
    rw [rplC, pf_n (by decide), if_neg (by decide), if_pos rfl, rplC, pf_n hm, if_neg (by decide), if_pos rfl, rpl_low (isTy_low ha)]
  · intro G a ha
    refine ⟨11 :: 0 :: a, isTm_e ha, fun r => ?_⟩
    simp only [List.cons_append]
    rw [rplC, pf_n (by decide), if_neg (by decide), if_pos rfl, rplC, pf_n (by decide), if_neg (by decide), if_pos rfl, rpl_low (isTy_low ha)]
  · intro G d a hd ha
    refine ⟨[20 + (d : Int)], isTm_b hd ha, fun r => ?_⟩
    have hm : ¬ (20 + (d : Int)) = 10 := by omega
    simp only [List.cons_append, List.nil_append]
    rw [rplC, pf_n hm, if_neg (by decide), if_pos rfl]
  · intro G f x a b ha hb _ _ hf hx
    obtain ⟨f', hf1, hf2⟩ := hf
    obtain ⟨x', hx1, hx2⟩ := hx
    refine ⟨12 :: (f' ++ x'), isTm_a ha hb hf1 hx1, fun r => ?_⟩
    simp only [List.cons_append, List.append_assoc]
    rw [rplC, pf_n (by decide), if_neg (by decide), if_pos rfl, hf2, hx2]
  · intro G a t b ha hb _ ht
    obtain ⟨t', ht1, ht2⟩ := ht
    refine ⟨13 :: (a ++ t'), isTm_l ha hb ht1, fun r => ?_⟩
    simp only [List.cons_append, List.append_assoc]
    rw [rplC, pf_n (by decide), if_neg (by decide), if_pos rfl, rpl_low (isTy_low ha), ht2]
theorem rpl_ok (hn : n < 10) (hc : isTy c) (hu : isTm [] u c) (h : isTm G t b) : isTm G (rplC (10 :: n :: c) u t 0) b := by
  obtain ⟨t', h1, h2⟩ := rpl_tm hn hc hu h
  have := h2 []
  simp [rplC] at this
  rw [this]
  exact h1
end RP
end OP
end
section
/-! how many abstractions stand around: by the class's way (a stack of what is still to come) and by the reference's (ends of abstractions) -/
def dpP (R : List Int) (m : Int) : List Int := R.dropWhile (fun r => decide (m ≤ r))
def dpS (s : Int) (q : List Int × Int) : List Int × Int :=
  if s < 10 then q else if s = 12 then (dpP q.1 q.2, q.2 + 1) else if s = 13 then ((q.2 - 1) :: dpP q.1 q.2, q.2) else (dpP q.1 q.2, q.2 - 1)
theorem dpP_lo {R : List Int} {m m' : Int} (h : m' ≤ m) : dpP (dpP R m) m' = dpP R m' := by
  unfold dpP
  induction R with
  | nil => rfl
  | cons r R ih =>
    by_cases hr : m ≤ r
    · have h1 : m' ≤ r := by omega
      simp [List.dropWhile_cons, hr, h1, ih]
    · simp [List.dropWhile_cons, hr]
theorem dpP_up {R : List Int} {m m' : Int} (h : m ≤ m') : dpP (dpP R m) m' = dpP R m := by
  unfold dpP
  induction R with
  | nil => rfl
  | cons r R ih =>
    by_cases hr : m ≤ r
    · simp [List.dropWhile_cons, hr, ih]
    · have h1 : ¬ m' ≤ r := by omega
      simp [List.dropWhile_cons, hr, h1]
theorem dpP_le (R : List Int) (m : Int) : (dpP R m).length ≤ R.length := by
  unfold dpP
  induction R with
  | nil => simp
  | cons r R ih =>
    by_cases hr : m ≤ r
    · simp [List.dropWhile_cons, hr]; omega
    · simp [List.dropWhile_cons, hr]
def szT (l : List Int) : Nat := l.length - (tmS l 1).length
theorem szT_tm {G : List (List Int)} {t a r : List Int} (h : isTm G t a) (hr : hdT r) : szT (t ++ r) = t.length := by
  unfold szT
  rw [tmS_tm h r 0, tmS_0 hr]
  simp
def cnt (E : List Nat) (p : Nat) : Nat := (E.filter (fun e => decide (p < e))).length
theorem cnt_app (E F : List Nat) (p : Nat) : cnt (E ++ F) p = cnt E p + cnt F p := by
  unfold cnt
  simp
theorem cnt_0 {E : List Nat} {p : Nat} (h : ∀ e ∈ E, e ≤ p) : cnt E p = 0 := by
  unfold cnt
  rw [List.length_eq_zero_iff, List.filter_eq_nil_iff]
  intro e he
  have := h e he
  simp
  omega
theorem cnt_eq {E : List Nat} {p p' : Nat} (h : ∀ e ∈ E, p < e ↔ p' < e) : cnt E p = cnt E p' := by
  unfold cnt
  congr 1
  apply List.filter_congr
  intro e he
  have := h e he
  simp [this]
/-! a variable bound -/
def absC (v : List Int) : List Int → List Int × Int → Nat → List Int
  | [], _, _ => []
  | s :: l, q, k => if v.isPrefixOf (s :: l) = true then (20 + ((dpS s q).1.length : Int)) :: absC v l (dpS s q) (v.length - 1) else if k = 0 then s :: absC v l (dpS s q) 0 else absC v l (dpS s q) (k - 1)
def absR (v : List Int) : List Int → Nat → List Nat → Nat → List Int
  | [], _, _, _ => []
  | s :: l, p, E, k => if k = 0 then (if v.isPrefixOf (s :: l) = true then (20 + (cnt E p : Int)) :: absR v l (p + 1) (if s = 13 then (p + szT (s :: l)) :: E else E) (v.length - 1) else s :: absR v l (p + 1) (if s = 13 then (p + szT (s :: l)) :: E else E) 0) else absR v l (p + 1) (if s = 13 then (p + szT (s :: l)) :: E else E) (k - 1)
section AB
variable {G : List (List Int)} {b t c : List Int} {n : Int}
theorem dpS_low {s : Int} (h : s < 10) (q : List Int × Int) : dpS s q = q := by
  unfold dpS
  rw [if_pos h]
theorem absC_low {l : List Int} (hl : ∀ s ∈ l, s < 10) (r : List Int) (q : List Int × Int) : absC (10 :: n :: c) (l ++ r) q 0 = l ++ absC (10 :: n :: c) r q 0 := by
  induction l with
  | nil => rfl
  | cons s l ih =>
    have h0 := hl s List.mem_cons_self
    have h1 : ¬ s = 10 := by omega
    simp [absC, pf_n h1, dpS_low h0, ih (fun z hz => hl z (List.mem_cons_of_mem _ hz))]
theorem absC_skip {l : List Int} (hl : ∀ s ∈ l, s < 10) (r : List Int) (q : List Int × Int) : absC (10 :: n :: c) (l ++ r) q l.length = absC (10 :: n :: c) r q 0 := by
  induction l with
  | nil => rfl
  | cons s l ih =>
    have h0 := hl s List.mem_cons_self
    have h1 : ¬ s = 10 := by omega
    simp [absC, pf_n h1, dpS_low h0, ih (fun z hz => hl z (List.mem_cons_of_mem _ hz))]
theorem absR_low {l : List Int} (hl : ∀ s ∈ l, s < 10) (r : List Int) (E : List Nat) : ∀ p, absR (10 :: n :: c) (l ++ r) p E 0 = l ++ absR (10 :: n :: c) r (p + l.length) E 0 := by
  induction l with
  | nil => intro p; rfl
  | cons s l ih =>
    intro p
    have h0 := hl s List.mem_cons_self
    have h1 : ¬ s = 10 := by omega
    have h2 : ¬ s = 13 := by omega
    simp [absR, pf_n h1, h2, ih (fun z hz => hl z (List.mem_cons_of_mem _ hz))]
    congr 1
    omega
theorem absR_skip {l : List Int} (hl : ∀ s ∈ l, s < 10) (r : List Int) (E : List Nat) : ∀ p, absR (10 :: n :: c) (l ++ r) p E l.length = absR (10 :: n :: c) r (p + l.length) E 0 := by
  induction l with
  | nil => intro p; rfl
  | cons s l ih =>
    intro p
    have h0 := hl s List.mem_cons_self
    have h2 : ¬ s = 13 := by omega
    simp [absR, h2, ih (fun z hz => hl z (List.mem_cons_of_mem _ hz))]
    congr 1
    omega
theorem abs_low {m : Int} {a : List Int} (hm : m < 10) (ha : isTy a) : ∀ s ∈ m :: a, s < 10 := by
  intro s hs
  rcases List.mem_cons.mp hs with h | h
  · omega
  · exact isTy_low ha s h
/-- both ways write one term -/
theorem abs_tm (hn : n < 10) (hc : isTy c) (h : isTm G t b) : ∃ t', isTm (G ++ [c]) t' b ∧
    (∀ R m r, (dpP R m).length = G.length → ∃ R', dpP R' (m - 1) = dpP R (m - 1) ∧ absC (10 :: n :: c) (t ++ r) (R, m) 0 = t' ++ absC (10 :: n :: c) r (R', m - 1) 0) ∧
    (∀ p E r, hdT r → cnt E p = G.length → (∀ e ∈ E, e ≤ p ∨ p + t.length ≤ e) → ∃ E', (∀ e ∈ E', e ≤ p + t.length) ∧ absR (10 :: n :: c) (t ++ r) p E 0 = t' ++ absR (10 :: n :: c) r (p + t.length) (E' ++ E) 0) := by
  refine isTm_ind (P := fun G t b => ∃ t', isTm (G ++ [c]) t' b ∧
    (∀ R m r, (dpP R m).length = G.length → ∃ R', dpP R' (m - 1) = dpP R (m - 1) ∧ absC (10 :: n :: c) (t ++ r) (R, m) 0 = t' ++ absC (10 :: n :: c) r (R', m - 1) 0) ∧
    (∀ p E r, hdT r → cnt E p = G.length → (∀ e ∈ E, e ≤ p ∨ p + t.length ≤ e) → ∃ E', (∀ e ∈ E', e ≤ p + t.length) ∧ absR (10 :: n :: c) (t ++ r) p E 0 = t' ++ absR (10 :: n :: c) r (p + t.length) (E' ++ E) 0)) ?_ ?_ ?_ ?_ ?_ ?_ h
  · intro G m a h0 h7 ha
    have hm : m < 10 := by omega
    by_cases he : n = m ∧ c = a
    · obtain ⟨e1, e2⟩ := he
      subst e1; subst e2
      refine ⟨[20 + (G.length : Int)], isTm_b (by simp) hc, ?_, ?_⟩
      · intro R m r hR
        refine ⟨dpP R m, dpP_lo (by omega), ?_⟩
        have h1 : (10 :: n :: c).isPrefixOf (10 :: n :: (c ++ r)) = true := (pf_v hc hc).mpr ⟨rfl, rfl⟩
        have h2 := absC_skip (n := n) (c := c) (l := n :: c) (abs_low hn hc) r (dpP R m, m - 1)
        have h3 : dpS 10 (R, m) = (dpP R m, m - 1) := by simp [dpS]
        simp only [List.cons_append, List.nil_append]
        rw [absC, if_pos h1, h3]
        simp only [List.length_cons, Nat.add_sub_cancel, List.cons_append, hR] at h2 ⊢
        rw [h2]
      · intro p E r hr hE _
        refine ⟨[], by simp, ?_⟩
        have h1 : (10 :: n :: c).isPrefixOf (10 :: n :: (c ++ r)) = true := (pf_v hc hc).mpr ⟨rfl, rfl⟩
        have h2 := absR_skip (n := n) (c := c) (l := n :: c) (abs_low hn hc) r E (p + 1)
        simp only [List.cons_append, List.nil_append]
        rw [absR, if_pos rfl, if_pos h1, if_neg (by decide), hE]
        simp only [List.length_cons, Nat.add_sub_cancel, List.cons_append] at h2 ⊢
        rw [h2]
        congr 2
        omega
    · refine ⟨10 :: m :: a, isTm_v h0 h7 ha, ?_, ?_⟩
      · intro R m' r hR
        refine ⟨dpP R m', dpP_lo (by omega), ?_⟩
        have h1 : ¬ (10 :: n :: c).isPrefixOf (10 :: m :: (a ++ r)) = true := fun q => he ((pf_v hc ha).mp q)
        have h3 : dpS 10 (R, m') = (dpP R m', m' - 1) := by simp [dpS]
        have h4 := absC_low (n := n) (c := c) (l := m :: a) (abs_low hm ha) r (dpP R m', m' - 1)
        simp only [List.cons_append] at h4 ⊢
        rw [absC, if_neg h1, if_pos rfl, h3, h4]
      · intro p E r hr hE _
        refine ⟨[], by simp, ?_⟩
        have h1 : ¬ (10 :: n :: c).isPrefixOf (10 :: m :: (a ++ r)) = true := fun q => he ((pf_v hc ha).mp q)
        have h4 := absR_low (n := n) (c := c) (l := m :: a) (abs_low hm ha) r E (p + 1)
        simp only [List.cons_append, List.nil_append] at h4 ⊢
        rw [absR, if_pos rfl, if_neg h1, if_neg (by decide), h4]
        simp only [List.length_cons]
        congr 4
        omega
  · intro G m a h0 h7 ha
    have hm : m < 10 := by omega
    refine ⟨11 :: m :: a, isTm_c h0 h7 ha, ?_, ?_⟩
    · intro R m' r hR
      refine ⟨dpP R m', dpP_lo (by omega), ?_⟩
      have h3 : dpS 11 (R, m') = (dpP R m', m' - 1) := by simp [dpS]
      have h4 := absC_low (n := n) (c := c) (l := m :: a) (abs_low hm ha) r (dpP R m', m' - 1)
      simp only [List.cons_append] at h4 ⊢
      rw [absC, pf_n (by decide), if_neg (by decide), if_pos rfl, h3, h4]
    · intro p E r hr hE _
      refine ⟨[], by simp, ?_⟩
      have h4 := absR_low (n := n) (c := c) (l := m :: a) (abs_low hm ha) r E (p + 1)
      simp only [List.cons_append, List.nil_append] at h4 ⊢
      rw [absR, if_pos rfl, pf_n (by decide), if_neg (by decide), if_neg (by decide), h4]
      simp only [List.length_cons]
      congr 4
      omega
  · intro G a ha
    refine ⟨11 :: 0 :: a, isTm_e ha, ?_, ?_⟩
    · intro R m' r hR
      refine ⟨dpP R m', dpP_lo (by omega), ?_⟩
      have h3 : dpS 11 (R, m') = (dpP R m', m' - 1) := by simp [dpS]
      have h4 := absC_low (n := n) (c := c) (l := 0 :: a) (abs_low (by omega) ha) r (dpP R m', m' - 1)
      simp only [List.cons_append] at h4 ⊢
      rw [absC, pf_n (by decide), if_neg (by decide), if_pos rfl, h3, h4]
    · intro p E r hr hE _
      refine ⟨[], by simp, ?_⟩
      have h4 := absR_low (n := n) (c := c) (l := 0 :: a) (abs_low (by omega) ha) r E (p + 1)
      simp only [List.cons_append, List.nil_append] at h4 ⊢
      rw [absR, if_pos rfl, pf_n (by decide), if_neg (by decide), if_neg (by decide), h4]
      simp only [List.length_cons]
      congr 4
      omega
  · intro G d a hd ha
    have e1 : ¬ (20 + (d : Int)) = 10 := by omega
    have e2 : ¬ (20 + (d : Int)) < 10 := by omega
    have e3 : ¬ (20 + (d : Int)) = 12 := by omega
    have e4 : ¬ (20 + (d : Int)) = 13 := by omega
    refine ⟨[20 + (d : Int)], isTm_b (by rw [List.getElem?_append_left (List.getElem?_eq_some_iff.mp hd).1]; exact hd) ha, ?_, ?_⟩
    · intro R m' r hR
      refine ⟨dpP R m', dpP_lo (by omega), ?_⟩
      have h3 : dpS (20 + (d : Int)) (R, m') = (dpP R m', m' - 1) := by simp [dpS, e2, e3, e4]
      simp only [List.cons_append, List.nil_append]
      rw [absC, pf_n e1, if_neg (by decide), if_pos rfl, h3]
    · intro p E r hr hE _
      refine ⟨[], by simp, ?_⟩
      simp only [List.cons_append, List.nil_append]
      rw [absR, if_pos rfl, pf_n e1, if_neg (by decide), if_neg e4]
      simp
  · intro G f x a b ha hb hf0 hx0 hf hx
    obtain ⟨f', hf1, hf2, hf3⟩ := hf
    obtain ⟨x', hx1, hx2, hx3⟩ := hx
    refine ⟨12 :: (f' ++ x'), isTm_a ha hb hf1 hx1, ?_, ?_⟩
    · intro R m r hR
      have h3 : dpS 12 (R, m) = (dpP R m, m + 1) := by simp [dpS]
      obtain ⟨R2, k1, k2⟩ := hf2 (dpP R m) (m + 1) (x ++ r) (by rw [dpP_up (by omega)]; exact hR)
      rw [show m + 1 - 1 = m by omega] at k1 k2
      rw [dpP_lo (Int.le_refl _)] at k1
      obtain ⟨R3, k3, k4⟩ := hx2 R2 m r (by rw [k1]; exact hR)
      refine ⟨R3, ?_, ?_⟩
      · rw [k3, ← dpP_lo (R := R2) (m := m) (by omega), k1, dpP_lo (by omega)]
      · simp only [List.cons_append, List.append_assoc]
        rw [absC, pf_n (by decide), if_neg (by decide), if_pos rfl, h3, k2, k4]
    · intro p E r hr hE hE2
      have hlf := isTm_len hf0
      have hlx := isTm_len hx0
      simp only [List.length_cons, List.length_append] at hE2
      obtain ⟨E1, k1, k2⟩ := hf3 (p + 1) E (x ++ r) (isTm_hdT hx0 r) (by rw [← hE]; exact cnt_eq (fun e he => by have := hE2 e he; omega)) (fun e he => by have := hE2 e he; omega)
      obtain ⟨E2, k3, k4⟩ := hx3 (p + 1 + f.length) (E1 ++ E) r hr (by rw [cnt_app, cnt_0 k1, ← hE, Nat.zero_add]; exact cnt_eq (fun e he => by have := hE2 e he; omega)) (fun e he => by
        rcases List.mem_append.mp he with he | he
        · exact Or.inl (k1 e he)
        · have := hE2 e he; omega)
      refine ⟨E2 ++ E1, fun e he => ?_, ?_⟩
      · simp only [List.length_cons, List.length_append]
        rcases List.mem_append.mp he with he | he
        · have := k3 e he; omega
        · have := k1 e he; omega
      · simp only [List.cons_append, List.append_assoc]
        rw [absR, if_pos rfl, pf_n (by decide), if_neg (by decide), if_neg (by decide), k2, k4]
        simp only [List.length_cons, List.length_append, List.append_assoc]
        congr 4
        omega
  · intro G a t b ha hb ht0 ht
    obtain ⟨t', ht1, ht2, ht3⟩ := ht
    refine ⟨13 :: (a ++ t'), isTm_l ha hb ht1, ?_, ?_⟩
    · intro R m r hR
      have h3 : dpS 13 (R, m) = ((m - 1) :: dpP R m, m) := by simp [dpS]
      have h5 : dpP ((m - 1) :: dpP R m) m = (m - 1) :: dpP R m := by
        have : ¬ m ≤ m - 1 := by omega
        simp [dpP, List.dropWhile_cons, this]
      obtain ⟨R2, k1, k2⟩ := ht2 ((m - 1) :: dpP R m) m r (by rw [h5]; simp [hR])
      refine ⟨R2, ?_, ?_⟩
      · rw [k1]
        have : dpP ((m - 1) :: dpP R m) (m - 1) = dpP (dpP R m) (m - 1) := by simp [dpP, List.dropWhile_cons]
        rw [this, dpP_lo (by omega)]
      · simp only [List.cons_append, List.append_assoc]
        rw [absC, pf_n (by decide), if_neg (by decide), if_pos rfl, h3, absC_low (isTy_low ha), k2]
    · intro p E r hr hE hE2
      have hlt := isTm_len ht0
      simp only [List.length_cons, List.length_append] at hE2
      have hz := szT_tm (isTm_l ha hb ht0) hr
      obtain ⟨E1, k1, k2⟩ := ht3 (p + 1 + a.length) ((p + (a.length + t.length + 1)) :: E) r hr (by
          have e0 : cnt ((p + (a.length + t.length + 1)) :: E) (p + 1 + a.length) = 1 + cnt E (p + 1 + a.length) := by
            have : p + 1 + a.length < p + (a.length + t.length + 1) := by omega
            simp [cnt, this]; omega
          rw [e0, cnt_eq (E := E) (p := p + 1 + a.length) (p' := p) (fun e he => by have := hE2 e he; omega), hE]
          simp; omega) (fun e he => by
        rcases List.mem_cons.mp he with he | he
        · subst he; right; omega
        · have := hE2 e he; omega)
      refine ⟨E1 ++ [p + (a.length + t.length + 1)], fun e he => ?_, ?_⟩
      · simp only [List.length_cons, List.length_append]
        rcases List.mem_append.mp he with he | he
        · have := k1 e he; omega
        · simp at he; omega
      · simp only [List.cons_append, List.append_assoc] at hz ⊢
        rw [absR, if_pos rfl, pf_n (by decide), if_neg (by decide), if_pos rfl, hz, absR_low (isTy_low ha)]
        simp only [List.length_cons, List.length_append, List.nil_append, List.singleton_append, List.cons_append] at k2 ⊢
        rw [k2]
        congr 4
        omega
theorem abs_ok (hn : n < 10) (hc : isTy c) (h : isTm [] t b) : isTm [c] (absC (10 :: n :: c) t ([], 1) 0) b ∧ absR (10 :: n :: c) t 0 [] 0 = absC (10 :: n :: c) t ([], 1) 0 := by
  obtain ⟨t', h1, h2, h3⟩ := abs_tm hn hc h
  obtain ⟨R', -, e1⟩ := h2 [] 1 [] (by rfl)
  obtain ⟨E', -, e2⟩ := h3 0 [] [] (Or.inl rfl) (by rfl) (by simp)
  simp [absC, absR] at e1 e2
  rw [e1, e2]
  exact ⟨by simpa using h1, rfl⟩
end AB
end
section
/-! an abstraction's own variable replaced by a term -/
def betC (u : List Int) : List Int → List Int × Int → List Int
  | [], _ => []
  | s :: l, q => if s = 20 + ((dpS s q).1.length : Int) then u ++ betC u l (dpS s q) else s :: betC u l (dpS s q)
def betR (u : List Int) : List Int → Nat → List Nat → List Int
  | [], _, _ => []
  | s :: l, p, E => if 20 ≤ s ∧ s - 20 = (cnt E p : Int) then u ++ betR u l (p + 1) (if s = 13 then (p + szT (s :: l)) :: E else E) else s :: betR u l (p + 1) (if s = 13 then (p + szT (s :: l)) :: E else E)
section BE
variable {G : List (List Int)} {b t c u : List Int}
theorem betC_low {l : List Int} (hl : ∀ s ∈ l, s < 10) (r : List Int) (q : List Int × Int) : betC u (l ++ r) q = l ++ betC u r q := by
  induction l with
  | nil => rfl
  | cons s l ih =>
    have h0 := hl s List.mem_cons_self
    have h1 : ¬ s = 20 + ((dpS s q).1.length : Int) := by omega
    rw [List.cons_append, betC, if_neg h1, dpS_low h0, ih (fun z hz => hl z (List.mem_cons_of_mem _ hz))]
    rfl
theorem betC_11 {s : Int} (hs : s < 20) (r : List Int) (q : List Int × Int) : betC u (s :: r) q = s :: betC u r (dpS s q) := by
  have h1 : ¬ s = 20 + ((dpS s q).1.length : Int) := by omega
  rw [betC, if_neg h1]
theorem betR_11 {s : Int} (hs : s < 20) (r : List Int) (p : Nat) (E : List Nat) : betR u (s :: r) p E = s :: betR u r (p + 1) (if s = 13 then (p + szT (s :: r)) :: E else E) := by
  have h1 : ¬ (20 ≤ s ∧ s - 20 = (cnt E p : Int)) := by omega
  rw [betR, if_neg h1]
theorem betR_low {l : List Int} (hl : ∀ s ∈ l, s < 10) (r : List Int) (E : List Nat) : ∀ p, betR u (l ++ r) p E = l ++ betR u r (p + l.length) E := by
  induction l with
  | nil => intro p; rfl
  | cons s l ih =>
    intro p
    have h0 := hl s List.mem_cons_self
    have h2 : ¬ s = 13 := by omega
    rw [List.cons_append, betR_11 (by omega), if_neg h2, ih (fun z hz => hl z (List.mem_cons_of_mem _ hz))]
    simp only [List.cons_append, List.length_cons]
    congr 3
    omega
theorem bet_tm {H : List (List Int)} (hu : isTm [] u c) (h : isTm H t b) : ∀ G, H = G ++ [c] → ∃ t', isTm G t' b ∧
    (∀ R m r, (dpP R m).length = G.length → ∃ R', dpP R' (m - 1) = dpP R (m - 1) ∧ betC u (t ++ r) (R, m) = t' ++ betC u r (R', m - 1)) ∧
    (∀ p E r, hdT r → cnt E p = G.length → (∀ e ∈ E, e ≤ p ∨ p + t.length ≤ e) → ∃ E', (∀ e ∈ E', e ≤ p + t.length) ∧ betR u (t ++ r) p E = t' ++ betR u r (p + t.length) (E' ++ E)) := by
  refine isTm_ind (P := fun H t b => ∀ G, H = G ++ [c] → ∃ t', isTm G t' b ∧
    (∀ R m r, (dpP R m).length = G.length → ∃ R', dpP R' (m - 1) = dpP R (m - 1) ∧ betC u (t ++ r) (R, m) = t' ++ betC u r (R', m - 1)) ∧
    (∀ p E r, hdT r → cnt E p = G.length → (∀ e ∈ E, e ≤ p ∨ p + t.length ≤ e) → ∃ E', (∀ e ∈ E', e ≤ p + t.length) ∧ betR u (t ++ r) p E = t' ++ betR u r (p + t.length) (E' ++ E))) ?_ ?_ ?_ ?_ ?_ ?_ h
  · intro H m a h0 h7 ha G hG
    have hm : m < 10 := by omega
    refine ⟨10 :: m :: a, isTm_v h0 h7 ha, ?_, ?_⟩
    · intro R m' r hR
      refine ⟨dpP R m', dpP_lo (by omega), ?_⟩
      have h3 : dpS 10 (R, m') = (dpP R m', m' - 1) := by simp [dpS]
      have h4 := betC_low (u := u) (l := m :: a) (abs_low hm ha) r (dpP R m', m' - 1)
      simp only [List.cons_append] at h4 ⊢
      rw [betC_11 (by decide), h3, h4]
    · intro p E r hr hE _
      refine ⟨[], by simp, ?_⟩
      have h4 := betR_low (u := u) (l := m :: a) (abs_low hm ha) r E (p + 1)
      simp only [List.cons_append, List.nil_append] at h4 ⊢
      rw [betR_11 (by decide), if_neg (by decide), h4]
      simp only [List.length_cons]
      congr 4
      omega
  · intro H m a h0 h7 ha G hG
    have hm : m < 10 := by omega
    refine ⟨11 :: m :: a, isTm_c h0 h7 ha, ?_, ?_⟩
    · intro R m' r hR
      refine ⟨dpP R m', dpP_lo (by omega), ?_⟩
      have h3 : dpS 11 (R, m') = (dpP R m', m' - 1) := by simp [dpS]
      have h4 := betC_low (u := u) (l := m :: a) (abs_low hm ha) r (dpP R m', m' - 1)
      simp only [List.cons_append] at h4 ⊢
      rw [betC_11 (by decide), h3, h4]
    · intro p E r hr hE _
      refine ⟨[], by simp, ?_⟩
      have h4 := betR_low (u := u) (l := m :: a) (abs_low hm ha) r E (p + 1)
      simp only [List.cons_append, List.nil_append] at h4 ⊢
      rw [betR_11 (by decide), if_neg (by decide), h4]
      simp only [List.length_cons]
      congr 4
      omega
  · intro H a ha G hG
    refine ⟨11 :: 0 :: a, isTm_e ha, ?_, ?_⟩
    · intro R m' r hR
      refine ⟨dpP R m', dpP_lo (by omega), ?_⟩
      have h3 : dpS 11 (R, m') = (dpP R m', m' - 1) := by simp [dpS]
      have h4 := betC_low (u := u) (l := 0 :: a) (abs_low (by omega) ha) r (dpP R m', m' - 1)
      simp only [List.cons_append] at h4 ⊢
      rw [betC_11 (by decide), h3, h4]
    · intro p E r hr hE _
      refine ⟨[], by simp, ?_⟩
      have h4 := betR_low (u := u) (l := 0 :: a) (abs_low (by omega) ha) r E (p + 1)
      simp only [List.cons_append, List.nil_append] at h4 ⊢
      rw [betR_11 (by decide), if_neg (by decide), h4]
      simp only [List.length_cons]
      congr 4
      omega
  · intro H d a hd ha G hG
    subst hG
    have e2 : ¬ (20 + (d : Int)) < 10 := by omega
    have e3 : ¬ (20 + (d : Int)) = 12 := by omega
    have e4 : ¬ (20 + (d : Int)) = 13 := by omega
    have hl := (List.getElem?_eq_some_iff.mp hd).1
    simp only [List.length_append, List.length_cons, List.length_nil] at hl
    by_cases hdG : d = G.length
    · subst hdG
      simp at hd
      subst hd
      refine ⟨u, by have := isTm_weak hu G; simpa using this, ?_, ?_⟩
      · intro R m' r hR
        refine ⟨dpP R m', dpP_lo (by omega), ?_⟩
        have h3 : dpS (20 + (G.length : Int)) (R, m') = (dpP R m', m' - 1) := by simp [dpS, e2, e3, e4]
        simp only [List.cons_append, List.nil_append]
        rw [betC, h3, if_pos (by rw [hR])]
      · intro p E r hr hE _
        refine ⟨[], by simp, ?_⟩
        simp only [List.cons_append, List.nil_append]
        rw [betR, if_pos (by rw [hE]; omega), if_neg e4]
        simp
    · refine ⟨[20 + (d : Int)], isTm_b (by rw [List.getElem?_append_left (by omega)] at hd; exact hd) ha, ?_, ?_⟩
      · intro R m' r hR
        refine ⟨dpP R m', dpP_lo (by omega), ?_⟩
        have h3 : dpS (20 + (d : Int)) (R, m') = (dpP R m', m' - 1) := by simp [dpS, e2, e3, e4]
        simp only [List.cons_append, List.nil_append]
        rw [betC, h3, if_neg (by rw [hR]; omega)]
      · intro p E r hr hE _
        refine ⟨[], by simp, ?_⟩
        simp only [List.cons_append, List.nil_append]
        rw [betR, if_neg (by rw [hE]; omega), if_neg e4]
        simp
  · intro H f x a b ha hb hf0 hx0 hf hx G hG
    obtain ⟨f', hf1, hf2, hf3⟩ := hf G hG
    obtain ⟨x', hx1, hx2, hx3⟩ := hx G hG
    refine ⟨12 :: (f' ++ x'), isTm_a ha hb hf1 hx1, ?_, ?_⟩
    · intro R m r hR
      have h3 : dpS 12 (R, m) = (dpP R m, m + 1) := by simp [dpS]
      obtain ⟨R2, k1, k2⟩ := hf2 (dpP R m) (m + 1) (x ++ r) (by rw [dpP_up (by omega)]; exact hR)
      rw [show m + 1 - 1 = m by omega] at k1 k2
      rw [dpP_lo (Int.le_refl _)] at k1
      obtain ⟨R3, k3, k4⟩ := hx2 R2 m r (by rw [k1]; exact hR)
      refine ⟨R3, ?_, ?_⟩
      · rw [k3, ← dpP_lo (R := R2) (m := m) (by omega), k1, dpP_lo (by omega)]
      · simp only [List.cons_append, List.append_assoc]
        rw [betC_11 (by decide), h3, k2, k4]
    · intro p E r hr hE hE2
      have hlf := isTm_len hf0
      have hlx := isTm_len hx0
      simp only [List.length_cons, List.length_append] at hE2
      obtain ⟨E1, k1, k2⟩ := hf3 (p + 1) E (x ++ r) (isTm_hdT hx0 r) (by rw [← hE]; exact cnt_eq (fun e he => by have := hE2 e he; omega)) (fun e he => by have := hE2 e he; omega)
      obtain ⟨E2, k3, k4⟩ := hx3 (p + 1 + f.length) (E1 ++ E) r hr (by rw [cnt_app, cnt_0 k1, ← hE, Nat.zero_add]; exact cnt_eq (fun e he => by have := hE2 e he; omega)) (fun e he => by
        rcases List.mem_append.mp he with he | he
        · exact Or.inl (k1 e he)
        · have := hE2 e he; omega)
      refine ⟨E2 ++ E1, fun e he => ?_, ?_⟩
      · simp only [List.length_cons, List.length_append]
        rcases List.mem_append.mp he with he | he
        · have := k3 e he; omega
        · have := k1 e he; omega
      · simp only [List.cons_append, List.append_assoc]
        rw [betR_11 (by decide), if_neg (by decide), k2, k4]
        simp only [List.length_cons, List.length_append, List.append_assoc]
        congr 4
        omega
  · intro H a t b ha hb ht0 ht G hG
    obtain ⟨t', ht1, ht2, ht3⟩ := ht (a :: G) (by rw [hG]; rfl)
    refine ⟨13 :: (a ++ t'), isTm_l ha hb ht1, ?_, ?_⟩
    · intro R m r hR
      have h3 : dpS 13 (R, m) = ((m - 1) :: dpP R m, m) := by simp [dpS]
      have h5 : dpP ((m - 1) :: dpP R m) m = (m - 1) :: dpP R m := by
        have : ¬ m ≤ m - 1 := by omega
        simp [dpP, List.dropWhile_cons, this]
      obtain ⟨R2, k1, k2⟩ := ht2 ((m - 1) :: dpP R m) m r (by rw [h5]; simp [hR])
      refine ⟨R2, ?_, ?_⟩
      · rw [k1]
        have : dpP ((m - 1) :: dpP R m) (m - 1) = dpP (dpP R m) (m - 1) := by simp [dpP, List.dropWhile_cons]
        rw [this, dpP_lo (by omega)]
      · simp only [List.cons_append, List.append_assoc]
        rw [betC_11 (by decide), h3, betC_low (isTy_low ha), k2]
    · intro p E r hr hE hE2
      have hlt := isTm_len ht0
      simp only [List.length_cons, List.length_append] at hE2
      have hz := szT_tm (isTm_l ha hb ht0) hr
      obtain ⟨E1, k1, k2⟩ := ht3 (p + 1 + a.length) ((p + (a.length + t.length + 1)) :: E) r hr (by
          have e0 : cnt ((p + (a.length + t.length + 1)) :: E) (p + 1 + a.length) = 1 + cnt E (p + 1 + a.length) := by
            have : p + 1 + a.length < p + (a.length + t.length + 1) := by omega
            simp [cnt, this]; omega
          rw [e0, cnt_eq (E := E) (p := p + 1 + a.length) (p' := p) (fun e he => by have := hE2 e he; omega), hE]
          simp; omega) (fun e he => by
        rcases List.mem_cons.mp he with he | he
        · subst he; right; omega
        · have := hE2 e he; omega)
      refine ⟨E1 ++ [p + (a.length + t.length + 1)], fun e he => ?_, ?_⟩
      · simp only [List.length_cons, List.length_append]
        rcases List.mem_append.mp he with he | he
        · have := k1 e he; omega
        · simp at he; omega
      · simp only [List.cons_append, List.append_assoc] at hz ⊢
        rw [betR_11 (by decide), if_pos rfl, hz, betR_low (isTy_low ha)]
        simp only [List.length_cons, List.length_append, List.nil_append, List.singleton_append, List.cons_append] at k2 ⊢
        rw [k2]
        congr 4
        omega
theorem bet_ok (hu : isTm [] u c) (h : isTm [c] t b) : isTm [] (betC u t ([], 1)) b ∧ betR u t 0 [] = betC u t ([], 1) := by
  obtain ⟨t', h1, h2, h3⟩ := bet_tm hu h [] rfl
  obtain ⟨R', -, e1⟩ := h2 [] 1 [] (by rfl)
  obtain ⟨E', -, e2⟩ := h3 0 [] [] (Or.inl rfl) (by rfl) (by simp)
  simp [betC, betR] at e1 e2
  rw [e1, e2]
  exact ⟨h1, rfl⟩
end BE
/-! a type variable replaced by a type -/
def tsb (k : Int) (T : List Int) (l : List Int) : List Int := l.flatMap (fun s => if s = 2 + k then T else [s])
def rtC (k : Int) (T : List Int) : List Int → Int → List Int
  | [], _ => []
  | s :: l, p => if (s < 10 ∧ p ≠ 10 ∧ p ≠ 11) ∧ s = 2 + k then T ++ rtC k T l s else s :: rtC k T l s
section RT
variable {k : Int} {T : List Int} {G : List (List Int)} {t b : List Int}
theorem tsb_app (a b : List Int) : tsb k T (a ++ b) = tsb k T a ++ tsb k T b := by
  unfold tsb
  simp
theorem tsb_0 (hk : 0 ≤ k) (a : List Int) : tsb k T (0 :: a) = 0 :: tsb k T a := by
  have : ¬ (0 : Int) = 2 + k := by omega
  unfold tsb
  simp [this]
theorem tsb_ty (hk : 0 ≤ k) (hT : isTy T) {a : List Int} (ha : isTy a) : isTy (tsb k T a) := by
  refine isTy_ind (P := fun a => isTy (tsb k T a)) ?_ ?_ ?_ ha
  · have : ¬ (1 : Int) = 2 + k := by omega
    simp [tsb, this]
    exact isTy_b
  · intro j h1 h2
    by_cases h : j = 2 + k
    · simp [tsb, h]; exact hT
    · simp [tsb, h]; exact isTy_v h1 h2
  · intro a b _ _ ha hb
    rw [tsb_0 hk, tsb_app]
    exact isTy_f ha hb
theorem rtC_hd {r : List Int} (h : hdT r) (p p' : Int) : rtC k T r p = rtC k T r p' := by
  rcases h with h | ⟨s, l, h, hs⟩
  · subst h; rfl
  · subst h
    have : ¬ s < 10 := by omega
    simp [rtC, this]
theorem rtC_low {l : List Int} (hl : ∀ s ∈ l, s < 10) {r : List Int} (hr : hdT r) : ∀ p, p ≠ 10 → p ≠ 11 → ∀ p', rtC k T (l ++ r) p = tsb k T l ++ rtC k T r p' := by
  induction l with
  | nil => intro p _ _ p'; simp [tsb]; exact rtC_hd hr p p'
  | cons s l ih =>
    intro p h10 h11 p'
    have h0 := hl s List.mem_cons_self
    have i1 := ih (fun z hz => hl z (List.mem_cons_of_mem _ hz)) s (by omega) (by omega) p'
    by_cases he : s = 2 + k
    · rw [List.cons_append, rtC, if_pos ⟨⟨h0, h10, h11⟩, he⟩, i1]
      simp [tsb, he]
    · rw [List.cons_append, rtC, if_neg (fun q => he q.2), i1]
      simp [tsb, he]
theorem rtC_up {s : Int} (hs : ¬ s < 10) (l : List Int) (p : Int) : rtC k T (s :: l) p = s :: rtC k T l s := by
  rw [rtC, if_neg (fun q => hs q.1.1)]
theorem rtC_nm {s p : Int} (hp : p = 10 ∨ p = 11) (l : List Int) : rtC k T (s :: l) p = s :: rtC k T l s := by
  rw [rtC, if_neg (fun q => by omega)]
theorem rt_tm (hk : 0 ≤ k) (hT : isTy T) (h : isTm G t b) : ∃ t', isTm (G.map (tsb k T)) t' (tsb k T b) ∧ ∀ r, hdT r → ∀ p p', rtC k T (t ++ r) p = t' ++ rtC k T r p' := by
  refine isTm_ind (P := fun G t b => ∃ t', isTm (G.map (tsb k T)) t' (tsb k T b) ∧ ∀ r, hdT r → ∀ p p', rtC k T (t ++ r) p = t' ++ rtC k T r p') ?_ ?_ ?_ ?_ ?_ ?_ h
  · intro G m a h0 h7 ha
    refine ⟨10 :: m :: tsb k T a, isTm_v h0 h7 (tsb_ty hk hT ha), fun r hr p p' => ?_⟩
    simp only [List.cons_append]
    rw [rtC_up (by decide), rtC_nm (Or.inl rfl), rtC_low (isTy_low ha) hr m (by omega) (by omega) p']
  · intro G m a h0 h7 ha
    refine ⟨11 :: m :: tsb k T a, isTm_c h0 h7 (tsb_ty hk hT ha), fun r hr p p' => ?_⟩
    simp only [List.cons_append]
    rw [rtC_up (by decide), rtC_nm (Or.inr rfl), rtC_low (isTy_low ha) hr m (by omega) (by omega) p']
  · intro G a ha
    have h1 : ¬ (1 : Int) = 2 + k := by omega
    refine ⟨11 :: 0 :: tsb k T a, ?_, fun r hr p p' => ?_⟩
    · have e1 : tsb k T [1] = [1] := by simp [tsb, h1]
      rw [tsb_0 hk, tsb_app, tsb_0 hk, tsb_app, e1]
      exact isTm_e (tsb_ty hk hT ha)
    · simp only [List.cons_append]
      rw [rtC_up (by decide), rtC_nm (Or.inr rfl), rtC_low (isTy_low ha) hr 0 (by omega) (by omega) p']
  · intro G d a hd ha
    refine ⟨[20 + (d : Int)], isTm_b (by rw [List.getElem?_map, hd]; rfl) (tsb_ty hk hT ha), fun r hr p p' => ?_⟩
    simp only [List.cons_append, List.nil_append]
    rw [rtC_up (by omega), rtC_hd hr _ p']
  · intro G f x a b ha hb _ hx0 hf hx
    obtain ⟨f', hf1, hf2⟩ := hf
    obtain ⟨x', hx1, hx2⟩ := hx
    refine ⟨12 :: (f' ++ x'), ?_, fun r hr p p' => ?_⟩
    · rw [tsb_0 hk, tsb_app] at hf1
      exact isTm_a (tsb_ty hk hT ha) (tsb_ty hk hT hb) hf1 hx1
    · simp only [List.cons_append, List.append_assoc]
      rw [rtC_up (by decide), hf2 (x ++ r) (isTm_hdT hx0 r) 12 0, hx2 r hr 0 p']
  · intro G a t b ha hb ht0 ht
    obtain ⟨t', ht1, ht2⟩ := ht
    refine ⟨13 :: (tsb k T a ++ t'), ?_, fun r hr p p' => ?_⟩
    · rw [tsb_0 hk, tsb_app]
      exact isTm_l (tsb_ty hk hT ha) (tsb_ty hk hT hb) ht1
    · simp only [List.cons_append, List.append_assoc]
      rw [rtC_up (by decide), rtC_low (isTy_low ha) (isTm_hdT ht0 r) 13 (by decide) (by decide) 0, ht2 r hr 0 p']
theorem rt_ok (hk : 0 ≤ k) (hT : isTy T) (h : isTm [] t b) (p : Int) : isTm [] (rtC k T t p) (tsb k T b) := by
  obtain ⟨t', h1, h2⟩ := rt_tm hk hT h
  have := h2 [] (Or.inl rfl) p p
  simp [rtC] at this
  rw [this]
  simpa using h1
end RT
end
section
/-! the reference's cells: one object and six arrays, as one function: area (0 mem, 1 len, 2 kinds, 3 hyps, 4 constLen, 5 binder, 6 the numbers) and place -/
abbrev rS : Type := Nat → Nat → Int
abbrev rE : Type := List xC × List xC × Nat
def u3 (q : rS) (a j : Nat) (x : Int) : rS := fun a' j' => if a' = a ∧ j' = j then x else q a' j'
def rN : Nat → Nat
  | 0 => 10000
  | 1 => 120
  | 2 => 30
  | 3 => 30
  | 4 => 7
  | _ => 40
def rA (E : rE) (i : Nat) : Nat := E.1.length + (i + 1)
def rF (E : rE) (q : rS) : List xV := [.inr (some (rA E 0)), .inr (some (rA E 1)), .inr (some (rA E 2)), .inr (some (rA E 3)), .inl (q 6 0), .inl (q 6 1), .inl (q 6 2), .inl (q 6 3), .inl (q 6 4), .inr (some (rA E 4)), .inr (some (rA E 5)), .inl (q 6 5), .inl (q 6 6), .inl (q 6 7), .inl (q 6 8)]
def rL (q : rS) (i : Nat) : List Int := (List.range (rN i)).map (q i)
def rC (E : rE) (q : rS) : List xC := [.inr (.inr (8, rF E q)), .inl (rL q 0), .inl (rL q 1), .inl (rL q 2), .inl (rL q 3), .inl (rL q 4), .inl (rL q 5)]
def rH (E : rE) (q : rS) : xH := (E.1 ++ (rC E q ++ E.2.1), E.2.2)
theorem rL_len (q : rS) (i : Nat) : (rL q i).length = rN i := by simp [rL]
theorem rL_get (q : rS) (i j : Nat) (h : j < rN i) : (rL q i)[j]? = some (q i j) := by simp [rL, h]
theorem rL_set (q : rS) (i j : Nat) (x : Int) : (rL q i).set j x = rL (u3 q i j x) i := by
  apply List.ext_getElem?
  intro k
  by_cases hk : k < rN i
  · rw [rL_get _ _ _ hk, List.getElem?_set, rL_len, rL_get _ _ _ hk]
    by_cases hj : j = k
    · subst hj; simp [hk, u3]
    · have : ¬ k = j := fun e => hj e.symm
      simp [hj, u3, this]
  · rw [List.getElem?_eq_none (by rw [List.length_set, rL_len]; omega), List.getElem?_eq_none (by rw [rL_len]; omega)]
theorem rL_ne (q : rS) {i a : Nat} (j : Nat) (x : Int) (h : ¬ i = a) : rL (u3 q a j x) i = rL q i := by
  unfold rL
  congr 1
  funext k
  simp [u3, h]
theorem rH_o (E : rE) (q : rS) : (rH E q).1[E.1.length]? = some (.inr (.inr (8, rF E q))) := by
  unfold rH
  rw [List.getElem?_append_right (Nat.le_refl _), Nat.sub_self]
  rfl
theorem rC_a (E : rE) (q : rS) (i : Nat) (hi : i < 6) : (rC E q)[i + 1]? = some (.inl (rL q i)) := by
  rcases (show i = 0 ∨ i = 1 ∨ i = 2 ∨ i = 3 ∨ i = 4 ∨ i = 5 by omega) with rfl | rfl | rfl | rfl | rfl | rfl <;> rfl
theorem rH_a (E : rE) (q : rS) (i : Nat) (hi : i < 6) : (rH E q).1[rA E i]? = some (.inl (rL q i)) := by
  unfold rH rA
  rw [List.getElem?_append_right (by omega), show E.1.length + (i + 1) - E.1.length = i + 1 by omega, List.getElem?_append_left (by simp [rC]; omega)]
  exact rC_a E q i hi
theorem rF_ne (E : rE) (q : rS) (a j : Nat) (x : Int) (h : ¬ a = 6) : rF E (u3 q a j x) = rF E q := by
  have h6 : ¬ 6 = a := fun e => h e.symm
  simp [rF, u3, h6]
theorem rH_st (E : rE) (q : rS) (i j : Nat) (x : Int) (hi : i < 6) : ((rH E q).1.set (rA E i) (.inl ((rL q i).set j x)), (rH E q).2) = rH E (u3 q i j x) := by
  unfold rH rA
  rw [rL_set]
  simp only
  rw [List.set_append_right _ _ (by omega), show E.1.length + (i + 1) - E.1.length = i + 1 by omega, List.set_append_left _ _ (by simp [rC]; omega)]
  congr 3
  unfold rC
  rw [rF_ne E q i j x (by omega)]
  rcases (show i = 0 ∨ i = 1 ∨ i = 2 ∨ i = 3 ∨ i = 4 ∨ i = 5 by omega) with rfl | rfl | rfl | rfl | rfl | rfl <;> simp [rL_ne]
def rK : Nat → Nat
  | 0 => 4
  | 1 => 5
  | 2 => 6
  | 3 => 7
  | 4 => 8
  | 5 => 11
  | 6 => 12
  | 7 => 13
  | _ => 14
theorem rF_st (E : rE) (q : rS) (j : Nat) (x : Int) (hj : j < 9) : (rF E q).set (rK j) (.inl x) = rF E (u3 q 6 j x) := by
  rcases (show j = 0 ∨ j = 1 ∨ j = 2 ∨ j = 3 ∨ j = 4 ∨ j = 5 ∨ j = 6 ∨ j = 7 ∨ j = 8 by omega) with rfl | rfl | rfl | rfl | rfl | rfl | rfl | rfl | rfl <;> simp [rF, rK, u3]
theorem rH_so (E : rE) (q : rS) (j : Nat) (x : Int) (hj : j < 9) : ((rH E q).1.set E.1.length (.inr (.inr (8, (rF E q).set (rK j) (.inl x)))), (rH E q).2) = rH E (u3 q 6 j x) := by
  unfold rH
  rw [rF_st E q j x hj]
  simp only
  rw [List.set_append_right _ _ (Nat.le_refl _), Nat.sub_self]
  congr 2
section RS
variable {M : xM} {pc : Nat} {L : List (Option xV)} {st : List xV} {E : rE} {q : rS}
theorem rg {idx k : Nat} {v : xV} (hd : decode M.2.1 pc = .ok (.getfield idx, 3)) (hfl : x_fl M.1.cls idx 8 k) (hv : (rF E q)[k]? = some v) : x_S M pc L (.inr (some E.1.length) :: st) (rH E q) (pc + 3) L (v :: st) (rH E q) :=
  xs_getf hd hfl (rH_o E q) hv
theorem rp {idx : Nat} {x : Int} {ty : FieldType} (j : Nat) (hj : j < 9) (hd : decode M.2.1 pc = .ok (.putfield idx, 3)) (hp : x_pl M.1.cls M.1.name idx 8 (rK j) ty) (hf : x_ft ty (.inl x)) : x_S M pc L (.inl x :: .inr (some E.1.length) :: st) (rH E q) (pc + 3) L st (rH E (u3 q 6 j x)) := by
  have h := xs_putf (L := L) (st := st) hd hp (rH_o E q) (by rcases (show j = 0 ∨ j = 1 ∨ j = 2 ∨ j = 3 ∨ j = 4 ∨ j = 5 ∨ j = 6 ∨ j = 7 ∨ j = 8 by omega) with rfl | rfl | rfl | rfl | rfl | rfl | rfl | rfl | rfl <;> simp [rF, rK]) hf
  rw [rH_so E q j x hj] at h
  exact h
theorem rN_lt (i : Nat) : rN i < 2147483648 := by
  unfold rN
  split <;> omega
theorem rl {j : Int} (i : Nat) (hi : i < 6) (hd : decode M.2.1 pc = .ok (.iaload, 1)) (h0 : 0 ≤ j) (h1 : j < (rN i : Int)) : x_S M pc L (.inl j :: .inr (some (rA E i)) :: st) (rH E q) (pc + 1) L (.inl (q i j.toNat) :: st) (rH E q) :=
  xs_iald hd (rH_a E q i hi) h0 (rL_get q i j.toNat (by omega)) (by rw [rL_len]; exact rN_lt i)
theorem rt {j x : Int} (i : Nat) (hi : i < 6) (hd : decode M.2.1 pc = .ok (.iastore, 1)) (h0 : 0 ≤ j) (h1 : j < (rN i : Int)) : x_S M pc L (.inl x :: .inl j :: .inr (some (rA E i)) :: st) (rH E q) (pc + 1) L st (rH E (u3 q i j.toNat x)) := by
  have h := xs_iast (L := L) (st := st) (x := x) hd (rH_a E q i hi) h0 (by rw [rL_len]; omega) (by rw [rL_len]; exact rN_lt i)
  rw [rH_st E q i j.toNat x hi] at h
  exact h
theorem rlv {j : Int} (i : Nat) (x : Int) (hi : i < 6) (hd : decode M.2.1 pc = .ok (.iaload, 1)) (h0 : 0 ≤ j) (h1 : j < (rN i : Int)) (hx : q i j.toNat = x) : x_S M pc L (.inl j :: .inr (some (rA E i)) :: st) (rH E q) (pc + 1) L (.inl x :: st) (rH E q) := by
  subst hx
  exact rl i hi hd h0 h1
theorem rtn {j x : Int} (i k : Nat) (hi : i < 6) (hd : decode M.2.1 pc = .ok (.iastore, 1)) (h0 : 0 ≤ j) (h1 : j < (rN i : Int)) (hk : j.toNat = k) : x_S M pc L (.inl x :: .inl j :: .inr (some (rA E i)) :: st) (rH E q) (pc + 1) L st (rH E (u3 q i k x)) := by
  subst hk
  exact rt i hi hd h0 h1
end RS
theorem nl {a b : Nat} (h : Nat.ble a b = true) : a ≤ b := Nat.le_of_ble_eq_true h
theorem nr {M M' : xM} (h1 : Nat.ble (M'.2.2.2.2.1 + 1) M.2.2.2.2.1 = true) (h2 : Nat.ble (8 + (M'.2.2.1 + 11) + M'.2.2.2.2.2) M.2.2.2.2.2 = true) : x_rr M M' := ⟨nl h1, nl h2⟩
/-- a contract of the reference: from q, whatever stands beside its cells -/
def rM (M : xM) (as : List xV) (q : rS) (Q : Option xV → rS → Prop) : Prop := ∀ E : rE, x_Mx M (.inr (some E.1.length) :: as) (rH E q) (fun r h => ∃ q', h = rH E q' ∧ Q r q')
def rX (E : rE) (M : xM) (pc : Nat) (L : List (Option xV)) (st : List xV) (q : rS) (Q : Option xV → rS → Prop) : Prop := x_X M pc L st (rH E q) (fun r h => ∃ q', h = rH E q' ∧ Q r q')
section RC
variable {M : xM} {pc : Nat} {L : List (Option xV)} {st : List xV} {E : rE} {q : rS} {Q : Option xV → rS → Prop}
theorem rx {pc' : Nat} {L' : List (Option xV)} {st' : List xV} {q' : rS} (hs : x_S M pc L st (rH E q) pc' L' st' (rH E q')) (hx : rX E M pc' L' st' q' Q) : rX E M pc L st q Q := xx hs hx
theorem rcV {M' : xM} {idx n : Nat} {as rest : List xV} {Q' : Option xV → rS → Prop} (hd : decode M.2.1 pc = .ok (.invokevirtual idx, 3)) (hcd : x_cd M' n) (hml : x_ml M.1.cls idx M'.1) (hin : Cond.instanceMethod M'.1 ∈ x_ws ∧ Cond.selects M'.1.cls M'.1 M'.1 ∈ x_ws) (hrr : x_rr M M') (hC : M'.1.cls = "SequentMachineModel") (hn : as.length = n) (hst : st = as.reverse ++ .inr (some E.1.length) :: rest) (hrest : rest.length ≤ 8) (hM : rM M' as q Q') (kk : ∀ r q', Q' r q' → rX E M (pc + 3) L (r.toList ++ rest) q' Q) : rX E M pc L st q Q := by
  obtain ⟨r, hf, hm, q', e, hq⟩ := hM E
  subst e
  exact xx (xs_callV hd hcd hml hin hrr hn hst (rH_o E q) (by rw [hC]; rfl) hrest hm) (kk r q' hq)
theorem rcS {M' : xM} {idx n : Nat} {as rest : List xV} {r : Option xV} (hd : decode M.2.1 pc = .ok (.invokestatic idx, 3)) (hcd : x_cd M' n) (hml : x_ml M.1.cls idx M'.1) (hin : Cond.static M'.1 ∈ x_ws) (hrr : x_rr M M') (hn : as.length = n) (hst : st = as.reverse ++ rest) (hrest : rest.length ≤ 8) (hM : ∀ h, x_M M' as h r h) (kk : rX E M (pc + 3) L (r.toList ++ rest) q Q) : rX E M pc L st q Q :=
  xx (xs_callS hd hcd hml hin hrr hn hst hrest (hM _)) kk
theorem rri {x : Int} (hd : decode M.2.1 pc = .ok (.ireturn, 1)) (hr : M.2.2.2.1 = some .int) (hq : Q (some (.inl x)) q) : rX E M pc L [.inl x] q Q := ⟨_, _, xb_i hd hr, q, rfl, hq⟩
theorem rrz {x : Int} (hd : decode M.2.1 pc = .ok (.ireturn, 1)) (hr : M.2.2.2.1 = some .boolean) (hx : x = 0 ∨ x = 1) (hq : Q (some (.inl x)) q) : rX E M pc L [.inl x] q Q := ⟨_, _, xb_z hd hr hx, q, rfl, hq⟩
theorem rrv (hd : decode M.2.1 pc = .ok (.return_, 1)) (hr : M.2.2.2.1 = none) (hq : Q none q) : rX E M pc L [] q Q := ⟨_, _, xb_v hd hr, q, rfl, hq⟩
end RC
theorem rm {M : xM} {as : List xV} {q : rS} {Q : Option xV → rS → Prop} (hpl : plainName M.1.cls = true) (hn : as.length + 1 ≤ M.2.2.1) (hb : ∀ E : rE, rX E M 0 (x_en M (.inr (some E.1.length) :: as)) [] q Q) : rM M as q Q := fun E => xmx hpl (by simpa using hn) (hb E)
end
section
/-! the reference's small methods -/
def em (q : rS) (x : Int) : rS := u3 (u3 q 0 (q 6 5).toNat x) 6 5 (q 6 5 + 1)
def emL (q : rS) (l : List Int) : rS := l.foldl em q
def sg (q : rS) (p : Nat) (l : List Int) : Prop := ∀ (i : Nat) (x : Int), l[i]? = some x → q 0 (p + i) = x
theorem sg_nil {q : rS} {p : Nat} : sg q p [] := fun i x h => by simp at h
theorem sg_hd {q : rS} {p : Nat} {x : Int} {l : List Int} (h : sg q p (x :: l)) : q 0 p = x := h 0 x rfl
theorem sg_tl {q : rS} {p : Nat} {x : Int} {l : List Int} (h : sg q p (x :: l)) : sg q (p + 1) l := fun i y hy => by
  have := h (i + 1) y (by simpa using hy)
  rw [← this]
  congr 1
  omega
theorem sg_cons {q : rS} {p : Nat} {x : Int} {l : List Int} (h : q 0 p = x) (h' : sg q (p + 1) l) : sg q p (x :: l) := fun i y hy => by
  cases i with
  | zero => simp at hy; subst hy; exact h
  | succ i =>
    simp at hy
    have := h' i y hy
    rw [← this]
    congr 1
    omega
theorem sg_app {q : rS} {p : Nat} {a b : List Int} : sg q p (a ++ b) ↔ sg q p a ∧ sg q (p + a.length) b := by
  constructor
  · intro h
    refine ⟨fun i x hx => h i x ?_, fun i x hx => ?_⟩
    · rw [List.getElem?_append_left (List.getElem?_eq_some_iff.mp hx).1]; exact hx
    · have := h (a.length + i) x (by rw [List.getElem?_append_right (by omega)]; rw [show a.length + i - a.length = i by omega]; exact hx)
      rw [← this]
      congr 1
      omega
  · rintro ⟨h1, h2⟩ i x hx
    by_cases hi : i < a.length
    · rw [List.getElem?_append_left hi] at hx
      exact h1 i x hx
    · rw [List.getElem?_append_right (by omega)] at hx
      have := h2 _ x hx
      rw [← this]
      congr 1
      omega
theorem sg_mono {q q' : rS} {p : Nat} {l : List Int} (h : sg q p l) (he : ∀ k, p ≤ k → k < p + l.length → q' 0 k = q 0 k) : sg q' p l := fun i x hx => by
  rw [he (p + i) (by omega) (by have := (List.getElem?_eq_some_iff.mp hx).1; omega)]
  exact h i x hx
theorem em_out (q : rS) (x : Int) : (em q x) 6 5 = q 6 5 + 1 := by simp [em, u3]
theorem em_mem {q : rS} {x : Int} {k : Nat} (h : ¬ k = (q 6 5).toNat) : (em q x) 0 k = q 0 k := by simp [em, u3, h]
theorem em_at (q : rS) (x : Int) : (em q x) 0 (q 6 5).toNat = x := by simp [em, u3]
theorem em_s {q : rS} {x : Int} {j : Nat} (h : ¬ j = 5) : (em q x) 6 j = q 6 j := by simp [em, u3, h]
theorem em_a {q : rS} {x : Int} {a j : Nat} (h : ¬ a = 0) (h6 : ¬ a = 6) : (em q x) a j = q a j := by simp [em, u3, h, h6]
theorem emL_nil (q : rS) : emL q [] = q := rfl
theorem emL_cons (q : rS) (x : Int) (l : List Int) : emL q (x :: l) = emL (em q x) l := rfl
theorem emL_app (q : rS) (a b : List Int) : emL q (a ++ b) = emL (emL q a) b := by simp [emL]
theorem emL_out (q : rS) (l : List Int) : (emL q l) 6 5 = q 6 5 + (l.length : Int) := by
  induction l generalizing q with
  | nil => simp [emL]
  | cons x l ih => rw [emL_cons, ih, em_out]; simp; omega
theorem emL_s {q : rS} {l : List Int} {j : Nat} (h : ¬ j = 5) : (emL q l) 6 j = q 6 j := by
  induction l generalizing q with
  | nil => rfl
  | cons x l ih => rw [emL_cons, ih, em_s h]
theorem emL_a {q : rS} {l : List Int} {a j : Nat} (h : ¬ a = 0) (h6 : ¬ a = 6) : (emL q l) a j = q a j := by
  induction l generalizing q with
  | nil => rfl
  | cons x l ih => rw [emL_cons, ih, em_a h h6]
theorem emL_lo {q : rS} {l : List Int} {k : Nat} (h0 : 0 ≤ q 6 5) (h : (k : Int) < q 6 5) : (emL q l) 0 k = q 0 k := by
  induction l generalizing q with
  | nil => rfl
  | cons x l ih => rw [emL_cons, ih (by rw [em_out]; omega) (by rw [em_out]; omega), em_mem (by omega)]
theorem emL_hi {q : rS} {l : List Int} {k : Nat} (h0 : 0 ≤ q 6 5) (h : q 6 5 + (l.length : Int) ≤ (k : Int)) : (emL q l) 0 k = q 0 k := by
  induction l generalizing q with
  | nil => rfl
  | cons x l ih =>
    simp at h
    rw [emL_cons, ih (by rw [em_out]; omega) (by rw [em_out]; omega), em_mem (by omega)]
theorem emL_sg {q : rS} {l : List Int} {p : Nat} (h0 : 0 ≤ q 6 5) (hp : q 6 5 = (p : Int)) : sg (emL q l) p l := by
  induction l generalizing q p with
  | nil => exact sg_nil
  | cons x l ih =>
    refine sg_cons ?_ ?_
    · rw [emL_cons, emL_lo (by rw [em_out]; omega) (by rw [em_out]; omega)]
      have := em_at q x
      rw [hp] at this
      simpa using this
    · rw [emL_cons]
      exact ih (by rw [em_out]; omega) (by rw [em_out]; omega)
theorem emL_sgo {q : rS} {l s : List Int} {p : Nat} (h0 : 0 ≤ q 6 5) (hs : sg q p s) (hp : (p : Int) + (s.length : Int) ≤ q 6 5) : sg (emL q l) p s := sg_mono hs (fun k _ h2 => emL_lo h0 (by omega))
set_option maxHeartbeats 4000000 in
set_option maxRecDepth 100000 in
theorem re_base (o i : Int) (h : xH) : x_M mm_Re_base [.inl o, .inl i] h (some (.inl (160 * o + 40 * i))) h := by
  refine xm rfl (nl rfl) ?_
  refine (xs_sipush dm_Re_base_0 (by decide)) _ _ ?_
  refine (xs_iload_n dm_Re_base_3 rfl) _ _ ?_
  refine (xs_imul dm_Re_base_4) _ _ ?_
  refine (xs_bipush dm_Re_base_5 (by decide)) _ _ ?_
  refine (xs_iload_n dm_Re_base_7 rfl) _ _ ?_
  refine (xs_imul dm_Re_base_8) _ _ ?_
  refine (xs_iadd dm_Re_base_9) _ _ ?_
  exact xb_i dm_Re_base_10 rfl
set_option maxHeartbeats 4000000 in
set_option maxRecDepth 100000 in
theorem re_emit {q : rS} {x : Int} (h0 : 0 ≤ q 6 5) (h1 : q 6 5 < 10000) : rM mm_Re_emit [.inl x] q (fun r q' => r = none ∧ q' = em q x) := by
  refine rm rfl (nl rfl) (fun E => ?_)
  show rX E _ 0 [some (.inr (some E.1.length)), some (.inl x)] [] _ _
  refine rx (xs_aload_n dm_Re_emit_0 rfl) ?_
  refine rx (rg (v := .inr (some (rA E 0))) dm_Re_emit_1 lf_Re_7 rfl) ?_
  refine rx (xs_aload_n dm_Re_emit_4 rfl) ?_
  refine rx (rg (v := .inl (q 6 5)) dm_Re_emit_5 lf_Re_28 rfl) ?_
  refine rx (xs_iload_n dm_Re_emit_8 rfl) ?_
  refine rx (rt 0 (by decide) dm_Re_emit_9 (by omega) (by show _ < ((10000 : Nat) : Int); omega)) ?_
  refine rx (xs_aload_n dm_Re_emit_10 rfl) ?_
  refine rx (xs_dup dm_Re_emit_11) ?_
  refine rx (rg (v := .inl ((u3 q 0 ((q 6 5)).toNat x) 6 5)) dm_Re_emit_12 lf_Re_28 rfl) ?_
  refine rx (xs_iconst dm_Re_emit_15) ?_
  refine rx (xs_iadd dm_Re_emit_16) ?_
  refine rx (rp 5 (by decide) dm_Re_emit_17 lp_Re_28 (x_ft_i _)) ?_
  exact rrv dm_Re_emit_20 rfl ⟨rfl, rfl⟩
set_option maxHeartbeats 4000000 in
set_option maxRecDepth 100000 in
theorem re_emitRow_l {t : Int} (f : Int) (l : List Int) : ∀ {q : rS} {p : Nat} (E : rE), sg q p l → (p : Int) + (l.length : Int) = t → t ≤ q 6 5 → q 6 5 + (l.length : Int) ≤ 10000 → rX E mm_Re_emitRow 2 [some (.inr (some E.1.length)), some (.inl f), some (.inl t), some (.inl (p : Int))] [] q (fun r q' => r = none ∧ q' = emL q l) := by
  induction l with
  | nil =>
    intro q p E hs ht h1 h2
    simp at ht h2
    refine rx (xs_iload_n dm_Re_emitRow_2 rfl) ?_
    refine rx (xs_iload_n dm_Re_emitRow_3 rfl) ?_
    refine rx (xs_icmp_ge_t (tgt := 23) dm_Re_emitRow_4 rfl (by unfold ir; omega) (by unfold ir; omega) (by omega)) ?_
    exact rrv dm_Re_emitRow_23 rfl ⟨rfl, rfl⟩
  | cons x l ih =>
    intro q p E hs ht h1 h2
    simp only [List.length_cons] at ht h2
    refine rx (xs_iload_n dm_Re_emitRow_2 rfl) ?_
    refine rx (xs_iload_n dm_Re_emitRow_3 rfl) ?_
    refine rx (xs_icmp_ge_f (tgt := 23) dm_Re_emitRow_4 rfl (by unfold ir; omega) (by unfold ir; omega) (by omega)) ?_
    refine rx (xs_aload_n dm_Re_emitRow_7 rfl) ?_
    refine rx (xs_aload_n dm_Re_emitRow_8 rfl) ?_
    refine rx (rg (v := .inr (some (rA E 0))) dm_Re_emitRow_9 lf_Re_7 rfl) ?_
    refine rx (xs_iload_n dm_Re_emitRow_12 rfl) ?_
    refine rx (rlv 0 x (by decide) dm_Re_emitRow_13 (by omega) (by show _ < ((10000 : Nat) : Int); omega) (by rw [Int.toNat_natCast]; exact sg_hd hs)) ?_
    refine rcV (as := [.inl x]) (rest := []) dm_Re_emitRow_14 lc_Re_emit lm_Re_32 li_Re_emit (nr rfl rfl) rfl rfl rfl (nl rfl) (re_emit (x := x) (by omega) (by omega)) ?_
    rintro _ _ ⟨rfl, rfl⟩
    show rX E _ 17 [some (.inr (some E.1.length)), some (.inl f), some (.inl t), some (.inl (p : Int))] [] _ _
    refine rx (xs_iinc dm_Re_emitRow_17 rfl (by decide)) ?_
    show rX E _ 20 [some (.inr (some E.1.length)), some (.inl f), some (.inl t), some (.inl ((p : Int) + 1))] [] _ _
    refine rx (xs_goto (tgt := 2) dm_Re_emitRow_20 rfl) ?_
    have e1 : ((p : Int) + 1) = ((p + 1 : Nat) : Int) := by omega
    rw [e1]
    have k := ih (q := em q x) (p := p + 1) E (sg_mono (sg_tl hs) (fun k h3 h4 => em_mem (by omega))) (by omega) (by rw [em_out]; omega) (by rw [em_out]; omega)
    exact k
set_option maxHeartbeats 4000000 in
set_option maxRecDepth 100000 in
theorem re_emitRow {q : rS} {f t : Int} {p : Nat} {l : List Int} (hs : sg q p l) (hf : f = (p : Int)) (ht : t = (p : Int) + (l.length : Int)) (h1 : t ≤ q 6 5) (h2 : q 6 5 + (l.length : Int) ≤ 10000) : rM mm_Re_emitRow [.inl f, .inl t] q (fun r q' => r = none ∧ q' = emL q l) := by
  refine rm rfl (nl rfl) (fun E => ?_)
  subst hf
  show rX E _ 0 [some (.inr (some E.1.length)), some (.inl (p : Int)), some (.inl t), none] [] _ _
  refine rx (xs_iload_n dm_Re_emitRow_0 rfl) ?_
  refine rx (xs_istore_n dm_Re_emitRow_1 (by decide)) ?_
  show rX E _ 2 [some (.inr (some E.1.length)), some (.inl (p : Int)), some (.inl t), some (.inl (p : Int))] [] _ _
  exact re_emitRow_l _ l E hs ht.symm h1 h2
end
section
theorem rxq {E : rE} {M : xM} {pc : Nat} {L : List (Option xV)} {st : List xV} {q : rS} {Q Q' : Option xV → rS → Prop} (h : rX E M pc L st q Q) (hq : ∀ r q', Q r q' → Q' r q') : rX E M pc L st q Q' := by
  obtain ⟨r, hf, hb, q', e, hh⟩ := h
  exact ⟨r, hf, hb, q', e, hq r q' hh⟩
theorem vi {a b : Int} (h : a = b) : (some (.inl a) : Option xV) = some (.inl b) := by rw [h]
/-! rows: are they the same, where does a type, a term end -/
set_option maxHeartbeats 4000000 in
set_option maxRecDepth 100000 in
theorem re_same0 {q : rS} {pa pe pb be k : Int} (E : rE) (h1 : ir (pe - pa)) (h2 : ir k) : rX E mm_Re_sameRow 20 [some (.inr (some E.1.length)), some (.inl pa), some (.inl pe), some (.inl pb), some (.inl be), some (.inl 0), some (.inl k)] [] q (fun r q' => r = some (.inl 0) ∧ q' = q) := by
  refine rx (xs_iload dm_Re_sameRow_20 rfl) ?_
  refine rx (xs_iload_n dm_Re_sameRow_22 rfl) ?_
  refine rx (xs_iload_n dm_Re_sameRow_23 rfl) ?_
  refine rx (xs_isub dm_Re_sameRow_24) ?_
  refine xx_icmp_ge (tgt := 67) dm_Re_sameRow_25 rfl h2 h1 (fun hc => ?_) (fun hc => ?_)
  · change rX E _ 67 _ _ _ _
    refine rx (xs_iload dm_Re_sameRow_67 rfl) ?_
    exact rrz dm_Re_sameRow_69 rfl (Or.inl rfl) ⟨rfl, rfl⟩
  · change rX E _ 28 _ _ _ _
    refine rx (xs_iload dm_Re_sameRow_28 rfl) ?_
    refine rx (xs_if_eq_t (tgt := 67) dm_Re_sameRow_30 rfl (by unfold ir; omega) rfl) ?_
    refine rx (xs_iload dm_Re_sameRow_67 rfl) ?_
    exact rrz dm_Re_sameRow_69 rfl (Or.inl rfl) ⟨rfl, rfl⟩
set_option maxHeartbeats 4000000 in
set_option maxRecDepth 100000 in
theorem re_same1 {q : rS} {p p2 : Nat} {pe be : Int} (E : rE) (hb : pe < 100000) (hb2 : p2 < 100000) (a : List Int) : ∀ (b : List Int) (k : Nat) (kk : Int), kk = k → a.length = b.length → sg q (p + k) a → sg q (p2 + k) b → (p : Int) + k + a.length = pe → p2 + k + b.length ≤ 10000 → p + k + a.length ≤ 10000 → (∀ x ∈ a, ir x) → (∀ x ∈ b, ir x) → rX E mm_Re_sameRow 20 [some (.inr (some E.1.length)), some (.inl (p : Int)), some (.inl pe), some (.inl (p2 : Int)), some (.inl be), some (.inl 1), some (.inl kk)] [] q (fun r q' => r = some (.inl (if a = b then 1 else 0)) ∧ q' = q) := by
  induction a with
  | nil =>
    intro b k kk hkk hl ha hbb he h5 h6 hia hib
    have hb0 : b = [] := List.length_eq_zero_iff.mp hl.symm
    subst hb0
    simp at he
    refine rx (xs_iload dm_Re_sameRow_20 rfl) ?_
    refine rx (xs_iload_n dm_Re_sameRow_22 rfl) ?_
    refine rx (xs_iload_n dm_Re_sameRow_23 rfl) ?_
    refine rx (xs_isub dm_Re_sameRow_24) ?_
    refine rx (xs_icmp_ge_t (tgt := 67) dm_Re_sameRow_25 rfl (by unfold ir; omega) (by unfold ir; omega) (by omega)) ?_
    refine rx (xs_iload dm_Re_sameRow_67 rfl) ?_
    exact rrz dm_Re_sameRow_69 rfl (Or.inr rfl) ⟨rfl, rfl⟩
  | cons x a ih =>
    intro b k kk hkk hl ha hbb he h5 h6 hia hib
    cases b with
    | nil => simp at hl
    | cons x2 b =>
    simp only [List.length_cons] at hl he h5 h6
    have i1 : ir x := hia x List.mem_cons_self
    have i2 : ir x2 := hib x2 List.mem_cons_self
    refine rx (xs_iload dm_Re_sameRow_20 rfl) ?_
    refine rx (xs_iload_n dm_Re_sameRow_22 rfl) ?_
    refine rx (xs_iload_n dm_Re_sameRow_23 rfl) ?_
    refine rx (xs_isub dm_Re_sameRow_24) ?_
    refine rx (xs_icmp_ge_f (tgt := 67) dm_Re_sameRow_25 rfl (by unfold ir; omega) (by unfold ir; omega) (by omega)) ?_
    refine rx (xs_iload dm_Re_sameRow_28 rfl) ?_
    refine rx (xs_if_eq_f (tgt := 67) dm_Re_sameRow_30 rfl (by unfold ir; omega) (by decide)) ?_
    refine rx (xs_aload_n dm_Re_sameRow_33 rfl) ?_
    refine rx (rg (v := .inr (some (rA E 0))) dm_Re_sameRow_34 lf_Re_7 rfl) ?_
    refine rx (xs_iload_n dm_Re_sameRow_37 rfl) ?_
    refine rx (xs_iload dm_Re_sameRow_38 rfl) ?_
    refine rx (xs_iadd dm_Re_sameRow_40) ?_
    refine rx (rlv 0 x (by decide) dm_Re_sameRow_41 (by omega) (by show _ < ((10000 : Nat) : Int); omega) (by rw [show ((p : Int) + kk).toNat = p + k by omega]; exact sg_hd ha)) ?_
    refine rx (xs_aload_n dm_Re_sameRow_42 rfl) ?_
    refine rx (rg (v := .inr (some (rA E 0))) dm_Re_sameRow_43 lf_Re_7 rfl) ?_
    refine rx (xs_iload_n dm_Re_sameRow_46 rfl) ?_
    refine rx (xs_iload dm_Re_sameRow_47 rfl) ?_
    refine rx (xs_iadd dm_Re_sameRow_49) ?_
    refine rx (rlv 0 x2 (by decide) dm_Re_sameRow_50 (by omega) (by show _ < ((10000 : Nat) : Int); omega) (by rw [show ((p2 : Int) + kk).toNat = p2 + k by omega]; exact sg_hd hbb)) ?_
    refine xx_icmp_ne (tgt := 58) dm_Re_sameRow_51 rfl i1 i2 (fun hc => ?_) (fun hc => ?_)
    · change rX E _ 58 _ _ _ _
      refine rx (xs_iconst dm_Re_sameRow_58) ?_
      refine rx (xs_istore dm_Re_sameRow_59 (by decide)) ?_
      show rX E _ 61 [some (.inr (some E.1.length)), some (.inl (p : Int)), some (.inl pe), some (.inl (p2 : Int)), some (.inl be), some (.inl 0), some (.inl kk)] [] _ _
      refine rx (xs_iinc dm_Re_sameRow_61 rfl (by decide)) ?_
      show rX E _ 64 [some (.inr (some E.1.length)), some (.inl (p : Int)), some (.inl pe), some (.inl (p2 : Int)), some (.inl be), some (.inl 0), some (.inl (kk + 1))] [] _ _
      refine rx (xs_goto (tgt := 20) dm_Re_sameRow_64 rfl) ?_
      have hn : ¬ (x :: a = x2 :: b) := fun e => hc (by simp at e; exact e.1)
      rw [if_neg hn]
      exact re_same0 E (by unfold ir; omega) (by unfold ir; omega)
    · change rX E _ 54 _ _ _ _
      refine rx (xs_iconst dm_Re_sameRow_54) ?_
      refine rx (xs_goto (tgt := 59) dm_Re_sameRow_55 rfl) ?_
      refine rx (xs_istore dm_Re_sameRow_59 (by decide)) ?_
      show rX E _ 61 [some (.inr (some E.1.length)), some (.inl (p : Int)), some (.inl pe), some (.inl (p2 : Int)), some (.inl be), some (.inl 1), some (.inl kk)] [] _ _
      refine rx (xs_iinc dm_Re_sameRow_61 rfl (by decide)) ?_
      show rX E _ 64 [some (.inr (some E.1.length)), some (.inl (p : Int)), some (.inl pe), some (.inl (p2 : Int)), some (.inl be), some (.inl 1), some (.inl (kk + 1))] [] _ _
      refine rx (xs_goto (tgt := 20) dm_Re_sameRow_64 rfl) ?_
      subst hc
      refine rxq (ih b (k + 1) _ (by omega) (by omega) (sg_tl ha) (sg_tl hbb) (by omega) (by omega) (by omega) (fun z hz => hia z (List.mem_cons_of_mem _ hz)) (fun z hz => hib z (List.mem_cons_of_mem _ hz))) ?_
      rintro _ _ ⟨rfl, rfl⟩
      exact ⟨by simp, rfl⟩
set_option maxHeartbeats 4000000 in
set_option maxRecDepth 100000 in
theorem re_sameRow {q : rS} {p p2 : Nat} {fa pe fb be : Int} {a b : List Int} (ha : sg q p a) (hb : sg q p2 b) (h1 : fa = p) (h2 : pe = (p : Int) + a.length) (h3 : fb = p2) (h4 : be = (p2 : Int) + b.length) (h5 : p + a.length ≤ 10000) (h6 : p2 + b.length ≤ 10000) (hia : ∀ x ∈ a, ir x) (hib : ∀ x ∈ b, ir x) : rM mm_Re_sameRow [.inl fa, .inl pe, .inl fb, .inl be] q (fun r q' => r = some (.inl (if a = b then 1 else 0)) ∧ q' = q) := by
  refine rm rfl (nl rfl) (fun E => ?_)
  subst h1
  subst h3
  show rX E _ 0 [some (.inr (some E.1.length)), some (.inl (p : Int)), some (.inl pe), some (.inl (p2 : Int)), some (.inl be), none, none] [] _ _
  refine rx (xs_iload_n dm_Re_sameRow_0 rfl) ?_
  refine rx (xs_iload_n dm_Re_sameRow_1 rfl) ?_
  refine rx (xs_isub dm_Re_sameRow_2) ?_
  refine rx (xs_iload dm_Re_sameRow_3 rfl) ?_
  refine rx (xs_iload_n dm_Re_sameRow_5 rfl) ?_
  refine rx (xs_isub dm_Re_sameRow_6) ?_
  refine xx_icmp_ne (tgt := 14) dm_Re_sameRow_7 rfl (by unfold ir; omega) (by unfold ir; omega) (fun hc => ?_) (fun hc => ?_)
  · change rX E _ 14 _ _ _ _
    refine rx (xs_iconst dm_Re_sameRow_14) ?_
    refine rx (xs_istore dm_Re_sameRow_15 (by decide)) ?_
    show rX E _ 17 [some (.inr (some E.1.length)), some (.inl (p : Int)), some (.inl pe), some (.inl (p2 : Int)), some (.inl be), some (.inl 0), none] [] _ _
    refine rx (xs_iconst dm_Re_sameRow_17) ?_
    refine rx (xs_istore dm_Re_sameRow_18 (by decide)) ?_
    show rX E _ 20 [some (.inr (some E.1.length)), some (.inl (p : Int)), some (.inl pe), some (.inl (p2 : Int)), some (.inl be), some (.inl 0), some (.inl 0)] [] _ _
    have hn : ¬ a = b := fun e => hc (by subst e; omega)
    rw [if_neg hn]
    exact re_same0 E (by unfold ir; omega) (by unfold ir; omega)
  · change rX E _ 10 _ _ _ _
    refine rx (xs_iconst dm_Re_sameRow_10) ?_
    refine rx (xs_goto (tgt := 15) dm_Re_sameRow_11 rfl) ?_
    refine rx (xs_istore dm_Re_sameRow_15 (by decide)) ?_
    show rX E _ 17 [some (.inr (some E.1.length)), some (.inl (p : Int)), some (.inl pe), some (.inl (p2 : Int)), some (.inl be), some (.inl 1), none] [] _ _
    refine rx (xs_iconst dm_Re_sameRow_17) ?_
    refine rx (xs_istore dm_Re_sameRow_18 (by decide)) ?_
    show rX E _ 20 [some (.inr (some E.1.length)), some (.inl (p : Int)), some (.inl pe), some (.inl (p2 : Int)), some (.inl be), some (.inl 1), some (.inl 0)] [] _ _
    exact re_same1 E (by omega) (by omega) a b 0 _ rfl (by omega) ha hb (by omega) (by omega) (by omega) hia hib
set_option maxHeartbeats 4000000 in
set_option maxRecDepth 100000 in
theorem re_skipType_l {q : rS} {p0 : Int} (E : rE) (l : List Int) : ∀ (n k : Nat) (nn kk : Int), nn = n → kk = k → sg q k l → tyS l n = some [] → k + l.length ≤ 10000 → n + l.length ≤ 100000 → (∀ s ∈ l, ir s) → rX E mm_Re_skipType 4 [some (.inr (some E.1.length)), some (.inl p0), some (.inl nn), some (.inl kk)] [] q (fun r q' => r = some (.inl ((k : Int) + (l.length : Int))) ∧ q' = q) := by
  induction l with
  | nil =>
    intro n k nn kk hnn hkk hs ht h1 h2 hi
    have hn : n = 0 := by
      by_cases h : n = 0
      · exact h
      · simp [tyS, h] at ht
    refine rx (xs_iload_n dm_Re_skipType_4 rfl) ?_
    refine rx (xs_if_le_t (tgt := 31) dm_Re_skipType_5 rfl (by unfold ir; omega) (by omega)) ?_
    refine rx (xs_iload_n dm_Re_skipType_31 rfl) ?_
    exact rri dm_Re_skipType_32 rfl ⟨vi (by simp; omega), rfl⟩
  | cons s l ih =>
    intro n k nn kk hnn hkk hs ht h1 h2 hi
    simp only [List.length_cons] at h1 h2
    have i1 : ir s := hi s List.mem_cons_self
    have hn : ¬ n = 0 := fun e => by subst e; simp [tyS] at ht
    refine rx (xs_iload_n dm_Re_skipType_4 rfl) ?_
    refine rx (xs_if_le_f (tgt := 31) dm_Re_skipType_5 rfl (by unfold ir; omega) (by omega)) ?_
    refine rx (xs_iload_n dm_Re_skipType_8 rfl) ?_
    refine rx (xs_aload_n dm_Re_skipType_9 rfl) ?_
    refine rx (rg (v := .inr (some (rA E 0))) dm_Re_skipType_10 lf_Re_7 rfl) ?_
    refine rx (xs_iload_n dm_Re_skipType_13 rfl) ?_
    refine rx (rlv 0 s (by decide) dm_Re_skipType_14 (by omega) (by show _ < ((10000 : Nat) : Int); omega) (by rw [hkk, Int.toNat_natCast]; exact sg_hd hs)) ?_
    refine xx_if_ne (tgt := 22) dm_Re_skipType_15 rfl i1 (fun hc => ?_) (fun hc => ?_)
    · change rX E _ 22 _ _ _ _
      refine rx (xs_iconst dm_Re_skipType_22) ?_
      refine rx (xs_iadd dm_Re_skipType_23) ?_
      refine rx (xs_istore_n dm_Re_skipType_24 (by decide)) ?_
      show rX E _ 25 [some (.inr (some E.1.length)), some (.inl p0), some (.inl (nn + (-1))), some (.inl kk)] [] _ _
      refine rx (xs_iinc dm_Re_skipType_25 rfl (by decide)) ?_
      show rX E _ 28 [some (.inr (some E.1.length)), some (.inl p0), some (.inl (nn + (-1))), some (.inl (kk + 1))] [] _ _
      refine rx (xs_goto (tgt := 4) dm_Re_skipType_28 rfl) ?_
      have ht2 : tyS l (n - 1) = some [] := by simpa [tyS, hn, hc] using ht
      refine rxq (ih (n - 1) (k + 1) _ _ (by omega) (by omega) (sg_tl hs) ht2 (by omega) (by omega) (fun z hz => hi z (List.mem_cons_of_mem _ hz))) ?_
      rintro _ _ ⟨rfl, rfl⟩
      exact ⟨by simp; omega, rfl⟩
    · change rX E _ 18 _ _ _ _
      refine rx (xs_iconst dm_Re_skipType_18) ?_
      refine rx (xs_goto (tgt := 23) dm_Re_skipType_19 rfl) ?_
      refine rx (xs_iadd dm_Re_skipType_23) ?_
      refine rx (xs_istore_n dm_Re_skipType_24 (by decide)) ?_
      show rX E _ 25 [some (.inr (some E.1.length)), some (.inl p0), some (.inl (nn + 1)), some (.inl kk)] [] _ _
      refine rx (xs_iinc dm_Re_skipType_25 rfl (by decide)) ?_
      show rX E _ 28 [some (.inr (some E.1.length)), some (.inl p0), some (.inl (nn + 1)), some (.inl (kk + 1))] [] _ _
      refine rx (xs_goto (tgt := 4) dm_Re_skipType_28 rfl) ?_
      have ht2 : tyS l (n + 1) = some [] := by simpa [tyS, hn, hc] using ht
      refine rxq (ih (n + 1) (k + 1) _ _ (by omega) (by omega) (sg_tl hs) ht2 (by omega) (by omega) (fun z hz => hi z (List.mem_cons_of_mem _ hz))) ?_
      rintro _ _ ⟨rfl, rfl⟩
      exact ⟨by simp; omega, rfl⟩
theorem isTy_ir {l : List Int} (h : isTy l) : ∀ s ∈ l, ir s := fun s hs => by have := isTy_sym h s hs; unfold ir; omega
set_option maxHeartbeats 4000000 in
set_option maxRecDepth 100000 in
theorem re_skipType {q : rS} {f : Int} {p : Nat} {a : List Int} (hs : sg q p a) (ha : isTy a) (hf : f = p) (h1 : p + a.length ≤ 10000) : rM mm_Re_skipType [.inl f] q (fun r q' => r = some (.inl ((p : Int) + (a.length : Int))) ∧ q' = q) := by
  refine rm rfl (nl rfl) (fun E => ?_)
  subst hf
  show rX E _ 0 [some (.inr (some E.1.length)), some (.inl (p : Int)), none, none] [] _ _
  refine rx (xs_iconst dm_Re_skipType_0) ?_
  refine rx (xs_istore_n dm_Re_skipType_1 (by decide)) ?_
  show rX E _ 2 [some (.inr (some E.1.length)), some (.inl (p : Int)), some (.inl 1), none] [] _ _
  refine rx (xs_iload_n dm_Re_skipType_2 rfl) ?_
  refine rx (xs_istore_n dm_Re_skipType_3 (by decide)) ?_
  show rX E _ 4 [some (.inr (some E.1.length)), some (.inl (p : Int)), some (.inl 1), some (.inl (p : Int))] [] _ _
  exact re_skipType_l E a 1 p _ _ rfl rfl hs (by have := tyS_ty ha [] 0; simpa [tyS] using this) h1 (by omega) (isTy_ir ha)
/-- so many terms, one behind the other -/
def tms : Nat → List Int → Prop
  | 0, l => l = []
  | n + 1, l => ∃ (G : List (List Int)) (t a r : List Int), isTm G t a ∧ l = t ++ r ∧ tms n r
set_option maxHeartbeats 4000000 in
set_option maxRecDepth 100000 in
theorem re_skipTerm_l {q : rS} {p0 : Int} (E : rE) : ∀ (N : Nat) (l : List Int) (n k : Nat) (nn kk : Int) (o : Option xV), nn = n → kk = k → l.length < N → sg q k l → tms n l → k + l.length ≤ 10000 → n + l.length ≤ 100000 → (∀ s ∈ l, ir s) → rX E mm_Re_skipTerm 4 [some (.inr (some E.1.length)), some (.inl p0), some (.inl nn), some (.inl kk), o] [] q (fun r q' => r = some (.inl ((k : Int) + (l.length : Int))) ∧ q' = q) := by
  intro N
  induction N with
  | zero => intro l n k nn kk o _ _ hN; omega
  | succ N ih =>
    intro l n k nn kk o hnn hkk hN hs ht h1 h2 hi
    cases n with
    | zero =>
      have hl : l = [] := ht
      subst hl
      refine rx (xs_iload_n dm_Re_skipTerm_4 rfl) ?_
      refine rx (xs_if_le_t (tgt := 90) dm_Re_skipTerm_5 rfl (by unfold ir; omega) (by omega)) ?_
      refine rx (xs_iload_n dm_Re_skipTerm_90 rfl) ?_
      exact rri dm_Re_skipTerm_91 rfl ⟨vi (by simp; omega), rfl⟩
    | succ n =>
    obtain ⟨G, t, a, r, htm, hl, hr⟩ := ht
    subst hl
    rcases isTm_inv htm with ⟨m, m0, m7, ha, e⟩ | ⟨m, m0, m7, ha, e⟩ | ⟨s, ha, e, -⟩ | ⟨d, hd, ha, e⟩ | ⟨f, x, s, hs1, ha1, hf, hx, e⟩ | ⟨s, u, b, hs1, hb1, hu, e, -⟩
    · subst e
      simp only [List.cons_append, List.append_assoc, List.nil_append, List.length_append, List.length_cons, List.length_nil] at hs hN h1 h2 hi
      refine rx (xs_iload_n dm_Re_skipTerm_4 rfl) ?_
      refine rx (xs_if_le_f (tgt := 90) dm_Re_skipTerm_5 rfl (by unfold ir; omega) (by omega)) ?_
      refine rx (xs_aload_n dm_Re_skipTerm_8 rfl) ?_
      refine rx (rg (v := .inr (some (rA E 0))) dm_Re_skipTerm_9 lf_Re_7 rfl) ?_
      refine rx (xs_iload_n dm_Re_skipTerm_12 rfl) ?_
      refine rx (rlv 0 10 (by decide) dm_Re_skipTerm_13 (by omega) (by show _ < ((10000 : Nat) : Int); omega) (by rw [hkk, Int.toNat_natCast]; exact sg_hd hs)) ?_
      refine rx (xs_istore dm_Re_skipTerm_14 (by decide)) ?_
      show rX E _ 16 [some (.inr (some E.1.length)), some (.inl p0), some (.inl nn), some (.inl kk), some (.inl 10)] [] _ _
      refine rx (xs_iload_n dm_Re_skipTerm_16 rfl) ?_
      refine rx (xs_iload dm_Re_skipTerm_17 rfl) ?_
      refine rx (xs_bipush dm_Re_skipTerm_19 (by decide)) ?_
      refine rx (xs_icmp_ne_t (tgt := 28) dm_Re_skipTerm_21 rfl (by unfold ir; omega) (by unfold ir; omega) (by decide)) ?_
      refine rx (xs_iload dm_Re_skipTerm_28 rfl) ?_
      refine rx (xs_bipush dm_Re_skipTerm_30 (by decide)) ?_
      refine rx (xs_icmp_ne_t (tgt := 39) dm_Re_skipTerm_32 rfl (by unfold ir; omega) (by unfold ir; omega) (by decide)) ?_
      refine rx (xs_iconst dm_Re_skipTerm_39) ?_
      refine rx (xs_iadd dm_Re_skipTerm_40) ?_
      refine rx (xs_istore_n dm_Re_skipTerm_41 (by decide)) ?_
      show rX E _ 42 [some (.inr (some E.1.length)), some (.inl p0), some (.inl (nn + (-1))), some (.inl kk), some (.inl 10)] [] _ _
      refine rx (xs_iload dm_Re_skipTerm_42 rfl) ?_
      refine rx (xs_bipush dm_Re_skipTerm_44 (by decide)) ?_
      refine rx (xs_icmp_ne_t (tgt := 59) dm_Re_skipTerm_46 rfl (by unfold ir; omega) (by unfold ir; omega) (by decide)) ?_
      refine rx (xs_iload dm_Re_skipTerm_59 rfl) ?_
      refine rx (xs_bipush dm_Re_skipTerm_61 (by decide)) ?_
      refine rx (xs_icmp_eq_t (tgt := 73) dm_Re_skipTerm_63 rfl (by unfold ir; omega) (by unfold ir; omega) (by decide)) ?_
      refine rx (xs_aload_n dm_Re_skipTerm_73 rfl) ?_
      refine rx (xs_iload_n dm_Re_skipTerm_74 rfl) ?_
      refine rx (xs_iconst dm_Re_skipTerm_75) ?_
      refine rx (xs_iadd dm_Re_skipTerm_76) ?_
      have hs2 := sg_tl (sg_tl hs)
      rw [sg_app] at hs2
      refine rcV (as := [.inl (kk + 2)]) (rest := []) dm_Re_skipTerm_77 lc_Re_skipType lm_Re_36 li_Re_skipType (nr rfl rfl) rfl rfl rfl (nl rfl) (re_skipType (p := k + 1 + 1) hs2.1 ha (by omega) (by omega)) ?_
      rintro _ q1 ⟨rfl, hq1⟩
      have hq1 := hq1.symm
      subst hq1
      show rX E _ 80 [some (.inr (some E.1.length)), some (.inl p0), some (.inl (nn + (-1))), some (.inl kk), some (.inl 10)] [.inl (((k + 1 + 1 : Nat) : Int) + (a.length : Int))] _ _
      refine rx (xs_goto (tgt := 86) dm_Re_skipTerm_80 rfl) ?_
      refine rx (xs_istore_n dm_Re_skipTerm_86 (by decide)) ?_
      show rX E _ 87 [some (.inr (some E.1.length)), some (.inl p0), some (.inl (nn + (-1))), some (.inl (((k + 1 + 1 : Nat) : Int) + (a.length : Int))), some (.inl 10)] [] _ _
      refine rx (xs_goto (tgt := 4) dm_Re_skipTerm_87 rfl) ?_
      refine rxq (ih r n (k + 1 + 1 + a.length) _ _ _ (by omega) (by omega) (by omega) hs2.2 hr (by omega) (by omega) (fun z hz => hi z (by simp [hz]))) ?_
      rintro _ _ ⟨rfl, rfl⟩
      exact ⟨by simp; omega, rfl⟩
    · subst e
      simp only [List.cons_append, List.append_assoc, List.nil_append, List.length_append, List.length_cons, List.length_nil] at hs hN h1 h2 hi
      refine rx (xs_iload_n dm_Re_skipTerm_4 rfl) ?_
      refine rx (xs_if_le_f (tgt := 90) dm_Re_skipTerm_5 rfl (by unfold ir; omega) (by omega)) ?_
      refine rx (xs_aload_n dm_Re_skipTerm_8 rfl) ?_
      refine rx (rg (v := .inr (some (rA E 0))) dm_Re_skipTerm_9 lf_Re_7 rfl) ?_
      refine rx (xs_iload_n dm_Re_skipTerm_12 rfl) ?_
      refine rx (rlv 0 11 (by decide) dm_Re_skipTerm_13 (by omega) (by show _ < ((10000 : Nat) : Int); omega) (by rw [hkk, Int.toNat_natCast]; exact sg_hd hs)) ?_
      refine rx (xs_istore dm_Re_skipTerm_14 (by decide)) ?_
      show rX E _ 16 [some (.inr (some E.1.length)), some (.inl p0), some (.inl nn), some (.inl kk), some (.inl 11)] [] _ _
      refine rx (xs_iload_n dm_Re_skipTerm_16 rfl) ?_
      refine rx (xs_iload dm_Re_skipTerm_17 rfl) ?_
      refine rx (xs_bipush dm_Re_skipTerm_19 (by decide)) ?_
      refine rx (xs_icmp_ne_t (tgt := 28) dm_Re_skipTerm_21 rfl (by unfold ir; omega) (by unfold ir; omega) (by decide)) ?_
      refine rx (xs_iload dm_Re_skipTerm_28 rfl) ?_
      refine rx (xs_bipush dm_Re_skipTerm_30 (by decide)) ?_
      refine rx (xs_icmp_ne_t (tgt := 39) dm_Re_skipTerm_32 rfl (by unfold ir; omega) (by unfold ir; omega) (by decide)) ?_
      refine rx (xs_iconst dm_Re_skipTerm_39) ?_
      refine rx (xs_iadd dm_Re_skipTerm_40) ?_
      refine rx (xs_istore_n dm_Re_skipTerm_41 (by decide)) ?_
      show rX E _ 42 [some (.inr (some E.1.length)), some (.inl p0), some (.inl (nn + (-1))), some (.inl kk), some (.inl 11)] [] _ _
      refine rx (xs_iload dm_Re_skipTerm_42 rfl) ?_
      refine rx (xs_bipush dm_Re_skipTerm_44 (by decide)) ?_
      refine rx (xs_icmp_ne_t (tgt := 59) dm_Re_skipTerm_46 rfl (by unfold ir; omega) (by unfold ir; omega) (by decide)) ?_
      refine rx (xs_iload dm_Re_skipTerm_59 rfl) ?_
      refine rx (xs_bipush dm_Re_skipTerm_61 (by decide)) ?_
      refine rx (xs_icmp_eq_f (tgt := 73) dm_Re_skipTerm_63 rfl (by unfold ir; omega) (by unfold ir; omega) (by decide)) ?_
      refine rx (xs_iload dm_Re_skipTerm_66 rfl) ?_
      refine rx (xs_bipush dm_Re_skipTerm_68 (by decide)) ?_
      refine rx (xs_icmp_ne_f (tgt := 83) dm_Re_skipTerm_70 rfl (by unfold ir; omega) (by unfold ir; omega) (by decide)) ?_
      refine rx (xs_aload_n dm_Re_skipTerm_73 rfl) ?_
      refine rx (xs_iload_n dm_Re_skipTerm_74 rfl) ?_
      refine rx (xs_iconst dm_Re_skipTerm_75) ?_
      refine rx (xs_iadd dm_Re_skipTerm_76) ?_
      have hs2 := sg_tl (sg_tl hs)
      rw [sg_app] at hs2
      refine rcV (as := [.inl (kk + 2)]) (rest := []) dm_Re_skipTerm_77 lc_Re_skipType lm_Re_36 li_Re_skipType (nr rfl rfl) rfl rfl rfl (nl rfl) (re_skipType (p := k + 1 + 1) hs2.1 ha (by omega) (by omega)) ?_
      rintro _ q1 ⟨rfl, hq1⟩
      have hq1 := hq1.symm
      subst hq1
      show rX E _ 80 [some (.inr (some E.1.length)), some (.inl p0), some (.inl (nn + (-1))), some (.inl kk), some (.inl 11)] [.inl (((k + 1 + 1 : Nat) : Int) + (a.length : Int))] _ _
      refine rx (xs_goto (tgt := 86) dm_Re_skipTerm_80 rfl) ?_
      refine rx (xs_istore_n dm_Re_skipTerm_86 (by decide)) ?_
      show rX E _ 87 [some (.inr (some E.1.length)), some (.inl p0), some (.inl (nn + (-1))), some (.inl (((k + 1 + 1 : Nat) : Int) + (a.length : Int))), some (.inl 11)] [] _ _
      refine rx (xs_goto (tgt := 4) dm_Re_skipTerm_87 rfl) ?_
      refine rxq (ih r n (k + 1 + 1 + a.length) _ _ _ (by omega) (by omega) (by omega) hs2.2 hr (by omega) (by omega) (fun z hz => hi z (by simp [hz]))) ?_
      rintro _ _ ⟨rfl, rfl⟩
      exact ⟨by simp; omega, rfl⟩
    · subst e
      simp only [List.cons_append, List.append_assoc, List.nil_append, List.length_append, List.length_cons, List.length_nil] at hs hN h1 h2 hi
      refine rx (xs_iload_n dm_Re_skipTerm_4 rfl) ?_
      refine rx (xs_if_le_f (tgt := 90) dm_Re_skipTerm_5 rfl (by unfold ir; omega) (by omega)) ?_
      refine rx (xs_aload_n dm_Re_skipTerm_8 rfl) ?_
      refine rx (rg (v := .inr (some (rA E 0))) dm_Re_skipTerm_9 lf_Re_7 rfl) ?_
      refine rx (xs_iload_n dm_Re_skipTerm_12 rfl) ?_
      refine rx (rlv 0 11 (by decide) dm_Re_skipTerm_13 (by omega) (by show _ < ((10000 : Nat) : Int); omega) (by rw [hkk, Int.toNat_natCast]; exact sg_hd hs)) ?_
      refine rx (xs_istore dm_Re_skipTerm_14 (by decide)) ?_
      show rX E _ 16 [some (.inr (some E.1.length)), some (.inl p0), some (.inl nn), some (.inl kk), some (.inl 11)] [] _ _
      refine rx (xs_iload_n dm_Re_skipTerm_16 rfl) ?_
      refine rx (xs_iload dm_Re_skipTerm_17 rfl) ?_
      refine rx (xs_bipush dm_Re_skipTerm_19 (by decide)) ?_
      refine rx (xs_icmp_ne_t (tgt := 28) dm_Re_skipTerm_21 rfl (by unfold ir; omega) (by unfold ir; omega) (by decide)) ?_
      refine rx (xs_iload dm_Re_skipTerm_28 rfl) ?_
      refine rx (xs_bipush dm_Re_skipTerm_30 (by decide)) ?_
      refine rx (xs_icmp_ne_t (tgt := 39) dm_Re_skipTerm_32 rfl (by unfold ir; omega) (by unfold ir; omega) (by decide)) ?_
      refine rx (xs_iconst dm_Re_skipTerm_39) ?_
      refine rx (xs_iadd dm_Re_skipTerm_40) ?_
      refine rx (xs_istore_n dm_Re_skipTerm_41 (by decide)) ?_
      show rX E _ 42 [some (.inr (some E.1.length)), some (.inl p0), some (.inl (nn + (-1))), some (.inl kk), some (.inl 11)] [] _ _
      refine rx (xs_iload dm_Re_skipTerm_42 rfl) ?_
      refine rx (xs_bipush dm_Re_skipTerm_44 (by decide)) ?_
      refine rx (xs_icmp_ne_t (tgt := 59) dm_Re_skipTerm_46 rfl (by unfold ir; omega) (by unfold ir; omega) (by decide)) ?_
      refine rx (xs_iload dm_Re_skipTerm_59 rfl) ?_
      refine rx (xs_bipush dm_Re_skipTerm_61 (by decide)) ?_
      refine rx (xs_icmp_eq_f (tgt := 73) dm_Re_skipTerm_63 rfl (by unfold ir; omega) (by unfold ir; omega) (by decide)) ?_
      refine rx (xs_iload dm_Re_skipTerm_66 rfl) ?_
      refine rx (xs_bipush dm_Re_skipTerm_68 (by decide)) ?_
      refine rx (xs_icmp_ne_f (tgt := 83) dm_Re_skipTerm_70 rfl (by unfold ir; omega) (by unfold ir; omega) (by decide)) ?_
      refine rx (xs_aload_n dm_Re_skipTerm_73 rfl) ?_
      refine rx (xs_iload_n dm_Re_skipTerm_74 rfl) ?_
      refine rx (xs_iconst dm_Re_skipTerm_75) ?_
      refine rx (xs_iadd dm_Re_skipTerm_76) ?_
      have hs2 := sg_tl (sg_tl hs)
      rw [sg_app] at hs2
      refine rcV (as := [.inl (kk + 2)]) (rest := []) dm_Re_skipTerm_77 lc_Re_skipType lm_Re_36 li_Re_skipType (nr rfl rfl) rfl rfl rfl (nl rfl) (re_skipType (p := k + 1 + 1) hs2.1 ha (by omega) (by omega)) ?_
      rintro _ q1 ⟨rfl, hq1⟩
      have hq1 := hq1.symm
      subst hq1
      show rX E _ 80 [some (.inr (some E.1.length)), some (.inl p0), some (.inl (nn + (-1))), some (.inl kk), some (.inl 11)] [.inl (((k + 1 + 1 : Nat) : Int) + (s.length : Int))] _ _
      refine rx (xs_goto (tgt := 86) dm_Re_skipTerm_80 rfl) ?_
      refine rx (xs_istore_n dm_Re_skipTerm_86 (by decide)) ?_
      show rX E _ 87 [some (.inr (some E.1.length)), some (.inl p0), some (.inl (nn + (-1))), some (.inl (((k + 1 + 1 : Nat) : Int) + (s.length : Int))), some (.inl 11)] [] _ _
      refine rx (xs_goto (tgt := 4) dm_Re_skipTerm_87 rfl) ?_
      refine rxq (ih r n (k + 1 + 1 + s.length) _ _ _ (by omega) (by omega) (by omega) hs2.2 hr (by omega) (by omega) (fun z hz => hi z (by simp [hz]))) ?_
      rintro _ _ ⟨rfl, rfl⟩
      exact ⟨by simp; omega, rfl⟩
    · subst e
      simp only [List.cons_append, List.append_assoc, List.nil_append, List.length_append, List.length_cons, List.length_nil] at hs hN h1 h2 hi
      refine rx (xs_iload_n dm_Re_skipTerm_4 rfl) ?_
      refine rx (xs_if_le_f (tgt := 90) dm_Re_skipTerm_5 rfl (by unfold ir; omega) (by omega)) ?_
      refine rx (xs_aload_n dm_Re_skipTerm_8 rfl) ?_
      refine rx (rg (v := .inr (some (rA E 0))) dm_Re_skipTerm_9 lf_Re_7 rfl) ?_
      refine rx (xs_iload_n dm_Re_skipTerm_12 rfl) ?_
      refine rx (rlv 0 (20 + (d : Int)) (by decide) dm_Re_skipTerm_13 (by omega) (by show _ < ((10000 : Nat) : Int); omega) (by rw [hkk, Int.toNat_natCast]; exact sg_hd hs)) ?_
      refine rx (xs_istore dm_Re_skipTerm_14 (by decide)) ?_
      show rX E _ 16 [some (.inr (some E.1.length)), some (.inl p0), some (.inl nn), some (.inl kk), some (.inl (20 + (d : Int)))] [] _ _
      refine rx (xs_iload_n dm_Re_skipTerm_16 rfl) ?_
      refine rx (xs_iload dm_Re_skipTerm_17 rfl) ?_
      refine rx (xs_bipush dm_Re_skipTerm_19 (by decide)) ?_
      have hib : ir (20 + (d : Int)) := hi _ List.mem_cons_self
      refine rx (xs_icmp_ne_t (tgt := 28) dm_Re_skipTerm_21 rfl hib (by unfold ir; omega) (by omega)) ?_
      refine rx (xs_iload dm_Re_skipTerm_28 rfl) ?_
      refine rx (xs_bipush dm_Re_skipTerm_30 (by decide)) ?_
      refine rx (xs_icmp_ne_t (tgt := 39) dm_Re_skipTerm_32 rfl hib (by unfold ir; omega) (by omega)) ?_
      refine rx (xs_iconst dm_Re_skipTerm_39) ?_
      refine rx (xs_iadd dm_Re_skipTerm_40) ?_
      refine rx (xs_istore_n dm_Re_skipTerm_41 (by decide)) ?_
      show rX E _ 42 [some (.inr (some E.1.length)), some (.inl p0), some (.inl (nn + (-1))), some (.inl kk), some (.inl (20 + (d : Int)))] [] _ _
      refine rx (xs_iload dm_Re_skipTerm_42 rfl) ?_
      refine rx (xs_bipush dm_Re_skipTerm_44 (by decide)) ?_
      refine rx (xs_icmp_ne_t (tgt := 59) dm_Re_skipTerm_46 rfl hib (by unfold ir; omega) (by omega)) ?_
      refine rx (xs_iload dm_Re_skipTerm_59 rfl) ?_
      refine rx (xs_bipush dm_Re_skipTerm_61 (by decide)) ?_
      refine rx (xs_icmp_eq_f (tgt := 73) dm_Re_skipTerm_63 rfl hib (by unfold ir; omega) (by omega)) ?_
      refine rx (xs_iload dm_Re_skipTerm_66 rfl) ?_
      refine rx (xs_bipush dm_Re_skipTerm_68 (by decide)) ?_
      refine rx (xs_icmp_ne_t (tgt := 83) dm_Re_skipTerm_70 rfl hib (by unfold ir; omega) (by omega)) ?_
      refine rx (xs_iload_n dm_Re_skipTerm_83 rfl) ?_
      refine rx (xs_iconst dm_Re_skipTerm_84) ?_
      refine rx (xs_iadd dm_Re_skipTerm_85) ?_
      refine rx (xs_istore_n dm_Re_skipTerm_86 (by decide)) ?_
      show rX E _ 87 [some (.inr (some E.1.length)), some (.inl p0), some (.inl (nn + (-1))), some (.inl (kk + 1)), some (.inl (20 + (d : Int)))] [] _ _
      refine rx (xs_goto (tgt := 4) dm_Re_skipTerm_87 rfl) ?_
      refine rxq (ih r n (k + 1) _ _ _ (by omega) (by omega) (by omega) (sg_tl hs) hr (by omega) (by omega) (fun z hz => hi z (by simp [hz]))) ?_
      rintro _ _ ⟨rfl, rfl⟩
      exact ⟨by simp; omega, rfl⟩
    · subst e
      simp only [List.cons_append, List.append_assoc, List.nil_append, List.length_append, List.length_cons, List.length_nil] at hs hN h1 h2 hi
      refine rx (xs_iload_n dm_Re_skipTerm_4 rfl) ?_
      refine rx (xs_if_le_f (tgt := 90) dm_Re_skipTerm_5 rfl (by unfold ir; omega) (by omega)) ?_
      refine rx (xs_aload_n dm_Re_skipTerm_8 rfl) ?_
      refine rx (rg (v := .inr (some (rA E 0))) dm_Re_skipTerm_9 lf_Re_7 rfl) ?_
      refine rx (xs_iload_n dm_Re_skipTerm_12 rfl) ?_
      refine rx (rlv 0 12 (by decide) dm_Re_skipTerm_13 (by omega) (by show _ < ((10000 : Nat) : Int); omega) (by rw [hkk, Int.toNat_natCast]; exact sg_hd hs)) ?_
      refine rx (xs_istore dm_Re_skipTerm_14 (by decide)) ?_
      show rX E _ 16 [some (.inr (some E.1.length)), some (.inl p0), some (.inl nn), some (.inl kk), some (.inl 12)] [] _ _
      refine rx (xs_iload_n dm_Re_skipTerm_16 rfl) ?_
      refine rx (xs_iload dm_Re_skipTerm_17 rfl) ?_
      refine rx (xs_bipush dm_Re_skipTerm_19 (by decide)) ?_
      refine rx (xs_icmp_ne_f (tgt := 28) dm_Re_skipTerm_21 rfl (by unfold ir; omega) (by unfold ir; omega) (by decide)) ?_
      refine rx (xs_iconst dm_Re_skipTerm_24) ?_
      refine rx (xs_goto (tgt := 40) dm_Re_skipTerm_25 rfl) ?_
      refine rx (xs_iadd dm_Re_skipTerm_40) ?_
      refine rx (xs_istore_n dm_Re_skipTerm_41 (by decide)) ?_
      show rX E _ 42 [some (.inr (some E.1.length)), some (.inl p0), some (.inl (nn + 1)), some (.inl kk), some (.inl 12)] [] _ _
      refine rx (xs_iload dm_Re_skipTerm_42 rfl) ?_
      refine rx (xs_bipush dm_Re_skipTerm_44 (by decide)) ?_
      refine rx (xs_icmp_ne_t (tgt := 59) dm_Re_skipTerm_46 rfl (by unfold ir; omega) (by unfold ir; omega) (by decide)) ?_
      refine rx (xs_iload dm_Re_skipTerm_59 rfl) ?_
      refine rx (xs_bipush dm_Re_skipTerm_61 (by decide)) ?_
      refine rx (xs_icmp_eq_f (tgt := 73) dm_Re_skipTerm_63 rfl (by unfold ir; omega) (by unfold ir; omega) (by decide)) ?_
      refine rx (xs_iload dm_Re_skipTerm_66 rfl) ?_
      refine rx (xs_bipush dm_Re_skipTerm_68 (by decide)) ?_
      refine rx (xs_icmp_ne_t (tgt := 83) dm_Re_skipTerm_70 rfl (by unfold ir; omega) (by unfold ir; omega) (by decide)) ?_
      refine rx (xs_iload_n dm_Re_skipTerm_83 rfl) ?_
      refine rx (xs_iconst dm_Re_skipTerm_84) ?_
      refine rx (xs_iadd dm_Re_skipTerm_85) ?_
      refine rx (xs_istore_n dm_Re_skipTerm_86 (by decide)) ?_
      show rX E _ 87 [some (.inr (some E.1.length)), some (.inl p0), some (.inl (nn + 1)), some (.inl (kk + 1)), some (.inl 12)] [] _ _
      refine rx (xs_goto (tgt := 4) dm_Re_skipTerm_87 rfl) ?_
      refine rxq (ih (f ++ (x ++ r)) (n + 2) (k + 1) _ _ _ (by omega) (by omega) (by simp; omega) (sg_tl hs) ⟨_, _, _, _, hf, rfl, _, _, _, _, hx, rfl, hr⟩ (by simp; omega) (by simp; omega) (fun z hz => hi z (by simp at hz; simp [hz]))) ?_
      rintro _ _ ⟨rfl, rfl⟩
      exact ⟨by simp; omega, rfl⟩
    · subst e
      simp only [List.cons_append, List.append_assoc, List.nil_append, List.length_append, List.length_cons, List.length_nil] at hs hN h1 h2 hi
      refine rx (xs_iload_n dm_Re_skipTerm_4 rfl) ?_
      refine rx (xs_if_le_f (tgt := 90) dm_Re_skipTerm_5 rfl (by unfold ir; omega) (by omega)) ?_
      refine rx (xs_aload_n dm_Re_skipTerm_8 rfl) ?_
      refine rx (rg (v := .inr (some (rA E 0))) dm_Re_skipTerm_9 lf_Re_7 rfl) ?_
      refine rx (xs_iload_n dm_Re_skipTerm_12 rfl) ?_
      refine rx (rlv 0 13 (by decide) dm_Re_skipTerm_13 (by omega) (by show _ < ((10000 : Nat) : Int); omega) (by rw [hkk, Int.toNat_natCast]; exact sg_hd hs)) ?_
      refine rx (xs_istore dm_Re_skipTerm_14 (by decide)) ?_
      show rX E _ 16 [some (.inr (some E.1.length)), some (.inl p0), some (.inl nn), some (.inl kk), some (.inl 13)] [] _ _
      refine rx (xs_iload_n dm_Re_skipTerm_16 rfl) ?_
      refine rx (xs_iload dm_Re_skipTerm_17 rfl) ?_
      refine rx (xs_bipush dm_Re_skipTerm_19 (by decide)) ?_
      refine rx (xs_icmp_ne_t (tgt := 28) dm_Re_skipTerm_21 rfl (by unfold ir; omega) (by unfold ir; omega) (by decide)) ?_
      refine rx (xs_iload dm_Re_skipTerm_28 rfl) ?_
      refine rx (xs_bipush dm_Re_skipTerm_30 (by decide)) ?_
      refine rx (xs_icmp_ne_f (tgt := 39) dm_Re_skipTerm_32 rfl (by unfold ir; omega) (by unfold ir; omega) (by decide)) ?_
      refine rx (xs_iconst dm_Re_skipTerm_35) ?_
      refine rx (xs_goto (tgt := 40) dm_Re_skipTerm_36 rfl) ?_
      refine rx (xs_iadd dm_Re_skipTerm_40) ?_
      refine rx (xs_istore_n dm_Re_skipTerm_41 (by decide)) ?_
      show rX E _ 42 [some (.inr (some E.1.length)), some (.inl p0), some (.inl (nn + 0)), some (.inl kk), some (.inl 13)] [] _ _
      refine rx (xs_iload dm_Re_skipTerm_42 rfl) ?_
      refine rx (xs_bipush dm_Re_skipTerm_44 (by decide)) ?_
      refine rx (xs_icmp_ne_f (tgt := 59) dm_Re_skipTerm_46 rfl (by unfold ir; omega) (by unfold ir; omega) (by decide)) ?_
      refine rx (xs_aload_n dm_Re_skipTerm_49 rfl) ?_
      refine rx (xs_iload_n dm_Re_skipTerm_50 rfl) ?_
      refine rx (xs_iconst dm_Re_skipTerm_51) ?_
      refine rx (xs_iadd dm_Re_skipTerm_52) ?_
      have hs2 := sg_tl hs
      rw [sg_app] at hs2
      refine rcV (as := [.inl (kk + 1)]) (rest := []) dm_Re_skipTerm_53 lc_Re_skipType lm_Re_36 li_Re_skipType (nr rfl rfl) rfl rfl rfl (nl rfl) (re_skipType (p := k + 1) hs2.1 hs1 (by omega) (by omega)) ?_
      rintro _ q1 ⟨rfl, hq1⟩
      have hq1 := hq1.symm
      subst hq1
      show rX E _ 56 [some (.inr (some E.1.length)), some (.inl p0), some (.inl (nn + 0)), some (.inl kk), some (.inl 13)] [.inl (((k + 1 : Nat) : Int) + (s.length : Int))] _ _
      refine rx (xs_goto (tgt := 86) dm_Re_skipTerm_56 rfl) ?_
      refine rx (xs_istore_n dm_Re_skipTerm_86 (by decide)) ?_
      show rX E _ 87 [some (.inr (some E.1.length)), some (.inl p0), some (.inl (nn + 0)), some (.inl (((k + 1 : Nat) : Int) + (s.length : Int))), some (.inl 13)] [] _ _
      refine rx (xs_goto (tgt := 4) dm_Re_skipTerm_87 rfl) ?_
      refine rxq (ih (u ++ r) (n + 1) (k + 1 + s.length) _ _ _ (by omega) (by omega) (by simp; omega) hs2.2 ⟨_, _, _, _, hu, rfl, hr⟩ (by simp; omega) (by simp; omega) (fun z hz => hi z (by simp at hz; simp [hz]))) ?_
      rintro _ _ ⟨rfl, rfl⟩
      exact ⟨by simp; omega, rfl⟩
theorem isTm_ir {G : List (List Int)} {t a : List Int} (h : isTm G t a) (hG : G.length + t.length ≤ 100000) : ∀ s ∈ t, ir s := fun s hs => by have := isTm_sym h s hs; unfold ir; omega
set_option maxHeartbeats 4000000 in
set_option maxRecDepth 100000 in
theorem re_skipTerm {q : rS} {f : Int} {p : Nat} {G : List (List Int)} {t a : List Int} (hs : sg q p t) (ht : isTm G t a) (hf : f = p) (h1 : p + t.length ≤ 10000) (hG : G.length ≤ 50000) : rM mm_Re_skipTerm [.inl f] q (fun r q' => r = some (.inl ((p : Int) + (t.length : Int))) ∧ q' = q) := by
  refine rm rfl (nl rfl) (fun E => ?_)
  subst hf
  show rX E _ 0 [some (.inr (some E.1.length)), some (.inl (p : Int)), none, none, none] [] _ _
  refine rx (xs_iconst dm_Re_skipTerm_0) ?_
  refine rx (xs_istore_n dm_Re_skipTerm_1 (by decide)) ?_
  show rX E _ 2 [some (.inr (some E.1.length)), some (.inl (p : Int)), some (.inl 1), none, none] [] _ _
  refine rx (xs_iload_n dm_Re_skipTerm_2 rfl) ?_
  refine rx (xs_istore_n dm_Re_skipTerm_3 (by decide)) ?_
  show rX E _ 4 [some (.inr (some E.1.length)), some (.inl (p : Int)), some (.inl 1), some (.inl (p : Int)), none] [] _ _
  exact re_skipTerm_l E (t.length + 1) t 1 p _ _ _ rfl rfl (by omega) hs ⟨G, t, a, [], ht, by simp, rfl⟩ h1 (by omega) (isTm_ir ht (by omega))
end
section
def bg (q : rS) : rS := u3 (u3 (u3 (u3 q 6 5 5200) 6 6 0) 3 28 0) 2 28 2
set_option maxHeartbeats 4000000 in
set_option maxRecDepth 100000 in
theorem re_begin {q : rS} : rM mm_Re_begin [] q (fun r q' => r = none ∧ q' = bg q) := by
  refine rm rfl (nl rfl) (fun E => ?_)
  show rX E _ 0 [some (.inr (some E.1.length))] [] _ _
  refine rx (xs_aload_n dm_Re_begin_0 rfl) ?_
  refine rx (xs_sipush dm_Re_begin_1 (by decide)) ?_
  refine rx (rp 5 (by decide) dm_Re_begin_4 lp_Re_28 (x_ft_i _)) ?_
  refine rx (xs_aload_n dm_Re_begin_7 rfl) ?_
  refine rx (xs_iconst dm_Re_begin_8) ?_
  refine rx (rp 6 (by decide) dm_Re_begin_9 lp_Re_50 x_ft_z0) ?_
  refine rx (xs_aload_n dm_Re_begin_12 rfl) ?_
  refine rx (rg (v := .inr (some (rA E 3))) dm_Re_begin_13 lf_Re_19 rfl) ?_
  refine rx (xs_bipush dm_Re_begin_16 (by decide)) ?_
  refine rx (xs_iconst dm_Re_begin_18) ?_
  refine rx (rtn 3 28 (by decide) dm_Re_begin_19 (by omega) (by show _ < ((30 : Nat) : Int); omega) rfl) ?_
  refine rx (xs_aload_n dm_Re_begin_20 rfl) ?_
  refine rx (rg (v := .inr (some (rA E 2))) dm_Re_begin_21 lf_Re_16 rfl) ?_
  refine rx (xs_bipush dm_Re_begin_24 (by decide)) ?_
  refine rx (xs_iconst dm_Re_begin_26) ?_
  refine rx (rtn 2 28 (by decide) dm_Re_begin_27 (by omega) (by show _ < ((30 : Nat) : Int); omega) rfl) ?_
  exact rrv dm_Re_begin_28 rfl ⟨rfl, rfl⟩
def tp (q : rS) (i : Int) : Int := if i < q 6 0 then q 2 (q 6 0 - 1 - i).toNat else -1
set_option maxHeartbeats 4000000 in
set_option maxRecDepth 100000 in
theorem re_top {q : rS} {i : Int} (h0 : 0 ≤ q 6 0) (h1 : q 6 0 ≤ 12) (i0 : 0 ≤ i) (i1 : i ≤ 12) : rM mm_Re_top [.inl i] q (fun r q' => r = some (.inl (tp q i)) ∧ q' = q) := by
  refine rm rfl (nl rfl) (fun E => ?_)
  show rX E _ 0 [some (.inr (some E.1.length)), some (.inl i)] [] _ _
  refine rx (xs_iload_n dm_Re_top_0 rfl) ?_
  refine rx (xs_aload_n dm_Re_top_1 rfl) ?_
  refine rx (rg (v := .inl (q 6 0)) dm_Re_top_2 lf_Re_79 rfl) ?_
  refine xx_icmp_ge (tgt := 24) dm_Re_top_5 rfl (by unfold ir; omega) (by unfold ir; omega) (fun hc => ?_) (fun hc => ?_)
  · change rX E _ 24 _ _ _ _
    refine rx (xs_iconst dm_Re_top_24) ?_
    exact rri dm_Re_top_25 rfl ⟨vi (by unfold tp; rw [if_neg (by omega)]), rfl⟩
  · change rX E _ 8 _ _ _ _
    refine rx (xs_aload_n dm_Re_top_8 rfl) ?_
    refine rx (rg (v := .inr (some (rA E 2))) dm_Re_top_9 lf_Re_16 rfl) ?_
    refine rx (xs_aload_n dm_Re_top_12 rfl) ?_
    refine rx (rg (v := .inl (q 6 0)) dm_Re_top_13 lf_Re_79 rfl) ?_
    refine rx (xs_iconst dm_Re_top_16) ?_
    refine rx (xs_isub dm_Re_top_17) ?_
    refine rx (xs_iload_n dm_Re_top_18 rfl) ?_
    refine rx (xs_isub dm_Re_top_19) ?_
    refine rx (rl 2 (by decide) dm_Re_top_20 (by omega) (by show _ < ((30 : Nat) : Int); omega)) ?_
    refine rx (xs_goto (tgt := 25) dm_Re_top_21 rfl) ?_
    exact rri dm_Re_top_25 rfl ⟨vi (by unfold tp; rw [if_pos (by omega)]), rfl⟩
set_option maxHeartbeats 4000000 in
set_option maxRecDepth 100000 in
theorem re_rowOf {q : rS} {i : Int} : rM mm_Re_rowOf [.inl i] q (fun r q' => r = some (.inl (160 * (q 6 0 - 1 - i) + 40 * 0)) ∧ q' = q) := by
  refine rm rfl (nl rfl) (fun E => ?_)
  show rX E _ 0 [some (.inr (some E.1.length)), some (.inl i)] [] _ _
  refine rx (xs_aload_n dm_Re_rowOf_0 rfl) ?_
  refine rx (rg (v := .inl (q 6 0)) dm_Re_rowOf_1 lf_Re_79 rfl) ?_
  refine rx (xs_iconst dm_Re_rowOf_4) ?_
  refine rx (xs_isub dm_Re_rowOf_5) ?_
  refine rx (xs_iload_n dm_Re_rowOf_6 rfl) ?_
  refine rx (xs_isub dm_Re_rowOf_7) ?_
  refine rx (xs_iconst dm_Re_rowOf_8) ?_
  refine rcS (as := [.inl (((q 6 0) - 1) - i), .inl 0]) (rest := []) dm_Re_rowOf_9 lc_Re_base lm_Re_54 li_Re_base (nr rfl rfl) rfl rfl (nl rfl) (re_base _ _) ?_
  show rX E _ 12 [some (.inr (some E.1.length)), some (.inl i)] [.inl (160 * (q 6 0 - 1 - i) + 40 * 0)] _ _
  exact rri dm_Re_rowOf_12 rfl ⟨rfl, rfl⟩
set_option maxHeartbeats 4000000 in
set_option maxRecDepth 100000 in
theorem re_rowEnd {q : rS} {i : Int} (h0 : 0 ≤ q 6 0 - 1 - i) (h1 : q 6 0 - 1 - i < 30) : rM mm_Re_rowEnd [.inl i] q (fun r q' => r = some (.inl (160 * (q 6 0 - 1 - i) + 40 * 0 + q 1 (4 * (q 6 0 - 1 - i)).toNat)) ∧ q' = q) := by
  refine rm rfl (nl rfl) (fun E => ?_)
  show rX E _ 0 [some (.inr (some E.1.length)), some (.inl i)] [] _ _
  refine rx (xs_aload_n dm_Re_rowEnd_0 rfl) ?_
  refine rx (rg (v := .inl (q 6 0)) dm_Re_rowEnd_1 lf_Re_79 rfl) ?_
  refine rx (xs_iconst dm_Re_rowEnd_4) ?_
  refine rx (xs_isub dm_Re_rowEnd_5) ?_
  refine rx (xs_iload_n dm_Re_rowEnd_6 rfl) ?_
  refine rx (xs_isub dm_Re_rowEnd_7) ?_
  refine rx (xs_iconst dm_Re_rowEnd_8) ?_
  refine rcS (as := [.inl (((q 6 0) - 1) - i), .inl 0]) (rest := []) dm_Re_rowEnd_9 lc_Re_base lm_Re_54 li_Re_base (nr rfl rfl) rfl rfl (nl rfl) (re_base _ _) ?_
  show rX E _ 12 [some (.inr (some E.1.length)), some (.inl i)] [.inl (160 * (q 6 0 - 1 - i) + 40 * 0)] _ _
  refine rx (xs_aload_n dm_Re_rowEnd_12 rfl) ?_
  refine rx (rg (v := .inr (some (rA E 1))) dm_Re_rowEnd_13 lf_Re_13 rfl) ?_
  refine rx (xs_iconst dm_Re_rowEnd_16) ?_
  refine rx (xs_aload_n dm_Re_rowEnd_17 rfl) ?_
  refine rx (rg (v := .inl (q 6 0)) dm_Re_rowEnd_18 lf_Re_79 rfl) ?_
  refine rx (xs_iconst dm_Re_rowEnd_21) ?_
  refine rx (xs_isub dm_Re_rowEnd_22) ?_
  refine rx (xs_iload_n dm_Re_rowEnd_23 rfl) ?_
  refine rx (xs_isub dm_Re_rowEnd_24) ?_
  refine rx (xs_imul dm_Re_rowEnd_25) ?_
  refine rx (rl 1 (by decide) dm_Re_rowEnd_26 (by omega) (by show _ < ((120 : Nat) : Int); omega)) ?_
  refine rx (xs_iadd dm_Re_rowEnd_27) ?_
  exact rri dm_Re_rowEnd_28 rfl ⟨rfl, rfl⟩
def vr (q : rS) (i : Int) : Int := if tp q i = 1 ∧ q 0 (160 * (q 6 0 - 1 - i)).toNat = 10 then 1 else 0
set_option maxHeartbeats 4000000 in
set_option maxRecDepth 100000 in
theorem re_variable {q : rS} {i : Int} (h0 : 0 ≤ q 6 0) (h1 : q 6 0 ≤ 12) (i0 : 0 ≤ i) (i1 : i ≤ 12) (hi : ir (tp q i)) (hm : ∀ k, ir (q 0 k)) : rM mm_Re_variable [.inl i] q (fun r q' => r = some (.inl (vr q i)) ∧ q' = q) := by
  refine rm rfl (nl rfl) (fun E => ?_)
  show rX E _ 0 [some (.inr (some E.1.length)), some (.inl i)] [] _ _
  refine rx (xs_aload_n dm_Re_variable_0 rfl) ?_
  refine rx (xs_iload_n dm_Re_variable_1 rfl) ?_
  refine rcV (as := [.inl i]) (rest := []) dm_Re_variable_2 lc_Re_top lm_Re_85 li_Re_top (nr rfl rfl) rfl rfl rfl (nl rfl) (re_top h0 h1 i0 i1) ?_
  rintro _ q1 ⟨rfl, hq1⟩
  have hq1 := hq1.symm
  subst hq1
  show rX E _ 5 [some (.inr (some E.1.length)), some (.inl i)] [.inl (tp q i)] _ _
  refine rx (xs_iconst dm_Re_variable_5) ?_
  refine xx_icmp_ne (tgt := 35) dm_Re_variable_6 rfl hi (by unfold ir; omega) (fun hc => ?_) (fun hc => ?_)
  · change rX E _ 35 _ _ _ _
    refine rx (xs_iconst dm_Re_variable_35) ?_
    exact rrz dm_Re_variable_36 rfl (Or.inl rfl) ⟨vi (by unfold vr; rw [if_neg (fun e => hc e.1)]), rfl⟩
  · change rX E _ 9 _ _ _ _
    have hlt : i < q 6 0 := by
      by_cases h : i < q 6 0
      · exact h
      · unfold tp at hc; rw [if_neg h] at hc; omega
    refine rx (xs_aload_n dm_Re_variable_9 rfl) ?_
    refine rx (rg (v := .inr (some (rA E 0))) dm_Re_variable_10 lf_Re_7 rfl) ?_
    refine rx (xs_aload_n dm_Re_variable_13 rfl) ?_
    refine rx (rg (v := .inl (q 6 0)) dm_Re_variable_14 lf_Re_79 rfl) ?_
    refine rx (xs_iconst dm_Re_variable_17) ?_
    refine rx (xs_isub dm_Re_variable_18) ?_
    refine rx (xs_iload_n dm_Re_variable_19 rfl) ?_
    refine rx (xs_isub dm_Re_variable_20) ?_
    refine rx (xs_iconst dm_Re_variable_21) ?_
    refine rcS (as := [.inl (((q 6 0) - 1) - i), .inl 0]) (rest := [.inr (some (rA E 0))]) dm_Re_variable_22 lc_Re_base lm_Re_54 li_Re_base (nr rfl rfl) rfl rfl (nl rfl) (re_base _ _) ?_
    show rX E _ 25 [some (.inr (some E.1.length)), some (.inl i)] [.inl (160 * (q 6 0 - 1 - i) + 40 * 0), .inr (some (rA E 0))] _ _
    refine rx (rlv 0 (q 0 (160 * (q 6 0 - 1 - i)).toNat) (by decide) dm_Re_variable_25 (by omega) (by show _ < ((10000 : Nat) : Int); omega) (by rw [show 160 * (q 6 0 - 1 - i) + 40 * 0 = 160 * (q 6 0 - 1 - i) by omega])) ?_
    refine rx (xs_bipush dm_Re_variable_26 (by decide)) ?_
    refine xx_icmp_ne (tgt := 35) dm_Re_variable_28 rfl (hm _) (by unfold ir; omega) (fun hc2 => ?_) (fun hc2 => ?_)
    · change rX E _ 35 _ _ _ _
      refine rx (xs_iconst dm_Re_variable_35) ?_
      exact rrz dm_Re_variable_36 rfl (Or.inl rfl) ⟨vi (by unfold vr; rw [if_neg (fun e => hc2 e.2)]), rfl⟩
    · change rX E _ 31 _ _ _ _
      refine rx (xs_iconst dm_Re_variable_31) ?_
      refine rx (xs_goto (tgt := 36) dm_Re_variable_32 rfl) ?_
      exact rrz dm_Re_variable_36 rfl (Or.inr rfl) ⟨vi (by unfold vr; rw [if_pos ⟨hc, hc2⟩]), rfl⟩
set_option maxHeartbeats 4000000 in
set_option maxRecDepth 100000 in
theorem re_isEq1 {q : rS} {f : Int} {p : Nat} {r : List Int} (hs : sg q p (12 :: 12 :: 11 :: 0 :: r)) (hf : f = p) (h1 : p < 9000) : rM mm_Re_isEquation [.inl f] q (fun r q' => r = some (.inl 1) ∧ q' = q) := by
  refine rm rfl (nl rfl) (fun E => ?_)
  show rX E _ 0 [some (.inr (some E.1.length)), some (.inl f)] [] _ _
  refine rx (xs_aload_n dm_Re_isEquation_0 rfl) ?_
  refine rx (rg (v := .inr (some (rA E 0))) dm_Re_isEquation_1 lf_Re_7 rfl) ?_
  refine rx (xs_iload_n dm_Re_isEquation_4 rfl) ?_
  refine rx (rlv 0 12 (by decide) dm_Re_isEquation_5 (by omega) (by show _ < ((10000 : Nat) : Int); omega) (by rw [show (f).toNat = p + 0 by omega]; exact hs 0 _ rfl)) ?_
  refine rx (xs_bipush dm_Re_isEquation_6 (by decide)) ?_
  refine rx (xs_icmp_ne_f (tgt := 52) dm_Re_isEquation_8 rfl (by unfold ir; omega) (by unfold ir; omega) (by decide)) ?_
  refine rx (xs_aload_n dm_Re_isEquation_11 rfl) ?_
  refine rx (rg (v := .inr (some (rA E 0))) dm_Re_isEquation_12 lf_Re_7 rfl) ?_
  refine rx (xs_iload_n dm_Re_isEquation_15 rfl) ?_
  refine rx (xs_iconst dm_Re_isEquation_16) ?_
  refine rx (xs_iadd dm_Re_isEquation_17) ?_
  refine rx (rlv 0 12 (by decide) dm_Re_isEquation_18 (by omega) (by show _ < ((10000 : Nat) : Int); omega) (by rw [show (f + 1).toNat = p + 1 by omega]; exact hs 1 _ rfl)) ?_
  refine rx (xs_bipush dm_Re_isEquation_19 (by decide)) ?_
  refine rx (xs_icmp_ne_f (tgt := 52) dm_Re_isEquation_21 rfl (by unfold ir; omega) (by unfold ir; omega) (by decide)) ?_
  refine rx (xs_aload_n dm_Re_isEquation_24 rfl) ?_
  refine rx (rg (v := .inr (some (rA E 0))) dm_Re_isEquation_25 lf_Re_7 rfl) ?_
  refine rx (xs_iload_n dm_Re_isEquation_28 rfl) ?_
  refine rx (xs_iconst dm_Re_isEquation_29) ?_
  refine rx (xs_iadd dm_Re_isEquation_30) ?_
  refine rx (rlv 0 11 (by decide) dm_Re_isEquation_31 (by omega) (by show _ < ((10000 : Nat) : Int); omega) (by rw [show (f + 2).toNat = p + 2 by omega]; exact hs 2 _ rfl)) ?_
  refine rx (xs_bipush dm_Re_isEquation_32 (by decide)) ?_
  refine rx (xs_icmp_ne_f (tgt := 52) dm_Re_isEquation_34 rfl (by unfold ir; omega) (by unfold ir; omega) (by decide)) ?_
  refine rx (xs_aload_n dm_Re_isEquation_37 rfl) ?_
  refine rx (rg (v := .inr (some (rA E 0))) dm_Re_isEquation_38 lf_Re_7 rfl) ?_
  refine rx (xs_iload_n dm_Re_isEquation_41 rfl) ?_
  refine rx (xs_iconst dm_Re_isEquation_42) ?_
  refine rx (xs_iadd dm_Re_isEquation_43) ?_
  refine rx (rlv 0 0 (by decide) dm_Re_isEquation_44 (by omega) (by show _ < ((10000 : Nat) : Int); omega) (by rw [show (f + 3).toNat = p + 3 by omega]; exact hs 3 _ rfl)) ?_
  refine rx (xs_if_ne_f (tgt := 52) dm_Re_isEquation_45 rfl (by unfold ir; omega) (by decide)) ?_
  refine rx (xs_iconst dm_Re_isEquation_48) ?_
  refine rx (xs_goto (tgt := 53) dm_Re_isEquation_49 rfl) ?_
  exact rrz dm_Re_isEquation_53 rfl (Or.inr rfl) ⟨rfl, rfl⟩
/-- an equation's row -/
def isE (t : List Int) : Prop := ∃ r, t = 12 :: 12 :: 11 :: 0 :: r
set_option maxHeartbeats 4000000 in
set_option maxRecDepth 100000 in
theorem re_isEq0 {q : rS} {f : Int} {p : Nat} {G : List (List Int)} {t a : List Int} (hs : sg q p t) (ht : isTm G t a) (hn : ¬ isE t) (hf : f = p) (h1 : p < 9000) (hm : ∀ k, ir (q 0 k)) : rM mm_Re_isEquation [.inl f] q (fun r q' => r = some (.inl 0) ∧ q' = q) := by
  refine rm rfl (nl rfl) (fun E => ?_)
  show rX E _ 0 [some (.inr (some E.1.length)), some (.inl f)] [] _ _
  refine rx (xs_aload_n dm_Re_isEquation_0 rfl) ?_
  refine rx (rg (v := .inr (some (rA E 0))) dm_Re_isEquation_1 lf_Re_7 rfl) ?_
  refine rx (xs_iload_n dm_Re_isEquation_4 rfl) ?_
  refine rx (rl 0 (by decide) dm_Re_isEquation_5 (by omega) (by show _ < ((10000 : Nat) : Int); omega)) ?_
  refine rx (xs_bipush dm_Re_isEquation_6 (by decide)) ?_
  refine xx_icmp_ne (tgt := 52) dm_Re_isEquation_8 rfl (hm _) (by unfold ir; omega) (fun hc => ?_) (fun hc => ?_)
  · change rX E _ 52 _ _ _ _
    refine rx (xs_iconst dm_Re_isEquation_52) ?_
    exact rrz dm_Re_isEquation_53 rfl (Or.inl rfl) ⟨rfl, rfl⟩
  · change rX E _ 11 _ _ _ _
    have hc1 : q 0 p = 12 := by rw [← hc]; congr 1; omega
    obtain ⟨s0, r0, e0, -⟩ := isTm_hd ht
    have e1 := sg_hd (e0 ▸ hs)
    rcases isTm_inv ht with ⟨m, m0, m7, ha, e⟩ | ⟨m, m0, m7, ha, e⟩ | ⟨s, ha, e, -⟩ | ⟨d, hd, ha, e⟩ | ⟨f1, x1, s1, hs1, ha1, hf1, hx1, e⟩ | ⟨s, u, b, hs1, hb1, hu, e, -⟩
    · rw [e] at hs; have := sg_hd hs; omega
    · rw [e] at hs; have := sg_hd hs; omega
    · rw [e] at hs; have := sg_hd hs; omega
    · rw [e] at hs; have := sg_hd hs; omega
    rotate_left
    · rw [e] at hs; have := sg_hd hs; omega
    rw [e] at hs
    have hs1' := (sg_app.mp (sg_tl hs)).1
    refine rx (xs_aload_n dm_Re_isEquation_11 rfl) ?_
    refine rx (rg (v := .inr (some (rA E 0))) dm_Re_isEquation_12 lf_Re_7 rfl) ?_
    refine rx (xs_iload_n dm_Re_isEquation_15 rfl) ?_
    refine rx (xs_iconst dm_Re_isEquation_16) ?_
    refine rx (xs_iadd dm_Re_isEquation_17) ?_
    refine rx (rl 0 (by decide) dm_Re_isEquation_18 (by omega) (by show _ < ((10000 : Nat) : Int); omega)) ?_
    refine rx (xs_bipush dm_Re_isEquation_19 (by decide)) ?_
    refine xx_icmp_ne (tgt := 52) dm_Re_isEquation_21 rfl (hm _) (by unfold ir; omega) (fun hc2 => ?_) (fun hc2 => ?_)
    · change rX E _ 52 _ _ _ _
      refine rx (xs_iconst dm_Re_isEquation_52) ?_
      exact rrz dm_Re_isEquation_53 rfl (Or.inl rfl) ⟨rfl, rfl⟩
    · change rX E _ 24 _ _ _ _
      have hc2' : q 0 (p + 1) = 12 := by rw [← hc2]; congr 1; omega
      rcases isTm_inv hf1 with ⟨m, m0, m7, ha, e2⟩ | ⟨m, m0, m7, ha, e2⟩ | ⟨s, ha, e2, -⟩ | ⟨d, hd, ha, e2⟩ | ⟨f2, x2, s2, hs2, ha2, hf2, hx2, e2⟩ | ⟨s, u, b, hs2, hb2, hu, e2, -⟩
      · rw [e2] at hs1'; have := sg_hd hs1'; omega
      · rw [e2] at hs1'; have := sg_hd hs1'; omega
      · rw [e2] at hs1'; have := sg_hd hs1'; omega
      · rw [e2] at hs1'; have := sg_hd hs1'; omega
      rotate_left
      · rw [e2] at hs1'; have := sg_hd hs1'; omega
      rw [e2] at hs1'
      have hs2' := (sg_app.mp (sg_tl hs1')).1
      refine rx (xs_aload_n dm_Re_isEquation_24 rfl) ?_
      refine rx (rg (v := .inr (some (rA E 0))) dm_Re_isEquation_25 lf_Re_7 rfl) ?_
      refine rx (xs_iload_n dm_Re_isEquation_28 rfl) ?_
      refine rx (xs_iconst dm_Re_isEquation_29) ?_
      refine rx (xs_iadd dm_Re_isEquation_30) ?_
      refine rx (rl 0 (by decide) dm_Re_isEquation_31 (by omega) (by show _ < ((10000 : Nat) : Int); omega)) ?_
      refine rx (xs_bipush dm_Re_isEquation_32 (by decide)) ?_
      refine xx_icmp_ne (tgt := 52) dm_Re_isEquation_34 rfl (hm _) (by unfold ir; omega) (fun hc3 => ?_) (fun hc3 => ?_)
      · change rX E _ 52 _ _ _ _
        refine rx (xs_iconst dm_Re_isEquation_52) ?_
        exact rrz dm_Re_isEquation_53 rfl (Or.inl rfl) ⟨rfl, rfl⟩
      · change rX E _ 37 _ _ _ _
        have hc3' : q 0 (p + 1 + 1) = 11 := by rw [← hc3]; congr 1; omega
        have key : ∃ (c : Int) (y : List Int), f2 = 11 :: c :: y ∧ ¬ c = 0 := by
          rcases isTm_inv hf2 with ⟨m, m0, m7, ha, e3⟩ | ⟨m, m0, m7, ha, e3⟩ | ⟨s, ha, e3, -⟩ | ⟨d, hd, ha, e3⟩ | ⟨f3, x3, s3, hs3, ha3, hf3, hx3, e3⟩ | ⟨s, u, b, hs3, hb3, hu, e3, -⟩
          · rw [e3] at hs2'; have := sg_hd hs2'; omega
          · exact ⟨m, _, e3, by omega⟩
          · exact (hn ⟨_, by rw [e, e2, e3]; rfl⟩).elim
          · rw [e3] at hs2'; have := sg_hd hs2'; omega
          · rw [e3] at hs2'; have := sg_hd hs2'; omega
          · rw [e3] at hs2'; have := sg_hd hs2'; omega
        obtain ⟨c, y, e3, hc0⟩ := key
        rw [e3] at hs2'
        have hc4 := sg_hd (sg_tl hs2')
        refine rx (xs_aload_n dm_Re_isEquation_37 rfl) ?_
        refine rx (rg (v := .inr (some (rA E 0))) dm_Re_isEquation_38 lf_Re_7 rfl) ?_
        refine rx (xs_iload_n dm_Re_isEquation_41 rfl) ?_
        refine rx (xs_iconst dm_Re_isEquation_42) ?_
        refine rx (xs_iadd dm_Re_isEquation_43) ?_
        refine rx (rlv 0 c (by decide) dm_Re_isEquation_44 (by omega) (by show _ < ((10000 : Nat) : Int); omega) (by rw [← hc4]; congr 1; omega)) ?_
        refine rx (xs_if_ne_t (tgt := 52) dm_Re_isEquation_45 rfl (hc4 ▸ hm _) hc0) ?_
        refine rx (xs_iconst dm_Re_isEquation_52) ?_
        exact rrz dm_Re_isEquation_53 rfl (Or.inl rfl) ⟨rfl, rfl⟩
set_option maxHeartbeats 4000000 in
set_option maxRecDepth 100000 in
theorem re_left {q : rS} {f : Int} {p : Nat} {a : List Int} (hs : sg q (p + 4) a) (ha : isTy a) (hf : f = p) (h1 : p + 4 + a.length ≤ 10000) : rM mm_Re_left [.inl f] q (fun r q' => r = some (.inl ((p : Int) + 4 + (a.length : Int))) ∧ q' = q) := by
  refine rm rfl (nl rfl) (fun E => ?_)
  show rX E _ 0 [some (.inr (some E.1.length)), some (.inl f)] [] _ _
  refine rx (xs_aload_n dm_Re_left_0 rfl) ?_
  refine rx (xs_iload_n dm_Re_left_1 rfl) ?_
  refine rx (xs_iconst dm_Re_left_2) ?_
  refine rx (xs_iadd dm_Re_left_3) ?_
  refine rcV (as := [.inl (f + 4)]) (rest := []) dm_Re_left_4 lc_Re_skipType lm_Re_36 li_Re_skipType (nr rfl rfl) rfl rfl rfl (nl rfl) (re_skipType hs ha (by omega) (by omega)) ?_
  rintro _ q1 ⟨rfl, hq1⟩
  have hq1 := hq1.symm
  subst hq1
  show rX E _ 7 [some (.inr (some E.1.length)), some (.inl f)] [.inl (((p + 4 : Nat) : Int) + (a.length : Int))] _ _
  exact rri dm_Re_left_7 rfl ⟨vi (by omega), rfl⟩
set_option maxHeartbeats 4000000 in
set_option maxRecDepth 100000 in
theorem re_isBool {q : rS} {f t : Int} {p : Nat} {a : List Int} (hs : sg q p a) (ha : isTy a) (hf : f = p) (ht : t = (p : Int) + (a.length : Int)) (h1 : p + a.length ≤ 10000) : rM mm_Re_isBool [.inl f, .inl t] q (fun r q' => r = some (.inl (if a = [1] then 1 else 0)) ∧ q' = q) := by
  refine rm rfl (nl rfl) (fun E => ?_)
  show rX E _ 0 [some (.inr (some E.1.length)), some (.inl f), some (.inl t)] [] _ _
  refine rx (xs_iload_n dm_Re_isBool_0 rfl) ?_
  refine rx (xs_iload_n dm_Re_isBool_1 rfl) ?_
  refine rx (xs_isub dm_Re_isBool_2) ?_
  refine rx (xs_iconst dm_Re_isBool_3) ?_
  refine xx_icmp_ne (tgt := 21) dm_Re_isBool_4 rfl (by unfold ir; omega) (by unfold ir; omega) (fun hc => ?_) (fun hc => ?_)
  · change rX E _ 21 _ _ _ _
    refine rx (xs_iconst dm_Re_isBool_21) ?_
    exact rrz dm_Re_isBool_22 rfl (Or.inl rfl) ⟨vi (by rw [if_neg (fun e => hc (by rw [e] at ht; simp at ht; omega))]), rfl⟩
  · change rX E _ 7 _ _ _ _
    have hl : a.length = 1 := by omega
    obtain ⟨x, e⟩ : ∃ x, a = [x] := List.length_eq_one_iff.mp hl
    subst e
    have hx := sg_hd hs
    have hir : ir x := isTy_ir ha x List.mem_cons_self
    refine rx (xs_aload_n dm_Re_isBool_7 rfl) ?_
    refine rx (rg (v := .inr (some (rA E 0))) dm_Re_isBool_8 lf_Re_7 rfl) ?_
    refine rx (xs_iload_n dm_Re_isBool_11 rfl) ?_
    refine rx (rlv 0 x (by decide) dm_Re_isBool_12 (by omega) (by show _ < ((10000 : Nat) : Int); omega) (by rw [← hx]; congr 1; omega)) ?_
    refine rx (xs_iconst dm_Re_isBool_13) ?_
    refine xx_icmp_ne (tgt := 21) dm_Re_isBool_14 rfl hir (by unfold ir; omega) (fun hc2 => ?_) (fun hc2 => ?_)
    · change rX E _ 21 _ _ _ _
      refine rx (xs_iconst dm_Re_isBool_21) ?_
      exact rrz dm_Re_isBool_22 rfl (Or.inl rfl) ⟨vi (by rw [if_neg (fun e => hc2 (by simpa using e))]), rfl⟩
    · change rX E _ 17 _ _ _ _
      refine rx (xs_iconst dm_Re_isBool_17) ?_
      refine rx (xs_goto (tgt := 22) dm_Re_isBool_18 rfl) ?_
      exact rrz dm_Re_isBool_22 rfl (Or.inr rfl) ⟨vi (by rw [hc2]; rfl), rfl⟩
set_option maxHeartbeats 4000000 in
set_option maxRecDepth 100000 in
theorem re_beginEquation {q : rS} {f t : Int} {p : Nat} {a : List Int} (hs : sg q p a) (hf : f = p) (ht : t = (p : Int) + (a.length : Int)) (h0 : t ≤ q 6 5) (h1 : q 6 5 + 4 + (a.length : Int) ≤ 10000) : rM mm_Re_beginEquation [.inl f, .inl t] q (fun r q' => r = none ∧ q' = emL q (12 :: 12 :: 11 :: 0 :: a)) := by
  refine rm rfl (nl rfl) (fun E => ?_)
  show rX E _ 0 [some (.inr (some E.1.length)), some (.inl f), some (.inl t)] [] _ _
  have o1 := em_out q 12
  have o2 := em_out (em q 12) 12
  have o3 := em_out (em (em q 12) 12) 11
  have o4 := em_out (em (em (em q 12) 12) 11) 0
  refine rx (xs_aload_n dm_Re_beginEquation_0 rfl) ?_
  refine rx (xs_bipush dm_Re_beginEquation_1 (by decide)) ?_
  refine rcV (as := [.inl 12]) (rest := []) dm_Re_beginEquation_3 lc_Re_emit lm_Re_32 li_Re_emit (nr rfl rfl) rfl rfl rfl (nl rfl) (re_emit (x := 12) (by omega) (by omega)) ?_
  rintro _ _ ⟨rfl, rfl⟩
  show rX E _ 6 [some (.inr (some E.1.length)), some (.inl f), some (.inl t)] [] _ _
  refine rx (xs_aload_n dm_Re_beginEquation_6 rfl) ?_
  refine rx (xs_bipush dm_Re_beginEquation_7 (by decide)) ?_
  refine rcV (as := [.inl 12]) (rest := []) dm_Re_beginEquation_9 lc_Re_emit lm_Re_32 li_Re_emit (nr rfl rfl) rfl rfl rfl (nl rfl) (re_emit (x := 12) (by omega) (by omega)) ?_
  rintro _ _ ⟨rfl, rfl⟩
  show rX E _ 12 [some (.inr (some E.1.length)), some (.inl f), some (.inl t)] [] _ _
  refine rx (xs_aload_n dm_Re_beginEquation_12 rfl) ?_
  refine rx (xs_bipush dm_Re_beginEquation_13 (by decide)) ?_
  refine rcV (as := [.inl 11]) (rest := []) dm_Re_beginEquation_15 lc_Re_emit lm_Re_32 li_Re_emit (nr rfl rfl) rfl rfl rfl (nl rfl) (re_emit (x := 11) (by omega) (by omega)) ?_
  rintro _ _ ⟨rfl, rfl⟩
  show rX E _ 18 [some (.inr (some E.1.length)), some (.inl f), some (.inl t)] [] _ _
  refine rx (xs_aload_n dm_Re_beginEquation_18 rfl) ?_
  refine rx (xs_iconst dm_Re_beginEquation_19) ?_
  refine rcV (as := [.inl 0]) (rest := []) dm_Re_beginEquation_20 lc_Re_emit lm_Re_32 li_Re_emit (nr rfl rfl) rfl rfl rfl (nl rfl) (re_emit (x := 0) (by omega) (by omega)) ?_
  rintro _ _ ⟨rfl, rfl⟩
  show rX E _ 23 [some (.inr (some E.1.length)), some (.inl f), some (.inl t)] [] _ _
  refine rx (xs_aload_n dm_Re_beginEquation_23 rfl) ?_
  refine rx (xs_iload_n dm_Re_beginEquation_24 rfl) ?_
  refine rx (xs_iload_n dm_Re_beginEquation_25 rfl) ?_
  have hs4 : sg (em (em (em (em q 12) 12) 11) 0) p a := emL_sgo (l := [12, 12, 11, 0]) (by omega) hs (by omega)
  refine rcV (as := [.inl f, .inl t]) (rest := []) dm_Re_beginEquation_26 lc_Re_emitRow lm_Re_43 li_Re_emitRow (nr rfl rfl) rfl rfl rfl (nl rfl) (re_emitRow hs4 hf ht (by omega) (by omega)) ?_
  rintro _ _ ⟨rfl, rfl⟩
  show rX E _ 29 [some (.inr (some E.1.length)), some (.inl f), some (.inl t)] [] _ _
  exact rrv dm_Re_beginEquation_29 rfl ⟨rfl, rfl⟩
/-- what is left of the type of = behind so many arguments -/
def eqT (a : List Int) : Nat → List Int
  | 0 => 0 :: (a ++ (0 :: (a ++ [1])))
  | 1 => 0 :: (a ++ [1])
  | _ => [1]
set_option maxHeartbeats 4000000 in
set_option maxRecDepth 100000 in
theorem re_equalAt_l {f g e : Int} {p : Nat} {a : List Int} (E : rE) (hf : f = p) (he : e = (p : Int) + (a.length : Int)) : ∀ (N k : Nat) (q : rS) (kk : Int), kk = k → k ≤ 2 → 2 ≤ k + N → sg q p a → e ≤ q 6 5 → q 6 5 + 2 * (a.length : Int) + 3 ≤ 10000 + (k : Int) * ((a.length : Int) + 1) → rX E mm_Re_equalAt 9 [some (.inr (some E.1.length)), some (.inl f), some (.inl g), some (.inl e), some (.inl kk)] [] q (fun r q' => r = none ∧ q' = emL q (eqT a k)) := by
  intro N
  induction N with
  | zero =>
    intro k q kk hk h2 hN hs h3 h4
    have hk2 : k = 2 := by omega
    subst hk2
    refine rx (xs_iload dm_Re_equalAt_9 rfl) ?_
    refine rx (xs_iconst dm_Re_equalAt_11) ?_
    refine rx (xs_icmp_ge_t (tgt := 32) dm_Re_equalAt_12 rfl (by unfold ir; omega) (by unfold ir; omega) (by omega)) ?_
    refine rx (xs_aload_n dm_Re_equalAt_32 rfl) ?_
    refine rx (xs_iconst dm_Re_equalAt_33) ?_
    refine rcV (as := [.inl 1]) (rest := []) dm_Re_equalAt_34 lc_Re_emit lm_Re_32 li_Re_emit (nr rfl rfl) rfl rfl rfl (nl rfl) (re_emit (x := 1) (by omega) (by omega)) ?_
    rintro _ _ ⟨rfl, rfl⟩
    show rX E _ 37 [some (.inr (some E.1.length)), some (.inl f), some (.inl g), some (.inl e), some (.inl kk)] [] _ _
    exact rrv dm_Re_equalAt_37 rfl ⟨rfl, rfl⟩
  | succ N ih =>
    intro k q kk hk h2 hN hs h3 h4
    by_cases hk2 : k = 2
    · subst hk2
      refine rx (xs_iload dm_Re_equalAt_9 rfl) ?_
      refine rx (xs_iconst dm_Re_equalAt_11) ?_
      refine rx (xs_icmp_ge_t (tgt := 32) dm_Re_equalAt_12 rfl (by unfold ir; omega) (by unfold ir; omega) (by omega)) ?_
      refine rx (xs_aload_n dm_Re_equalAt_32 rfl) ?_
      refine rx (xs_iconst dm_Re_equalAt_33) ?_
      refine rcV (as := [.inl 1]) (rest := []) dm_Re_equalAt_34 lc_Re_emit lm_Re_32 li_Re_emit (nr rfl rfl) rfl rfl rfl (nl rfl) (re_emit (x := 1) (by omega) (by omega)) ?_
      rintro _ _ ⟨rfl, rfl⟩
      show rX E _ 37 [some (.inr (some E.1.length)), some (.inl f), some (.inl g), some (.inl e), some (.inl kk)] [] _ _
      exact rrv dm_Re_equalAt_37 rfl ⟨rfl, rfl⟩
    · have h4b : q 6 5 + (a.length : Int) + 2 ≤ 10000 := by
        rcases (show k = 0 ∨ k = 1 by omega) with e0 | e0 <;> subst e0 <;> simp at h4 <;> omega
      refine rx (xs_iload dm_Re_equalAt_9 rfl) ?_
      refine rx (xs_iconst dm_Re_equalAt_11) ?_
      refine rx (xs_icmp_ge_f (tgt := 32) dm_Re_equalAt_12 rfl (by unfold ir; omega) (by unfold ir; omega) (by omega)) ?_
      refine rx (xs_aload_n dm_Re_equalAt_15 rfl) ?_
      refine rx (xs_iconst dm_Re_equalAt_16) ?_
      refine rcV (as := [.inl 0]) (rest := []) dm_Re_equalAt_17 lc_Re_emit lm_Re_32 li_Re_emit (nr rfl rfl) rfl rfl rfl (nl rfl) (re_emit (x := 0) (by omega) (by omega)) ?_
      rintro _ _ ⟨rfl, rfl⟩
      show rX E _ 20 [some (.inr (some E.1.length)), some (.inl f), some (.inl g), some (.inl e), some (.inl kk)] [] _ _
      refine rx (xs_aload_n dm_Re_equalAt_20 rfl) ?_
      refine rx (xs_iload_n dm_Re_equalAt_21 rfl) ?_
      refine rx (xs_iload_n dm_Re_equalAt_22 rfl) ?_
      have o1 := em_out q 0
      have hs1 : sg (em q 0) p a := emL_sgo (l := [0]) (by omega) hs (by omega)
      refine rcV (as := [.inl f, .inl e]) (rest := []) dm_Re_equalAt_23 lc_Re_emitRow lm_Re_43 li_Re_emitRow (nr rfl rfl) rfl rfl rfl (nl rfl) (re_emitRow hs1 hf he (by omega) (by omega)) ?_
      rintro _ _ ⟨rfl, rfl⟩
      show rX E _ 26 [some (.inr (some E.1.length)), some (.inl f), some (.inl g), some (.inl e), some (.inl kk)] [] _ _
      refine rx (xs_iinc dm_Re_equalAt_26 rfl (by decide)) ?_
      show rX E _ 29 [some (.inr (some E.1.length)), some (.inl f), some (.inl g), some (.inl e), some (.inl (kk + 1))] [] _ _
      refine rx (xs_goto (tgt := 9) dm_Re_equalAt_29 rfl) ?_
      have o2 := emL_out (em q 0) a
      refine rxq (ih (k + 1) (emL (em q 0) a) _ (by omega) (by omega) (by omega) (emL_sgo (by omega) hs1 (by omega)) (by omega) ?_) ?_
      · rcases (show k = 0 ∨ k = 1 by omega) with e0 | e0 <;> subst e0 <;> simp at h4 ⊢ <;> omega
      · rintro _ _ ⟨rfl, rfl⟩
        refine ⟨rfl, ?_⟩
        rcases (show k = 0 ∨ k = 1 by omega) with e0 | e0 <;> subst e0
        · show emL (emL (em q 0) a) (0 :: (a ++ [1])) = emL q (0 :: (a ++ (0 :: (a ++ [1]))))
          rw [emL_cons q, emL_app (em q 0)]
        · show emL (emL (em q 0) a) [1] = emL q (0 :: (a ++ [1]))
          rw [emL_cons q, emL_app (em q 0)]
set_option maxHeartbeats 4000000 in
set_option maxRecDepth 100000 in
theorem re_equalAt {q : rS} {f g : Int} {p k : Nat} {a : List Int} (hs : sg q p a) (ha : isTy a) (hf : f = p) (hg : g = k) (hk : k ≤ 2) (h3 : (p : Int) + (a.length : Int) ≤ q 6 5) (h4 : q 6 5 + 2 * (a.length : Int) + 3 ≤ 10000) : rM mm_Re_equalAt [.inl f, .inl g] q (fun r q' => r = none ∧ q' = emL q (eqT a k)) := by
  refine rm rfl (nl rfl) (fun E => ?_)
  show rX E _ 0 [some (.inr (some E.1.length)), some (.inl f), some (.inl g), none, none] [] _ _
  refine rx (xs_aload_n dm_Re_equalAt_0 rfl) ?_
  refine rx (xs_iload_n dm_Re_equalAt_1 rfl) ?_
  refine rcV (as := [.inl f]) (rest := []) dm_Re_equalAt_2 lc_Re_skipType lm_Re_36 li_Re_skipType (nr rfl rfl) rfl rfl rfl (nl rfl) (re_skipType hs ha hf (by omega)) ?_
  rintro _ q1 ⟨rfl, hq1⟩
  have hq1 := hq1.symm
  subst hq1
  show rX E _ 5 [some (.inr (some E.1.length)), some (.inl f), some (.inl g), none, none] [.inl ((p : Int) + (a.length : Int))] _ _
  refine rx (xs_istore_n dm_Re_equalAt_5 (by decide)) ?_
  show rX E _ 6 [some (.inr (some E.1.length)), some (.inl f), some (.inl g), some (.inl ((p : Int) + (a.length : Int))), none] [] _ _
  refine rx (xs_iload_n dm_Re_equalAt_6 rfl) ?_
  refine rx (xs_istore dm_Re_equalAt_7 (by decide)) ?_
  show rX E _ 9 [some (.inr (some E.1.length)), some (.inl f), some (.inl g), some (.inl ((p : Int) + (a.length : Int))), some (.inl g)] [] _ _
  have h5 : 0 ≤ (k : Int) * ((a.length : Int) + 1) := Int.mul_nonneg (by omega) (by omega)
  exact re_equalAt_l E hf rfl 2 k q _ hg hk (by omega) hs h3 (by omega)
end
section
/-! the reference's ways through a term -/
theorem drop_hd {t : List Int} {j : Nat} (h : j < t.length) : ∃ s, t[j]? = some s ∧ t.drop j = s :: t.drop (j + 1) := by
  refine ⟨t[j], List.getElem?_eq_getElem h, ?_⟩
  exact List.drop_eq_getElem_cons h
theorem sg_at {q : rS} {p j : Nat} {t : List Int} {s : Int} (h : sg q p t) (hj : t[j]? = some s) : q 0 (p + j) = s := h j s hj
theorem sg_drop {q : rS} {p : Nat} {t : List Int} (j : Nat) (h : sg q p t) : sg q (p + j) (t.drop j) := fun i x hx => by
  rw [List.getElem?_drop] at hx
  rw [← h _ x hx]
  congr 1
  omega
/-- a variable's row: its name and type -/
def vw (n : Int) (c : List Int) : List Int := 10 :: n :: c
theorem vw_ir {n : Int} {c : List Int} (hn : 0 ≤ n ∧ n ≤ 7) (hc : isTy c) : ∀ x ∈ vw n c, ir x := by
  intro x hx
  unfold vw at hx
  rcases List.mem_cons.mp hx with h | h
  · subst h; unfold ir; omega
  rcases List.mem_cons.mp h with h | h
  · subst h; unfold ir; omega
  · exact isTy_ir hc x h
set_option maxHeartbeats 4000000 in
set_option maxRecDepth 100000 in
theorem re_stands {q : rS} {f vf vt : Int} {pt pv j : Nat} {G : List (List Int)} {t a : List Int} {n : Int} {c : List Int} (hs : sg q pt t) (ht : isTm G t a) (hj : j < t.length) (hv : sg q pv (vw n c)) (hc : isTy c) (hn : 0 ≤ n ∧ n ≤ 7) (hf : f = (pt : Int) + (j : Int)) (hvf : vf = pv) (hvt : vt = (pv : Int) + 2 + (c.length : Int)) (h1 : pt + t.length ≤ 10000) (h2 : pv + 2 + c.length ≤ 10000) (hG : G.length ≤ 1000) : rM mm_Re_stands [.inl f, .inl vf, .inl vt] q (fun r q' => r = some (.inl (if (vw n c).isPrefixOf (t.drop j) = true then 1 else 0)) ∧ q' = q) := by
  refine rm rfl (nl rfl) (fun E => ?_)
  obtain ⟨s, hsj, hdj⟩ := drop_hd hj
  have hq := sg_at hs hsj
  have his : ir s := isTm_ir ht (by omega) s (List.mem_of_getElem? hsj)
  show rX E _ 0 [some (.inr (some E.1.length)), some (.inl f), some (.inl vf), some (.inl vt)] [] _ _
  refine rx (xs_aload_n dm_Re_stands_0 rfl) ?_
  refine rx (rg (v := .inr (some (rA E 0))) dm_Re_stands_1 lf_Re_7 rfl) ?_
  refine rx (xs_iload_n dm_Re_stands_4 rfl) ?_
  refine rx (rlv 0 s (by decide) dm_Re_stands_5 (by omega) (by show _ < ((10000 : Nat) : Int); omega) (by rw [← hq]; congr 1; omega)) ?_
  refine rx (xs_bipush dm_Re_stands_6 (by decide)) ?_
  refine xx_icmp_ne (tgt := 32) dm_Re_stands_8 rfl his (by unfold ir; omega) (fun hc1 => ?_) (fun hc1 => ?_)
  · change rX E _ 32 _ _ _ _
    refine rx (xs_iconst dm_Re_stands_32) ?_
    exact rrz dm_Re_stands_33 rfl (Or.inl rfl) ⟨vi (by rw [hdj, vw, pf_n hc1]; rfl), rfl⟩
  · change rX E _ 11 _ _ _ _
    subst hc1
    obtain ⟨m, c2, r, hc2, m0, m7, e⟩ := isTm_10 ht j hsj
    have hsd := sg_drop j hs
    rw [e] at hsd
    have hl := congrArg List.length e
    simp only [List.length_drop, List.length_cons, List.length_append] at hl
    have hs2 := (sg_app.mp (sg_tl (sg_tl hsd))).1
    have hs3 : sg q (pt + j) (vw m c2) := by
      have h9 : sg q (pt + j) (vw m c2 ++ r) := hsd
      exact (sg_app.mp h9).1
    refine rx (xs_aload_n dm_Re_stands_11 rfl) ?_
    refine rx (xs_iload_n dm_Re_stands_12 rfl) ?_
    refine rx (xs_aload_n dm_Re_stands_13 rfl) ?_
    refine rx (xs_iload_n dm_Re_stands_14 rfl) ?_
    refine rx (xs_iconst dm_Re_stands_15) ?_
    refine rx (xs_iadd dm_Re_stands_16) ?_
    refine rcV (as := [.inl (f + 2)]) (rest := [.inl f, .inr (some E.1.length)]) dm_Re_stands_17 lc_Re_skipType lm_Re_36 li_Re_skipType (nr rfl rfl) rfl rfl rfl (nl rfl) (re_skipType hs2 hc2 (by omega) (by omega)) ?_
    rintro _ q1 ⟨rfl, hq1⟩
    have hq1 := hq1.symm
    subst hq1
    show rX E _ 20 [some (.inr (some E.1.length)), some (.inl f), some (.inl vf), some (.inl vt)] [.inl (((pt + j + 1 + 1 : Nat) : Int) + (c2.length : Int)), .inl f, .inr (some E.1.length)] _ _
    refine rx (xs_iload_n dm_Re_stands_20 rfl) ?_
    refine rx (xs_iload_n dm_Re_stands_21 rfl) ?_
    refine rcV (as := [.inl f, .inl (((pt + j + 1 + 1 : Nat) : Int) + (c2.length : Int)), .inl vf, .inl vt]) (rest := []) dm_Re_stands_22 lc_Re_sameRow lm_Re_69 li_Re_sameRow (nr rfl rfl) rfl rfl rfl (nl rfl) (re_sameRow hs3 hv (by omega) (by simp [vw]; omega) hvf (by simp [vw]; omega) (by simp [vw]; omega) (by simp [vw]; omega) (vw_ir ⟨m0, m7⟩ hc2) (vw_ir hn hc)) ?_
    rintro _ q1 ⟨rfl, hq1⟩
    have hq1 := hq1.symm
    subst hq1
    show rX E _ 25 [some (.inr (some E.1.length)), some (.inl f), some (.inl vf), some (.inl vt)] [.inl (if vw m c2 = vw n c then 1 else 0)] _ _
    have hiff : (vw n c).isPrefixOf (t.drop j) = true ↔ vw m c2 = vw n c := by
      rw [e]
      unfold vw
      rw [pf_v hc hc2]
      constructor
      · rintro ⟨e1, e2⟩; rw [e1, e2]
      · intro e1; simp at e1; exact ⟨e1.1.symm, e1.2.symm⟩
    by_cases hE : vw m c2 = vw n c
    · rw [if_pos hE]
      refine rx (xs_if_eq_f (tgt := 32) dm_Re_stands_25 rfl (by unfold ir; omega) (by decide)) ?_
      refine rx (xs_iconst dm_Re_stands_28) ?_
      refine rx (xs_goto (tgt := 33) dm_Re_stands_29 rfl) ?_
      exact rrz dm_Re_stands_33 rfl (Or.inr rfl) ⟨vi (by rw [if_pos (hiff.mpr hE)]), rfl⟩
    · rw [if_neg hE]
      refine rx (xs_if_eq_t (tgt := 32) dm_Re_stands_25 rfl (by unfold ir; omega) rfl) ?_
      refine rx (xs_iconst dm_Re_stands_32) ?_
      exact rrz dm_Re_stands_33 rfl (Or.inl rfl) ⟨vi (by rw [if_neg (fun h => hE (hiff.mp h))]), rfl⟩
/-- the ends of the abstractions that begin ahead of a place -/
def eAt (t : List Int) : Nat → List Nat
  | 0 => []
  | j + 1 => if t[j]? = some 13 then (j + szT (t.drop j)) :: eAt t j else eAt t j
theorem eAt_low {t : List Int} {j : Nat} : ∀ (m : Nat), (∀ i, j ≤ i → i < j + m → t[i]? ≠ some 13) → eAt t (j + m) = eAt t j := by
  intro m
  induction m with
  | zero => intro _; rfl
  | succ m ih =>
    intro h
    have h1 := h (j + m) (by omega) (by omega)
    show eAt t (j + m + 1) = eAt t j
    rw [eAt, if_neg h1]
    exact ih (fun i h2 h3 => h i h2 (by omega))
theorem cnt_c (e : Nat) (E : List Nat) (j : Nat) : cnt (e :: E) j = cnt E j + (if j < e then 1 else 0) := by
  unfold cnt
  by_cases h : j < e
  · simp [h]
  · simp [h]
theorem cnt_le (E : List Nat) (j : Nat) : cnt E j ≤ E.length := List.length_filter_le _ _
theorem eAt_len (t : List Int) (j : Nat) : (eAt t j).length ≤ j := by
  induction j with
  | zero => simp [eAt]
  | succ j ih =>
    unfold eAt
    split
    · simp; omega
    · omega
set_option maxHeartbeats 4000000 in
set_option maxRecDepth 100000 in
theorem re_depth_l {q : rS} {f g : Int} {pt j : Nat} {G : List (List Int)} {t a : List Int} (E : rE) (hs : sg q pt t) (ht : isTm G t a) (hj : j ≤ t.length) (hf : f = pt) (hg : g = (pt : Int) + (j : Int)) (h1 : pt + t.length ≤ 10000) (hG : G.length ≤ 1000) : ∀ (N i : Nat) (nn kk : Int), j - i < N → i ≤ j → nn = (cnt (eAt t i) j : Int) → kk = (pt : Int) + (i : Int) → rX E mm_Re_depth 5 [some (.inr (some E.1.length)), some (.inl f), some (.inl g), some (.inl nn), some (.inl kk)] [] q (fun r q' => r = some (.inl (cnt (eAt t j) j : Int)) ∧ q' = q) := by
  intro N
  induction N with
  | zero => intro i nn kk hN; omega
  | succ N ih =>
    intro i nn kk hN hi hnn hkk
    have hcl := cnt_le (eAt t i) j
    have hel := eAt_len t i
    by_cases hij : i = j
    · subst hij
      refine rx (xs_iload dm_Re_depth_5 rfl) ?_
      refine rx (xs_iload_n dm_Re_depth_7 rfl) ?_
      refine rx (xs_icmp_ge_t (tgt := 47) dm_Re_depth_8 rfl (by unfold ir; omega) (by unfold ir; omega) (by omega)) ?_
      refine rx (xs_iload_n dm_Re_depth_47 rfl) ?_
      exact rri dm_Re_depth_48 rfl ⟨vi hnn, rfl⟩
    · obtain ⟨s, hsj, hdj⟩ := drop_hd (t := t) (j := i) (by omega)
      have hq := sg_at hs hsj
      have his : ir s := isTm_ir ht (by omega) s (List.mem_of_getElem? hsj)
      refine rx (xs_iload dm_Re_depth_5 rfl) ?_
      refine rx (xs_iload_n dm_Re_depth_7 rfl) ?_
      refine rx (xs_icmp_ge_f (tgt := 47) dm_Re_depth_8 rfl (by unfold ir; omega) (by unfold ir; omega) (by omega)) ?_
      refine rx (xs_aload_n dm_Re_depth_11 rfl) ?_
      refine rx (rg (v := .inr (some (rA E 0))) dm_Re_depth_12 lf_Re_7 rfl) ?_
      refine rx (xs_iload dm_Re_depth_15 rfl) ?_
      refine rx (rlv 0 s (by decide) dm_Re_depth_17 (by omega) (by show _ < ((10000 : Nat) : Int); omega) (by rw [← hq]; congr 1; omega)) ?_
      refine rx (xs_bipush dm_Re_depth_18 (by decide)) ?_
      refine xx_icmp_ne (tgt := 41) dm_Re_depth_20 rfl his (by unfold ir; omega) (fun hc => ?_) (fun hc => ?_)
      · change rX E _ 41 _ _ _ _
        refine rx (xs_iinc dm_Re_depth_41 rfl (by decide)) ?_
        show rX E _ 44 [some (.inr (some E.1.length)), some (.inl f), some (.inl g), some (.inl nn), some (.inl (kk + 1))] [] _ _
        refine rx (xs_goto (tgt := 5) dm_Re_depth_44 rfl) ?_
        exact ih (i + 1) _ _ (by omega) (by omega) (by rw [eAt, if_neg (by rw [hsj]; intro h; exact hc (Option.some.inj h))]; exact hnn) (by omega)
      · change rX E _ 23 _ _ _ _
        subst hc
        obtain ⟨D, u, b, r, hu, e, hr, hD⟩ := isTm_13 ht i hsj
        have hsd := sg_drop i hs
        rw [e] at hsd
        have hsu := (sg_app.mp hsd).1
        have hl := congrArg List.length e
        simp only [List.length_drop, List.length_append] at hl
        have hz : szT (t.drop i) = u.length := by rw [e]; exact szT_tm hu hr
        have hE : eAt t (i + 1) = (i + u.length) :: eAt t i := by rw [eAt, if_pos hsj, hz]
        refine rx (xs_iload_n dm_Re_depth_23 rfl) ?_
        refine rx (xs_aload_n dm_Re_depth_24 rfl) ?_
        refine rx (xs_iload dm_Re_depth_25 rfl) ?_
        refine rcV (as := [.inl kk]) (rest := [.inl nn]) dm_Re_depth_27 lc_Re_skipTerm lm_Re_40 li_Re_skipTerm (nr rfl rfl) rfl rfl rfl (nl rfl) (re_skipTerm hsu hu (by omega) (by omega) (by omega)) ?_
        rintro _ q1 ⟨rfl, hq1⟩
        have hq1 := hq1.symm
        subst hq1
        show rX E _ 30 [some (.inr (some E.1.length)), some (.inl f), some (.inl g), some (.inl nn), some (.inl kk)] [.inl (((pt + i : Nat) : Int) + (u.length : Int)), .inl nn] _ _
        refine rx (xs_iload_n dm_Re_depth_30 rfl) ?_
        refine xx_icmp_le (tgt := 38) dm_Re_depth_31 rfl (by unfold ir; omega) (by unfold ir; omega) (fun hc2 => ?_) (fun hc2 => ?_)
        · change rX E _ 38 _ _ _ _
          refine rx (xs_iconst dm_Re_depth_38) ?_
          refine rx (xs_iadd dm_Re_depth_39) ?_
          refine rx (xs_istore_n dm_Re_depth_40 (by decide)) ?_
          show rX E _ 41 [some (.inr (some E.1.length)), some (.inl f), some (.inl g), some (.inl (nn + 0)), some (.inl kk)] [] _ _
          refine rx (xs_iinc dm_Re_depth_41 rfl (by decide)) ?_
          show rX E _ 44 [some (.inr (some E.1.length)), some (.inl f), some (.inl g), some (.inl (nn + 0)), some (.inl (kk + 1))] [] _ _
          refine rx (xs_goto (tgt := 5) dm_Re_depth_44 rfl) ?_
          exact ih (i + 1) _ _ (by omega) (by omega) (by rw [hE, cnt_c, if_neg (by omega)]; omega) (by omega)
        · change rX E _ 34 _ _ _ _
          refine rx (xs_iconst dm_Re_depth_34) ?_
          refine rx (xs_goto (tgt := 39) dm_Re_depth_35 rfl) ?_
          refine rx (xs_iadd dm_Re_depth_39) ?_
          refine rx (xs_istore_n dm_Re_depth_40 (by decide)) ?_
          show rX E _ 41 [some (.inr (some E.1.length)), some (.inl f), some (.inl g), some (.inl (nn + 1)), some (.inl kk)] [] _ _
          refine rx (xs_iinc dm_Re_depth_41 rfl (by decide)) ?_
          show rX E _ 44 [some (.inr (some E.1.length)), some (.inl f), some (.inl g), some (.inl (nn + 1)), some (.inl (kk + 1))] [] _ _
          refine rx (xs_goto (tgt := 5) dm_Re_depth_44 rfl) ?_
          exact ih (i + 1) _ _ (by omega) (by omega) (by rw [hE, cnt_c, if_pos (by omega)]; omega) (by omega)
set_option maxHeartbeats 4000000 in
set_option maxRecDepth 100000 in
theorem re_depth {q : rS} {f g : Int} {pt j : Nat} {G : List (List Int)} {t a : List Int} (hs : sg q pt t) (ht : isTm G t a) (hj : j ≤ t.length) (hf : f = pt) (hg : g = (pt : Int) + (j : Int)) (h1 : pt + t.length ≤ 10000) (hG : G.length ≤ 1000) : rM mm_Re_depth [.inl f, .inl g] q (fun r q' => r = some (.inl (cnt (eAt t j) j : Int)) ∧ q' = q) := by
  refine rm rfl (nl rfl) (fun E => ?_)
  show rX E _ 0 [some (.inr (some E.1.length)), some (.inl f), some (.inl g), none, none] [] _ _
  refine rx (xs_iconst dm_Re_depth_0) ?_
  refine rx (xs_istore_n dm_Re_depth_1 (by decide)) ?_
  show rX E _ 2 [some (.inr (some E.1.length)), some (.inl f), some (.inl g), some (.inl 0), none] [] _ _
  refine rx (xs_iload_n dm_Re_depth_2 rfl) ?_
  refine rx (xs_istore dm_Re_depth_3 (by decide)) ?_
  show rX E _ 5 [some (.inr (some E.1.length)), some (.inl f), some (.inl g), some (.inl 0), some (.inl f)] [] _ _
  exact re_depth_l E hs ht hj hf hg h1 hG (j + 1) 0 _ _ (by omega) (by omega) rfl (by omega)
theorem absR_hit {n : Int} {c t r : List Int} {j : Nat} (hn : n < 10) (hc : isTy c) (e : t.drop j = vw n c ++ r) : absR (vw n c) (t.drop j) j (eAt t j) 0 = (20 + (cnt (eAt t j) j : Int)) :: absR (vw n c) (t.drop (j + (2 + c.length))) (j + (2 + c.length)) (eAt t (j + (2 + c.length))) 0 := by
  have h1 : (vw n c).isPrefixOf (vw n c ++ r) = true := by rw [List.isPrefixOf_iff_prefix]; exact ⟨r, rfl⟩
  have hlow : ∀ s ∈ n :: c, s < 10 := abs_low hn hc
  have h2 := absR_skip (n := n) (c := c) hlow r (eAt t j) (j + 1)
  have hd : t.drop (j + (2 + c.length)) = r := by
    rw [← List.drop_drop, e]
    simp [vw]
    rw [show 2 + c.length = c.length + 1 + 1 by omega]
    simp
  have hE : eAt t (j + (2 + c.length)) = eAt t j := by
    refine eAt_low _ (fun i h3 h4 h5 => ?_)
    have h6 : (t.drop j)[i - j]? = some 13 := by rw [List.getElem?_drop, show j + (i - j) = i by omega]; exact h5
    rw [e, List.getElem?_append_left (by simp [vw]; omega)] at h6
    have h7 := List.mem_of_getElem? h6
    unfold vw at h7
    rcases List.mem_cons.mp h7 with h8 | h8
    · exact absurd h8 (by decide)
    · have := hlow 13 h8; omega
  rw [hd, hE, e]
  unfold vw at h1 h2 ⊢
  simp only [List.cons_append] at h1 h2 ⊢
  rw [absR, if_pos rfl, if_pos h1, if_neg (by decide)]
  simp only [List.length_cons, Nat.add_sub_cancel] at h2 ⊢
  rw [h2]
  congr 2
  omega
theorem absR_miss {n : Int} {c t : List Int} {j : Nat} {s : Int} (hsj : t[j]? = some s) (hdj : t.drop j = s :: t.drop (j + 1)) (h : ¬ (vw n c).isPrefixOf (t.drop j) = true) : absR (vw n c) (t.drop j) j (eAt t j) 0 = s :: absR (vw n c) (t.drop (j + 1)) (j + 1) (eAt t (j + 1)) 0 := by
  have hE : eAt t (j + 1) = (if s = 13 then (j + szT (s :: t.drop (j + 1))) :: eAt t j else eAt t j) := by
    rw [eAt, hsj, hdj]
    by_cases hs : s = 13
    · simp [hs]
    · simp [hs]
  rw [hE]
  rw [hdj] at h ⊢
  rw [absR, if_pos rfl, if_neg h]
set_option maxHeartbeats 4000000 in
set_option maxRecDepth 100000 in
theorem re_emitAbs_l {vf vt f g : Int} {pt pv : Nat} {t a c : List Int} {n : Int} (E : rE) (ht : isTm [] t a) (hc : isTy c) (hn : 0 ≤ n ∧ n ≤ 7) (hf : f = pt) (hg : g = (pt : Int) + (t.length : Int)) (hvf : vf = pv) (hvt : vt = (pv : Int) + 2 + (c.length : Int)) (h1 : pt + t.length ≤ 10000) (h2 : pv + 2 + c.length ≤ 10000) : ∀ (N j : Nat) (q : rS) (kk : Int), t.length - j < N → j ≤ t.length → kk = (pt : Int) + (j : Int) → sg q pt t → sg q pv (vw n c) → (pt : Int) + (t.length : Int) ≤ q 6 5 → (pv : Int) + 2 + (c.length : Int) ≤ q 6 5 → q 6 5 + ((t.length : Int) - (j : Int)) ≤ 10000 → rX E mm_Re_emitAbs 17 [some (.inr (some E.1.length)), some (.inl vf), some (.inl vt), some (.inl f), some (.inl g), some (.inl kk)] [] q (fun r q' => r = none ∧ q' = emL q (absR (vw n c) (t.drop j) j (eAt t j) 0)) := by
  intro N
  induction N with
  | zero => intro j q kk hN; omega
  | succ N ih =>
    intro j q kk hN hj hkk hs hv h3 h4 h5
    by_cases hjt : j = t.length
    · subst hjt
      refine rx (xs_iload dm_Re_emitAbs_17 rfl) ?_
      refine rx (xs_iload dm_Re_emitAbs_19 rfl) ?_
      refine rx (xs_icmp_ge_t (tgt := 77) dm_Re_emitAbs_21 rfl (by unfold ir; omega) (by unfold ir; omega) (by omega)) ?_
      exact rrv dm_Re_emitAbs_77 rfl ⟨rfl, by rw [List.drop_eq_nil_of_le (Nat.le_refl _)]; rfl⟩
    · obtain ⟨s, hsj, hdj⟩ := drop_hd (t := t) (j := j) (by omega)
      have hq := sg_at hs hsj
      refine rx (xs_iload dm_Re_emitAbs_17 rfl) ?_
      refine rx (xs_iload dm_Re_emitAbs_19 rfl) ?_
      refine rx (xs_icmp_ge_f (tgt := 77) dm_Re_emitAbs_21 rfl (by unfold ir; omega) (by unfold ir; omega) (by omega)) ?_
      refine rx (xs_aload_n dm_Re_emitAbs_24 rfl) ?_
      refine rx (xs_iload dm_Re_emitAbs_25 rfl) ?_
      refine rx (xs_iload_n dm_Re_emitAbs_27 rfl) ?_
      refine rx (xs_iload_n dm_Re_emitAbs_28 rfl) ?_
      refine rcV (as := [.inl kk, .inl vf, .inl vt]) (rest := []) dm_Re_emitAbs_29 lc_Re_stands lm_Re_119 li_Re_stands (nr rfl rfl) rfl rfl rfl (nl rfl) (re_stands (j := j) hs ht (by omega) hv hc hn (by omega) hvf hvt h1 h2 (by simp)) ?_
      rintro _ q1 ⟨rfl, hq1⟩
      have hq1 := hq1.symm
      subst hq1
      show rX E _ 32 [some (.inr (some E.1.length)), some (.inl vf), some (.inl vt), some (.inl f), some (.inl g), some (.inl kk)] [.inl (if (vw n c).isPrefixOf (t.drop j) = true then 1 else 0)] _ _
      by_cases hP : (vw n c).isPrefixOf (t.drop j) = true
      · rw [if_pos hP]
        refine rx (xs_if_eq_f (tgt := 60) dm_Re_emitAbs_32 rfl (by unfold ir; omega) (by decide)) ?_
        refine rx (xs_aload_n dm_Re_emitAbs_35 rfl) ?_
        refine rx (xs_bipush dm_Re_emitAbs_36 (by decide)) ?_
        refine rx (xs_aload_n dm_Re_emitAbs_38 rfl) ?_
        refine rx (xs_iload_n dm_Re_emitAbs_39 rfl) ?_
        refine rx (xs_iload dm_Re_emitAbs_40 rfl) ?_
        refine rcV (as := [.inl f, .inl kk]) (rest := [.inl 20, .inr (some E.1.length)]) dm_Re_emitAbs_42 lc_Re_depth lm_Re_123 li_Re_depth (nr rfl rfl) rfl rfl rfl (nl rfl) (re_depth hs ht hj hf (by omega) h1 (by simp)) ?_
        rintro _ q1 ⟨rfl, hq1⟩
        have hq1 := hq1.symm
        subst hq1
        show rX E _ 45 [some (.inr (some E.1.length)), some (.inl vf), some (.inl vt), some (.inl f), some (.inl g), some (.inl kk)] [.inl (cnt (eAt t j) j : Int), .inl 20, .inr (some E.1.length)] _ _
        refine rx (xs_iadd dm_Re_emitAbs_45) ?_
        obtain ⟨r, er⟩ := List.isPrefixOf_iff_prefix.mp hP
        have hl := congrArg List.length er
        simp only [List.length_drop, List.length_append, vw, List.length_cons] at hl
        have o1 := em_out q (20 + (cnt (eAt t j) j : Int))
        refine rcV (as := [.inl (20 + (cnt (eAt t j) j : Int))]) (rest := []) dm_Re_emitAbs_46 lc_Re_emit lm_Re_32 li_Re_emit (nr rfl rfl) rfl rfl rfl (nl rfl) (re_emit (x := 20 + (cnt (eAt t j) j : Int)) (by omega) (by omega)) ?_
        rintro _ _ ⟨rfl, rfl⟩
        show rX E _ 49 [some (.inr (some E.1.length)), some (.inl vf), some (.inl vt), some (.inl f), some (.inl g), some (.inl kk)] [] _ _
        refine rx (xs_iload dm_Re_emitAbs_49 rfl) ?_
        refine rx (xs_iload_n dm_Re_emitAbs_51 rfl) ?_
        refine rx (xs_iload_n dm_Re_emitAbs_52 rfl) ?_
        refine rx (xs_isub dm_Re_emitAbs_53) ?_
        refine rx (xs_iadd dm_Re_emitAbs_54) ?_
        refine rx (xs_istore dm_Re_emitAbs_55 (by decide)) ?_
        show rX E _ 57 [some (.inr (some E.1.length)), some (.inl vf), some (.inl vt), some (.inl f), some (.inl g), some (.inl (kk + (vt - vf)))] [] _ _
        refine rx (xs_goto (tgt := 17) dm_Re_emitAbs_57 rfl) ?_
        rw [absR_hit (by omega) hc er.symm]
        refine rxq (ih (j + (2 + c.length)) _ _ (by omega) (by omega) (by omega) (emL_sgo (l := [20 + (cnt (eAt t j) j : Int)]) (by omega) hs (by omega)) (emL_sgo (l := [20 + (cnt (eAt t j) j : Int)]) (by omega) hv (by simp [vw]; omega)) (by omega) (by omega) (by omega)) ?_
        rintro _ _ ⟨rfl, rfl⟩
        exact ⟨rfl, rfl⟩
      · rw [if_neg hP]
        refine rx (xs_if_eq_t (tgt := 60) dm_Re_emitAbs_32 rfl (by unfold ir; omega) rfl) ?_
        refine rx (xs_aload_n dm_Re_emitAbs_60 rfl) ?_
        refine rx (xs_aload_n dm_Re_emitAbs_61 rfl) ?_
        refine rx (rg (v := .inr (some (rA E 0))) dm_Re_emitAbs_62 lf_Re_7 rfl) ?_
        refine rx (xs_iload dm_Re_emitAbs_65 rfl) ?_
        refine rx (rlv 0 s (by decide) dm_Re_emitAbs_67 (by omega) (by show _ < ((10000 : Nat) : Int); omega) (by rw [← hq]; congr 1; omega)) ?_
        have o1 := em_out q s
        refine rcV (as := [.inl s]) (rest := []) dm_Re_emitAbs_68 lc_Re_emit lm_Re_32 li_Re_emit (nr rfl rfl) rfl rfl rfl (nl rfl) (re_emit (x := s) (by omega) (by omega)) ?_
        rintro _ _ ⟨rfl, rfl⟩
        show rX E _ 71 [some (.inr (some E.1.length)), some (.inl vf), some (.inl vt), some (.inl f), some (.inl g), some (.inl kk)] [] _ _
        refine rx (xs_iinc dm_Re_emitAbs_71 rfl (by decide)) ?_
        show rX E _ 74 [some (.inr (some E.1.length)), some (.inl vf), some (.inl vt), some (.inl f), some (.inl g), some (.inl (kk + 1))] [] _ _
        refine rx (xs_goto (tgt := 17) dm_Re_emitAbs_74 rfl) ?_
        rw [absR_miss hsj hdj hP]
        refine rxq (ih (j + 1) _ _ (by omega) (by omega) (by omega) (emL_sgo (l := [s]) (by omega) hs (by omega)) (emL_sgo (l := [s]) (by omega) hv (by simp [vw]; omega)) (by omega) (by omega) (by omega)) ?_
        rintro _ _ ⟨rfl, rfl⟩
        exact ⟨rfl, rfl⟩
set_option maxHeartbeats 4000000 in
set_option maxRecDepth 100000 in
theorem re_emitAbs {q : rS} {vf vt f g : Int} {pt pv : Nat} {t a c : List Int} {n : Int} (hs : sg q pt t) (hv : sg q pv (vw n c)) (ht : isTm [] t a) (hc : isTy c) (hn : 0 ≤ n ∧ n ≤ 7) (hf : f = pt) (hg : g = (pt : Int) + (t.length : Int)) (hvf : vf = pv) (hvt : vt = (pv : Int) + 2 + (c.length : Int)) (h1 : (pt : Int) + (t.length : Int) ≤ q 6 5) (h2 : (pv : Int) + 2 + (c.length : Int) ≤ q 6 5) (h3 : q 6 5 + 1 + (c.length : Int) + (t.length : Int) ≤ 10000) : rM mm_Re_emitAbs [.inl vf, .inl vt, .inl f, .inl g] q (fun r q' => r = none ∧ q' = emL q (13 :: (c ++ absC (vw n c) t ([], 1) 0))) := by
  refine rm rfl (nl rfl) (fun E => ?_)
  show rX E _ 0 [some (.inr (some E.1.length)), some (.inl vf), some (.inl vt), some (.inl f), some (.inl g), none] [] _ _
  refine rx (xs_aload_n dm_Re_emitAbs_0 rfl) ?_
  refine rx (xs_bipush dm_Re_emitAbs_1 (by decide)) ?_
  refine rcV (as := [.inl 13]) (rest := []) dm_Re_emitAbs_3 lc_Re_emit lm_Re_32 li_Re_emit (nr rfl rfl) rfl rfl rfl (nl rfl) (re_emit (x := 13) (by omega) (by omega)) ?_
  rintro _ _ ⟨rfl, rfl⟩
  show rX E _ 6 [some (.inr (some E.1.length)), some (.inl vf), some (.inl vt), some (.inl f), some (.inl g), none] [] _ _
  refine rx (xs_aload_n dm_Re_emitAbs_6 rfl) ?_
  refine rx (xs_iload_n dm_Re_emitAbs_7 rfl) ?_
  refine rx (xs_iconst dm_Re_emitAbs_8) ?_
  refine rx (xs_iadd dm_Re_emitAbs_9) ?_
  refine rx (xs_iload_n dm_Re_emitAbs_10 rfl) ?_
  have o1 := em_out q 13
  have hv1 : sg (em q 13) pv (vw n c) := emL_sgo (l := [13]) (by omega) hv (by simp [vw]; omega)
  have hs1 : sg (em q 13) pt t := emL_sgo (l := [13]) (by omega) hs (by omega)
  refine rcV (as := [.inl (vf + 2), .inl vt]) (rest := []) dm_Re_emitAbs_11 lc_Re_emitRow lm_Re_43 li_Re_emitRow (nr rfl rfl) rfl rfl rfl (nl rfl) (re_emitRow (p := pv + 1 + 1) (l := c) (sg_tl (sg_tl hv1)) (by omega) (by omega) (by omega) (by omega)) ?_
  rintro _ _ ⟨rfl, rfl⟩
  show rX E _ 14 [some (.inr (some E.1.length)), some (.inl vf), some (.inl vt), some (.inl f), some (.inl g), none] [] _ _
  refine rx (xs_iload_n dm_Re_emitAbs_14 rfl) ?_
  refine rx (xs_istore dm_Re_emitAbs_15 (by decide)) ?_
  show rX E _ 17 [some (.inr (some E.1.length)), some (.inl vf), some (.inl vt), some (.inl f), some (.inl g), some (.inl f)] [] _ _
  have o2 := emL_out (em q 13) c
  have e := (abs_ok (n := n) (by omega) hc ht).2
  refine rxq (re_emitAbs_l E ht hc hn hf hg hvf hvt (by omega) (by omega) (t.length + 1) 0 (emL (em q 13) c) _ (by omega) (by omega) (by omega) (emL_sgo (by omega) hs1 (by omega)) (emL_sgo (by omega) hv1 (by simp [vw]; omega)) (by omega) (by omega) (by omega)) ?_
  rintro _ _ ⟨rfl, rfl⟩
  refine ⟨rfl, ?_⟩
  rw [emL_cons, emL_app, List.drop_zero]
  show emL (emL (em q 13) c) (absR (10 :: n :: c) t 0 [] 0) = _
  rw [e]
  rfl
end
section
theorem rplC_hit {n : Int} {c u t r : List Int} {j : Nat} (hn : n < 10) (hc : isTy c) (e : t.drop j = vw n c ++ r) : rplC (vw n c) u (t.drop j) 0 = u ++ rplC (vw n c) u (t.drop (j + (2 + c.length))) 0 := by
  have hd : t.drop (j + (2 + c.length)) = r := by
    rw [← List.drop_drop, e]
    simp [vw]
    rw [show 2 + c.length = c.length + 1 + 1 by omega]
    simp
  rw [hd, e]
  exact rpl_hit hn hc r
theorem rplC_miss {n : Int} {c u t : List Int} {j : Nat} {s : Int} (hdj : t.drop j = s :: t.drop (j + 1)) (h : ¬ (vw n c).isPrefixOf (t.drop j) = true) : rplC (vw n c) u (t.drop j) 0 = s :: rplC (vw n c) u (t.drop (j + 1)) 0 := by
  rw [hdj] at h ⊢
  rw [rplC, if_neg h, if_pos rfl]
set_option maxHeartbeats 4000000 in
set_option maxRecDepth 100000 in
theorem re_replaced_l {vf vt f g uf ut : Int} {pt pv pu : Nat} {t a c u : List Int} {n : Int} (E : rE) (ht : isTm [] t a) (hc : isTy c) (hn : 0 ≤ n ∧ n ≤ 7) (hf : f = pt) (hg : g = (pt : Int) + (t.length : Int)) (hvf : vf = pv) (hvt : vt = (pv : Int) + 2 + (c.length : Int)) (huf : uf = pu) (hut : ut = (pu : Int) + (u.length : Int)) (h1 : pt + t.length ≤ 10000) (h2 : pv + 2 + c.length ≤ 10000) (hul : u.length ≤ 40) : ∀ (N j : Nat) (q : rS) (kk : Int), t.length - j < N → j ≤ t.length → kk = (pt : Int) + (j : Int) → sg q pt t → sg q pv (vw n c) → sg q pu u → (pt : Int) + (t.length : Int) ≤ q 6 5 → (pv : Int) + 2 + (c.length : Int) ≤ q 6 5 → (pu : Int) + (u.length : Int) ≤ q 6 5 → q 6 5 + 40 * ((t.length : Int) - (j : Int)) ≤ 10000 → rX E mm_Re_replaced 3 [some (.inr (some E.1.length)), some (.inl f), some (.inl g), some (.inl vf), some (.inl vt), some (.inl uf), some (.inl ut), some (.inl kk)] [] q (fun r q' => r = none ∧ q' = emL q (rplC (vw n c) u (t.drop j) 0)) := by
  intro N
  induction N with
  | zero => intro j q kk hN; omega
  | succ N ih =>
    intro j q kk hN hj hkk hs hv hu h3 h4 h6 h5
    by_cases hjt : j = t.length
    · subst hjt
      refine rx (xs_iload dm_Re_replaced_3 rfl) ?_
      refine rx (xs_iload_n dm_Re_replaced_5 rfl) ?_
      refine rx (xs_icmp_ge_t (tgt := 58) dm_Re_replaced_6 rfl (by unfold ir; omega) (by unfold ir; omega) (by omega)) ?_
      exact rrv dm_Re_replaced_58 rfl ⟨rfl, by rw [List.drop_eq_nil_of_le (Nat.le_refl _)]; rfl⟩
    · obtain ⟨s, hsj, hdj⟩ := drop_hd (t := t) (j := j) (by omega)
      have hq := sg_at hs hsj
      refine rx (xs_iload dm_Re_replaced_3 rfl) ?_
      refine rx (xs_iload_n dm_Re_replaced_5 rfl) ?_
      refine rx (xs_icmp_ge_f (tgt := 58) dm_Re_replaced_6 rfl (by unfold ir; omega) (by unfold ir; omega) (by omega)) ?_
      refine rx (xs_aload_n dm_Re_replaced_9 rfl) ?_
      refine rx (xs_iload dm_Re_replaced_10 rfl) ?_
      refine rx (xs_iload_n dm_Re_replaced_12 rfl) ?_
      refine rx (xs_iload dm_Re_replaced_13 rfl) ?_
      refine rcV (as := [.inl kk, .inl vf, .inl vt]) (rest := []) dm_Re_replaced_15 lc_Re_stands lm_Re_119 li_Re_stands (nr rfl rfl) rfl rfl rfl (nl rfl) (re_stands (j := j) hs ht (by omega) hv hc hn (by omega) hvf hvt h1 h2 (by simp)) ?_
      rintro _ q1 ⟨rfl, hq1⟩
      have hq1 := hq1.symm
      subst hq1
      show rX E _ 18 [some (.inr (some E.1.length)), some (.inl f), some (.inl g), some (.inl vf), some (.inl vt), some (.inl uf), some (.inl ut), some (.inl kk)] [.inl (if (vw n c).isPrefixOf (t.drop j) = true then 1 else 0)] _ _
      by_cases hP : (vw n c).isPrefixOf (t.drop j) = true
      · rw [if_pos hP]
        refine rx (xs_if_eq_f (tgt := 41) dm_Re_replaced_18 rfl (by unfold ir; omega) (by decide)) ?_
        refine rx (xs_aload_n dm_Re_replaced_21 rfl) ?_
        refine rx (xs_iload dm_Re_replaced_22 rfl) ?_
        refine rx (xs_iload dm_Re_replaced_24 rfl) ?_
        obtain ⟨r, er⟩ := List.isPrefixOf_iff_prefix.mp hP
        have hl := congrArg List.length er
        simp only [List.length_drop, List.length_append, vw, List.length_cons] at hl
        have o1 := emL_out q u
        refine rcV (as := [.inl uf, .inl ut]) (rest := []) dm_Re_replaced_26 lc_Re_emitRow lm_Re_43 li_Re_emitRow (nr rfl rfl) rfl rfl rfl (nl rfl) (re_emitRow hu huf hut (by omega) (by omega)) ?_
        rintro _ _ ⟨rfl, rfl⟩
        show rX E _ 29 [some (.inr (some E.1.length)), some (.inl f), some (.inl g), some (.inl vf), some (.inl vt), some (.inl uf), some (.inl ut), some (.inl kk)] [] _ _
        refine rx (xs_iload dm_Re_replaced_29 rfl) ?_
        refine rx (xs_iload dm_Re_replaced_31 rfl) ?_
        refine rx (xs_iload_n dm_Re_replaced_33 rfl) ?_
        refine rx (xs_isub dm_Re_replaced_34) ?_
        refine rx (xs_iadd dm_Re_replaced_35) ?_
        refine rx (xs_istore dm_Re_replaced_36 (by decide)) ?_
        show rX E _ 38 [some (.inr (some E.1.length)), some (.inl f), some (.inl g), some (.inl vf), some (.inl vt), some (.inl uf), some (.inl ut), some (.inl (kk + (vt - vf)))] [] _ _
        refine rx (xs_goto (tgt := 3) dm_Re_replaced_38 rfl) ?_
        rw [rplC_hit (by omega) hc er.symm, emL_app]
        exact ih (j + (2 + c.length)) _ _ (by omega) (by omega) (by omega) (emL_sgo (by omega) hs (by omega)) (emL_sgo (by omega) hv (by simp [vw]; omega)) (emL_sgo (by omega) hu (by omega)) (by omega) (by omega) (by omega) (by omega)
      · rw [if_neg hP]
        refine rx (xs_if_eq_t (tgt := 41) dm_Re_replaced_18 rfl (by unfold ir; omega) rfl) ?_
        refine rx (xs_aload_n dm_Re_replaced_41 rfl) ?_
        refine rx (xs_aload_n dm_Re_replaced_42 rfl) ?_
        refine rx (rg (v := .inr (some (rA E 0))) dm_Re_replaced_43 lf_Re_7 rfl) ?_
        refine rx (xs_iload dm_Re_replaced_46 rfl) ?_
        refine rx (rlv 0 s (by decide) dm_Re_replaced_48 (by omega) (by show _ < ((10000 : Nat) : Int); omega) (by rw [← hq]; congr 1; omega)) ?_
        have o1 := em_out q s
        refine rcV (as := [.inl s]) (rest := []) dm_Re_replaced_49 lc_Re_emit lm_Re_32 li_Re_emit (nr rfl rfl) rfl rfl rfl (nl rfl) (re_emit (x := s) (by omega) (by omega)) ?_
        rintro _ _ ⟨rfl, rfl⟩
        show rX E _ 52 [some (.inr (some E.1.length)), some (.inl f), some (.inl g), some (.inl vf), some (.inl vt), some (.inl uf), some (.inl ut), some (.inl kk)] [] _ _
        refine rx (xs_iinc dm_Re_replaced_52 rfl (by decide)) ?_
        show rX E _ 55 [some (.inr (some E.1.length)), some (.inl f), some (.inl g), some (.inl vf), some (.inl vt), some (.inl uf), some (.inl ut), some (.inl (kk + 1))] [] _ _
        refine rx (xs_goto (tgt := 3) dm_Re_replaced_55 rfl) ?_
        rw [rplC_miss hdj hP, emL_cons]
        exact ih (j + 1) _ _ (by omega) (by omega) (by omega) (emL_sgo (l := [s]) (by omega) hs (by omega)) (emL_sgo (l := [s]) (by omega) hv (by simp [vw]; omega)) (emL_sgo (l := [s]) (by omega) hu (by omega)) (by omega) (by omega) (by omega) (by omega)
set_option maxHeartbeats 4000000 in
set_option maxRecDepth 100000 in
theorem re_replaced {q : rS} {vf vt f g uf ut : Int} {pt pv pu : Nat} {t a c u : List Int} {n : Int} (hs : sg q pt t) (hv : sg q pv (vw n c)) (hu : sg q pu u) (ht : isTm [] t a) (hc : isTy c) (hn : 0 ≤ n ∧ n ≤ 7) (hf : f = pt) (hg : g = (pt : Int) + (t.length : Int)) (hvf : vf = pv) (hvt : vt = (pv : Int) + 2 + (c.length : Int)) (huf : uf = pu) (hut : ut = (pu : Int) + (u.length : Int)) (hul : u.length ≤ 40) (h3 : (pt : Int) + (t.length : Int) ≤ q 6 5) (h4 : (pv : Int) + 2 + (c.length : Int) ≤ q 6 5) (h6 : (pu : Int) + (u.length : Int) ≤ q 6 5) (h5 : q 6 5 + 40 * (t.length : Int) ≤ 10000) : rM mm_Re_replaced [.inl f, .inl g, .inl vf, .inl vt, .inl uf, .inl ut] q (fun r q' => r = none ∧ q' = emL q (rplC (vw n c) u t 0)) := by
  refine rm rfl (nl rfl) (fun E => ?_)
  show rX E _ 0 [some (.inr (some E.1.length)), some (.inl f), some (.inl g), some (.inl vf), some (.inl vt), some (.inl uf), some (.inl ut), none] [] _ _
  refine rx (xs_iload_n dm_Re_replaced_0 rfl) ?_
  refine rx (xs_istore dm_Re_replaced_1 (by decide)) ?_
  show rX E _ 3 [some (.inr (some E.1.length)), some (.inl f), some (.inl g), some (.inl vf), some (.inl vt), some (.inl uf), some (.inl ut), some (.inl f)] [] _ _
  exact re_replaced_l E ht hc hn hf hg hvf hvt huf hut (by omega) (by omega) hul (t.length + 1) 0 q _ (by omega) (by omega) (by omega) hs hv hu h3 h4 h6 (by omega)
/-- does the variable stand in the row -/
def frC (v : List Int) : List Int → Prop
  | [] => False
  | s :: l => v.isPrefixOf (s :: l) = true ∨ frC v l
theorem frC_dec (v : List Int) : ∀ l, frC v l ∨ ¬ frC v l := fun l => Classical.em _
set_option maxHeartbeats 4000000 in
set_option maxRecDepth 100000 in
theorem re_free_l {q : rS} {vf vt f g : Int} {pt pv : Nat} {t a c : List Int} {n : Int} {R : Int} (E : rE) (hs : sg q pt t) (hv : sg q pv (vw n c)) (ht : isTm [] t a) (hc : isTy c) (hn : 0 ≤ n ∧ n ≤ 7) (hf : f = pt) (hg : g = (pt : Int) + (t.length : Int)) (hvf : vf = pv) (hvt : vt = (pv : Int) + 2 + (c.length : Int)) (h1 : pt + t.length ≤ 10000) (h2 : pv + 2 + c.length ≤ 10000) : ∀ (N j : Nat) (kk : Int), t.length - j < N → j ≤ t.length → kk = (pt : Int) + (j : Int) → (frC (vw n c) (t.drop j) → R = 1) → (¬ frC (vw n c) (t.drop j) → R = 0) → rX E mm_Re_free 3 [some (.inr (some E.1.length)), some (.inl vf), some (.inl vt), some (.inl f), some (.inl g), some (.inl kk)] [] q (fun r q' => r = some (.inl R) ∧ q' = q) := by
  intro N
  induction N with
  | zero => intro j kk hN; omega
  | succ N ih =>
    intro j kk hN hj hkk hR1 hR0
    by_cases hjt : j = t.length
    · subst hjt
      refine rx (xs_iload dm_Re_free_3 rfl) ?_
      refine rx (xs_iload dm_Re_free_5 rfl) ?_
      refine rx (xs_icmp_ge_t (tgt := 29) dm_Re_free_7 rfl (by unfold ir; omega) (by unfold ir; omega) (by omega)) ?_
      refine rx (xs_iconst dm_Re_free_29) ?_
      exact rrz dm_Re_free_30 rfl (Or.inl rfl) ⟨vi (hR0 (by rw [List.drop_eq_nil_of_le (Nat.le_refl _)]; exact id)).symm, rfl⟩
    · obtain ⟨s, hsj, hdj⟩ := drop_hd (t := t) (j := j) (by omega)
      refine rx (xs_iload dm_Re_free_3 rfl) ?_
      refine rx (xs_iload dm_Re_free_5 rfl) ?_
      refine rx (xs_icmp_ge_f (tgt := 29) dm_Re_free_7 rfl (by unfold ir; omega) (by unfold ir; omega) (by omega)) ?_
      refine rx (xs_aload_n dm_Re_free_10 rfl) ?_
      refine rx (xs_iload dm_Re_free_11 rfl) ?_
      refine rx (xs_iload_n dm_Re_free_13 rfl) ?_
      refine rx (xs_iload_n dm_Re_free_14 rfl) ?_
      refine rcV (as := [.inl kk, .inl vf, .inl vt]) (rest := []) dm_Re_free_15 lc_Re_stands lm_Re_119 li_Re_stands (nr rfl rfl) rfl rfl rfl (nl rfl) (re_stands (j := j) hs ht (by omega) hv hc hn (by omega) hvf hvt h1 h2 (by simp)) ?_
      rintro _ q1 ⟨rfl, hq1⟩
      have hq1 := hq1.symm
      subst hq1
      show rX E _ 18 [some (.inr (some E.1.length)), some (.inl vf), some (.inl vt), some (.inl f), some (.inl g), some (.inl kk)] [.inl (if (vw n c).isPrefixOf (t.drop j) = true then 1 else 0)] _ _
      by_cases hP : (vw n c).isPrefixOf (t.drop j) = true
      · rw [if_pos hP]
        refine rx (xs_if_eq_f (tgt := 23) dm_Re_free_18 rfl (by unfold ir; omega) (by decide)) ?_
        refine rx (xs_iconst dm_Re_free_21) ?_
        exact rrz dm_Re_free_22 rfl (Or.inr rfl) ⟨vi (hR1 (by rw [hdj] at hP ⊢; exact Or.inl hP)).symm, rfl⟩
      · rw [if_neg hP]
        refine rx (xs_if_eq_t (tgt := 23) dm_Re_free_18 rfl (by unfold ir; omega) rfl) ?_
        refine rx (xs_iinc dm_Re_free_23 rfl (by decide)) ?_
        show rX E _ 26 [some (.inr (some E.1.length)), some (.inl vf), some (.inl vt), some (.inl f), some (.inl g), some (.inl (kk + 1))] [] _ _
        refine rx (xs_goto (tgt := 3) dm_Re_free_26 rfl) ?_
        rw [hdj] at hR1 hR0 hP
        exact ih (j + 1) _ (by omega) (by omega) (by omega) (fun h => hR1 (Or.inr h)) (fun h => hR0 (fun h9 => h9.elim hP h))
set_option maxHeartbeats 4000000 in
set_option maxRecDepth 100000 in
theorem re_free {q : rS} {vf vt f g : Int} {pt pv : Nat} {t a c : List Int} {n : Int} {R : Int} (hs : sg q pt t) (hv : sg q pv (vw n c)) (ht : isTm [] t a) (hc : isTy c) (hn : 0 ≤ n ∧ n ≤ 7) (hf : f = pt) (hg : g = (pt : Int) + (t.length : Int)) (hvf : vf = pv) (hvt : vt = (pv : Int) + 2 + (c.length : Int)) (h1 : pt + t.length ≤ 10000) (h2 : pv + 2 + c.length ≤ 10000) (hR1 : frC (vw n c) t → R = 1) (hR0 : ¬ frC (vw n c) t → R = 0) : rM mm_Re_free [.inl vf, .inl vt, .inl f, .inl g] q (fun r q' => r = some (.inl R) ∧ q' = q) := by
  refine rm rfl (nl rfl) (fun E => ?_)
  show rX E _ 0 [some (.inr (some E.1.length)), some (.inl vf), some (.inl vt), some (.inl f), some (.inl g), none] [] _ _
  refine rx (xs_iload_n dm_Re_free_0 rfl) ?_
  refine rx (xs_istore dm_Re_free_1 (by decide)) ?_
  show rX E _ 3 [some (.inr (some E.1.length)), some (.inl vf), some (.inl vt), some (.inl f), some (.inl g), some (.inl f)] [] _ _
  exact re_free_l E hs hv ht hc hn hf hg hvf hvt h1 h2 (t.length + 1) 0 _ (by omega) (by omega) (by omega) (by simpa using hR1) (by simpa using hR0)
theorem betR_step {u t : List Int} {j : Nat} {s : Int} (hsj : t[j]? = some s) (hdj : t.drop j = s :: t.drop (j + 1)) : betR u (t.drop j) j (eAt t j) = if 20 ≤ s ∧ s - 20 = (cnt (eAt t j) j : Int) then u ++ betR u (t.drop (j + 1)) (j + 1) (eAt t (j + 1)) else s :: betR u (t.drop (j + 1)) (j + 1) (eAt t (j + 1)) := by
  have hE : eAt t (j + 1) = (if s = 13 then (j + szT (s :: t.drop (j + 1))) :: eAt t j else eAt t j) := by
    rw [eAt, hsj, hdj]
    by_cases hs : s = 13
    · simp [hs]
    · simp [hs]
  rw [hE]
  rw [hdj, betR]
set_option maxHeartbeats 4000000 in
set_option maxRecDepth 100000 in
theorem re_reduce_l {f g ue : Int} {pt : Nat} {t b c x : List Int} (E : rE) (ht : isTm [c] t b) (hf : f = pt) (hue : ue = (pt : Int) + (t.length : Int)) (hg : g = (pt : Int) + (t.length : Int) + (x.length : Int)) (h1 : pt + t.length ≤ 10000) (hul : x.length ≤ 40) : ∀ (N j : Nat) (q : rS) (kk : Int), t.length - j < N → j ≤ t.length → kk = (pt : Int) + (j : Int) → sg q pt t → sg q (pt + t.length) x → g ≤ q 6 5 → q 6 5 + 40 * ((t.length : Int) - (j : Int)) ≤ 10000 → rX E mm_Re_reduce 9 [some (.inr (some E.1.length)), some (.inl f), some (.inl g), some (.inl ue), some (.inl kk)] [] q (fun r q' => r = none ∧ q' = emL q (betR x (t.drop j) j (eAt t j))) := by
  intro N
  induction N with
  | zero => intro j q kk hN; omega
  | succ N ih =>
    intro j q kk hN hj hkk hs hx h3 h5
    by_cases hjt : j = t.length
    · subst hjt
      refine rx (xs_iload dm_Re_reduce_9 rfl) ?_
      refine rx (xs_iload_n dm_Re_reduce_11 rfl) ?_
      refine rx (xs_icmp_ge_t (tgt := 73) dm_Re_reduce_12 rfl (by unfold ir; omega) (by unfold ir; omega) (by omega)) ?_
      exact rrv dm_Re_reduce_73 rfl ⟨rfl, by rw [List.drop_eq_nil_of_le (Nat.le_refl _)]; rfl⟩
    · obtain ⟨s, hsj, hdj⟩ := drop_hd (t := t) (j := j) (by omega)
      have hq := sg_at hs hsj
      have his : ir s := isTm_ir ht (by simp; omega) s (List.mem_of_getElem? hsj)
      have hss := isTm_sym ht s (List.mem_of_getElem? hsj)
      simp only [List.length_cons, List.length_nil] at hss
      have hcl := cnt_le (eAt t j) j
      have hel := eAt_len t j
      rw [betR_step hsj hdj]
      have o1 := em_out q s
      have o2 := emL_out q x
      refine rx (xs_iload dm_Re_reduce_9 rfl) ?_
      refine rx (xs_iload_n dm_Re_reduce_11 rfl) ?_
      refine rx (xs_icmp_ge_f (tgt := 73) dm_Re_reduce_12 rfl (by unfold ir; omega) (by unfold ir; omega) (by omega)) ?_
      refine rx (xs_aload_n dm_Re_reduce_15 rfl) ?_
      refine rx (rg (v := .inr (some (rA E 0))) dm_Re_reduce_16 lf_Re_7 rfl) ?_
      refine rx (xs_iload dm_Re_reduce_19 rfl) ?_
      refine rx (rlv 0 s (by decide) dm_Re_reduce_21 (by omega) (by show _ < ((10000 : Nat) : Int); omega) (by rw [← hq]; congr 1; omega)) ?_
      refine rx (xs_bipush dm_Re_reduce_22 (by decide)) ?_
      refine xx_icmp_lt (tgt := 56) dm_Re_reduce_24 rfl his (by unfold ir; omega) (fun hc => ?_) (fun hc => ?_)
      · change rX E _ 56 _ _ _ _
        rw [if_neg (fun h => by omega)]
        refine rx (xs_aload_n dm_Re_reduce_56 rfl) ?_
        refine rx (xs_aload_n dm_Re_reduce_57 rfl) ?_
        refine rx (rg (v := .inr (some (rA E 0))) dm_Re_reduce_58 lf_Re_7 rfl) ?_
        refine rx (xs_iload dm_Re_reduce_61 rfl) ?_
        refine rx (rlv 0 s (by decide) dm_Re_reduce_63 (by omega) (by show _ < ((10000 : Nat) : Int); omega) (by rw [← hq]; congr 1; omega)) ?_
        refine rcV (as := [.inl s]) (rest := []) dm_Re_reduce_64 lc_Re_emit lm_Re_32 li_Re_emit (nr rfl rfl) rfl rfl rfl (nl rfl) (re_emit (x := s) (by omega) (by omega)) ?_
        rintro _ _ ⟨rfl, rfl⟩
        show rX E _ 67 [some (.inr (some E.1.length)), some (.inl f), some (.inl g), some (.inl ue), some (.inl kk)] [] _ _
        refine rx (xs_iinc dm_Re_reduce_67 rfl (by decide)) ?_
        show rX E _ 70 [some (.inr (some E.1.length)), some (.inl f), some (.inl g), some (.inl ue), some (.inl (kk + 1))] [] _ _
        refine rx (xs_goto (tgt := 9) dm_Re_reduce_70 rfl) ?_
        rw [emL_cons]
        exact ih (j + 1) _ _ (by omega) (by omega) (by omega) (emL_sgo (l := [s]) (by omega) hs (by omega)) (emL_sgo (l := [s]) (by omega) hx (by omega)) (by omega) (by omega)
      · change rX E _ 27 _ _ _ _
        refine rx (xs_aload_n dm_Re_reduce_27 rfl) ?_
        refine rx (rg (v := .inr (some (rA E 0))) dm_Re_reduce_28 lf_Re_7 rfl) ?_
        refine rx (xs_iload dm_Re_reduce_31 rfl) ?_
        refine rx (rlv 0 s (by decide) dm_Re_reduce_33 (by omega) (by show _ < ((10000 : Nat) : Int); omega) (by rw [← hq]; congr 1; omega)) ?_
        refine rx (xs_bipush dm_Re_reduce_34 (by decide)) ?_
        refine rx (xs_isub dm_Re_reduce_36) ?_
        refine rx (xs_aload_n dm_Re_reduce_37 rfl) ?_
        refine rx (xs_iload_n dm_Re_reduce_38 rfl) ?_
        refine rx (xs_iload dm_Re_reduce_39 rfl) ?_
        refine rcV (as := [.inl f, .inl kk]) (rest := [.inl (s - 20)]) dm_Re_reduce_41 lc_Re_depth lm_Re_123 li_Re_depth (nr rfl rfl) rfl rfl rfl (nl rfl) (re_depth hs ht hj hf (by omega) h1 (by simp)) ?_
        rintro _ q1 ⟨rfl, hq1⟩
        have hq1 := hq1.symm
        subst hq1
        show rX E _ 44 [some (.inr (some E.1.length)), some (.inl f), some (.inl g), some (.inl ue), some (.inl kk)] [.inl (cnt (eAt t j) j : Int), .inl (s - 20)] _ _
        refine xx_icmp_ne (tgt := 56) dm_Re_reduce_44 rfl (by unfold ir; omega) (by unfold ir; omega) (fun hc2 => ?_) (fun hc2 => ?_)
        · change rX E _ 56 _ _ _ _
          rw [if_neg (fun h => hc2 h.2)]
          refine rx (xs_aload_n dm_Re_reduce_56 rfl) ?_
          refine rx (xs_aload_n dm_Re_reduce_57 rfl) ?_
          refine rx (rg (v := .inr (some (rA E 0))) dm_Re_reduce_58 lf_Re_7 rfl) ?_
          refine rx (xs_iload dm_Re_reduce_61 rfl) ?_
          refine rx (rlv 0 s (by decide) dm_Re_reduce_63 (by omega) (by show _ < ((10000 : Nat) : Int); omega) (by rw [← hq]; congr 1; omega)) ?_
          refine rcV (as := [.inl s]) (rest := []) dm_Re_reduce_64 lc_Re_emit lm_Re_32 li_Re_emit (nr rfl rfl) rfl rfl rfl (nl rfl) (re_emit (x := s) (by omega) (by omega)) ?_
          rintro _ _ ⟨rfl, rfl⟩
          show rX E _ 67 [some (.inr (some E.1.length)), some (.inl f), some (.inl g), some (.inl ue), some (.inl kk)] [] _ _
          refine rx (xs_iinc dm_Re_reduce_67 rfl (by decide)) ?_
          show rX E _ 70 [some (.inr (some E.1.length)), some (.inl f), some (.inl g), some (.inl ue), some (.inl (kk + 1))] [] _ _
          refine rx (xs_goto (tgt := 9) dm_Re_reduce_70 rfl) ?_
          rw [emL_cons]
          exact ih (j + 1) _ _ (by omega) (by omega) (by omega) (emL_sgo (l := [s]) (by omega) hs (by omega)) (emL_sgo (l := [s]) (by omega) hx (by omega)) (by omega) (by omega)
        · change rX E _ 47 _ _ _ _
          rw [if_pos ⟨by omega, hc2⟩]
          refine rx (xs_aload_n dm_Re_reduce_47 rfl) ?_
          refine rx (xs_iload_n dm_Re_reduce_48 rfl) ?_
          refine rx (xs_iload_n dm_Re_reduce_49 rfl) ?_
          refine rcV (as := [.inl ue, .inl g]) (rest := []) dm_Re_reduce_50 lc_Re_emitRow lm_Re_43 li_Re_emitRow (nr rfl rfl) rfl rfl rfl (nl rfl) (re_emitRow hx (by omega) (by omega) h3 (by omega)) ?_
          rintro _ _ ⟨rfl, rfl⟩
          show rX E _ 53 [some (.inr (some E.1.length)), some (.inl f), some (.inl g), some (.inl ue), some (.inl kk)] [] _ _
          refine rx (xs_goto (tgt := 67) dm_Re_reduce_53 rfl) ?_
          refine rx (xs_iinc dm_Re_reduce_67 rfl (by decide)) ?_
          show rX E _ 70 [some (.inr (some E.1.length)), some (.inl f), some (.inl g), some (.inl ue), some (.inl (kk + 1))] [] _ _
          refine rx (xs_goto (tgt := 9) dm_Re_reduce_70 rfl) ?_
          rw [emL_app]
          exact ih (j + 1) _ _ (by omega) (by omega) (by omega) (emL_sgo (by omega) hs (by omega)) (emL_sgo (by omega) hx (by omega)) (by omega) (by omega)
set_option maxHeartbeats 4000000 in
set_option maxRecDepth 100000 in
theorem re_reduce {q : rS} {f g : Int} {pt : Nat} {t b c x : List Int} (hs : sg q pt t) (hx : sg q (pt + t.length) x) (ht : isTm [c] t b) (hxt : isTm [] x c) (hf : f = pt) (hg : g = (pt : Int) + (t.length : Int) + (x.length : Int)) (hul : x.length ≤ 40) (h3 : g ≤ q 6 5) (h5 : q 6 5 + 40 * (t.length : Int) ≤ 10000) : rM mm_Re_reduce [.inl f, .inl g] q (fun r q' => r = none ∧ q' = emL q (betC x t ([], 1))) := by
  refine rm rfl (nl rfl) (fun E => ?_)
  show rX E _ 0 [some (.inr (some E.1.length)), some (.inl f), some (.inl g), none, none] [] _ _
  refine rx (xs_aload_n dm_Re_reduce_0 rfl) ?_
  refine rx (xs_iload_n dm_Re_reduce_1 rfl) ?_
  refine rcV (as := [.inl f]) (rest := []) dm_Re_reduce_2 lc_Re_skipTerm lm_Re_40 li_Re_skipTerm (nr rfl rfl) rfl rfl rfl (nl rfl) (re_skipTerm hs ht hf (by omega) (by simp)) ?_
  rintro _ q1 ⟨rfl, hq1⟩
  have hq1 := hq1.symm
  subst hq1
  show rX E _ 5 [some (.inr (some E.1.length)), some (.inl f), some (.inl g), none, none] [.inl ((pt : Int) + (t.length : Int))] _ _
  refine rx (xs_istore_n dm_Re_reduce_5 (by decide)) ?_
  show rX E _ 6 [some (.inr (some E.1.length)), some (.inl f), some (.inl g), some (.inl ((pt : Int) + (t.length : Int))), none] [] _ _
  refine rx (xs_iload_n dm_Re_reduce_6 rfl) ?_
  refine rx (xs_istore dm_Re_reduce_7 (by decide)) ?_
  show rX E _ 9 [some (.inr (some E.1.length)), some (.inl f), some (.inl g), some (.inl ((pt : Int) + (t.length : Int))), some (.inl f)] [] _ _
  have e := (bet_ok hxt ht).2
  refine rxq (re_reduce_l E ht hf rfl hg (by omega) hul (t.length + 1) 0 q _ (by omega) (by omega) (by omega) hs hx h3 (by omega)) ?_
  rintro _ _ ⟨rfl, rfl⟩
  exact ⟨rfl, by rw [List.drop_zero, ← e]; rfl⟩
set_option maxHeartbeats 4000000 in
set_option maxRecDepth 100000 in
theorem re_occurs_l {q : rS} {x f g : Int} (E : rE) (hx : ir x) (hg9 : g ≤ 10000) (l : List Int) : ∀ (k : Nat) (aa kk : Int), kk = k → sg q k l → g = (k : Int) + (l.length : Int) → (∀ s ∈ l, ir s) → (aa = 0 ∨ aa = 1) → rX E mm_Re_occurs 6 [some (.inr (some E.1.length)), some (.inl x), some (.inl f), some (.inl g), some (.inl aa), some (.inl kk)] [] q (fun r q' => r = some (.inl (if aa = 1 ∨ x ∈ l then 1 else 0)) ∧ q' = q) := by
  induction l with
  | nil =>
    intro k aa kk hkk hs hg hi ha
    simp at hg
    refine rx (xs_iload dm_Re_occurs_6 rfl) ?_
    refine rx (xs_iload_n dm_Re_occurs_8 rfl) ?_
    refine rx (xs_icmp_ge_t (tgt := 41) dm_Re_occurs_9 rfl (by unfold ir; omega) (by unfold ir; omega) (by omega)) ?_
    refine rx (xs_iload dm_Re_occurs_41 rfl) ?_
    exact rrz dm_Re_occurs_43 rfl ha ⟨vi (by rcases ha with h | h <;> subst h <;> simp), rfl⟩
  | cons s l ih =>
    intro k aa kk hkk hs hg hi ha
    simp only [List.length_cons] at hg
    have his : ir s := hi s List.mem_cons_self
    have hi2 : ∀ z ∈ l, ir z := fun z hz => hi z (List.mem_cons_of_mem _ hz)
    refine rx (xs_iload dm_Re_occurs_6 rfl) ?_
    refine rx (xs_iload_n dm_Re_occurs_8 rfl) ?_
    refine rx (xs_icmp_ge_f (tgt := 41) dm_Re_occurs_9 rfl (by unfold ir; omega) (by unfold ir; omega) (by omega)) ?_
    refine rx (xs_iload dm_Re_occurs_12 rfl) ?_
    refine xx_if_ne (tgt := 28) dm_Re_occurs_14 rfl (by unfold ir; omega) (fun hc => ?_) (fun hc => ?_)
    · change rX E _ 28 _ _ _ _
      refine rx (xs_iconst dm_Re_occurs_28) ?_
      refine rx (xs_goto (tgt := 33) dm_Re_occurs_29 rfl) ?_
      refine rx (xs_istore dm_Re_occurs_33 (by decide)) ?_
      show rX E _ 35 [some (.inr (some E.1.length)), some (.inl x), some (.inl f), some (.inl g), some (.inl 1), some (.inl kk)] [] _ _
      refine rx (xs_iinc dm_Re_occurs_35 rfl (by decide)) ?_
      show rX E _ 38 [some (.inr (some E.1.length)), some (.inl x), some (.inl f), some (.inl g), some (.inl 1), some (.inl (kk + 1))] [] _ _
      refine rx (xs_goto (tgt := 6) dm_Re_occurs_38 rfl) ?_
      have e1 : aa = 1 := by omega
      refine rxq (ih (k + 1) _ _ (by omega) (sg_tl hs) (by omega) hi2 (Or.inr rfl)) ?_
      rintro _ _ ⟨rfl, rfl⟩
      exact ⟨by rw [if_pos (Or.inl rfl), if_pos (Or.inl e1)], rfl⟩
    · change rX E _ 17 _ _ _ _
      refine rx (xs_aload_n dm_Re_occurs_17 rfl) ?_
      refine rx (rg (v := .inr (some (rA E 0))) dm_Re_occurs_18 lf_Re_7 rfl) ?_
      refine rx (xs_iload dm_Re_occurs_21 rfl) ?_
      refine rx (rlv 0 s (by decide) dm_Re_occurs_23 (by omega) (by show _ < ((10000 : Nat) : Int); omega) (by rw [hkk, Int.toNat_natCast]; exact sg_hd hs)) ?_
      refine rx (xs_iload_n dm_Re_occurs_24 rfl) ?_
      refine xx_icmp_ne (tgt := 32) dm_Re_occurs_25 rfl his hx (fun hc2 => ?_) (fun hc2 => ?_)
      · change rX E _ 32 _ _ _ _
        refine rx (xs_iconst dm_Re_occurs_32) ?_
        refine rx (xs_istore dm_Re_occurs_33 (by decide)) ?_
        show rX E _ 35 [some (.inr (some E.1.length)), some (.inl x), some (.inl f), some (.inl g), some (.inl 0), some (.inl kk)] [] _ _
        refine rx (xs_iinc dm_Re_occurs_35 rfl (by decide)) ?_
        show rX E _ 38 [some (.inr (some E.1.length)), some (.inl x), some (.inl f), some (.inl g), some (.inl 0), some (.inl (kk + 1))] [] _ _
        refine rx (xs_goto (tgt := 6) dm_Re_occurs_38 rfl) ?_
        refine rxq (ih (k + 1) _ _ (by omega) (sg_tl hs) (by omega) hi2 (Or.inl rfl)) ?_
        rintro _ _ ⟨rfl, rfl⟩
        refine ⟨?_, rfl⟩
        have e2 : ¬ x = s := fun h => hc2 h.symm
        simp [hc, e2]
      · change rX E _ 28 _ _ _ _
        refine rx (xs_iconst dm_Re_occurs_28) ?_
        refine rx (xs_goto (tgt := 33) dm_Re_occurs_29 rfl) ?_
        refine rx (xs_istore dm_Re_occurs_33 (by decide)) ?_
        show rX E _ 35 [some (.inr (some E.1.length)), some (.inl x), some (.inl f), some (.inl g), some (.inl 1), some (.inl kk)] [] _ _
        refine rx (xs_iinc dm_Re_occurs_35 rfl (by decide)) ?_
        show rX E _ 38 [some (.inr (some E.1.length)), some (.inl x), some (.inl f), some (.inl g), some (.inl 1), some (.inl (kk + 1))] [] _ _
        refine rx (xs_goto (tgt := 6) dm_Re_occurs_38 rfl) ?_
        refine rxq (ih (k + 1) _ _ (by omega) (sg_tl hs) (by omega) hi2 (Or.inr rfl)) ?_
        rintro _ _ ⟨rfl, rfl⟩
        exact ⟨by rw [if_pos (Or.inl rfl), if_pos (Or.inr (by rw [hc2]; exact List.mem_cons_self))], rfl⟩
set_option maxHeartbeats 4000000 in
set_option maxRecDepth 100000 in
theorem re_occurs {q : rS} {x f g : Int} {p : Nat} {l : List Int} (hs : sg q p l) (hx : ir x) (hf : f = p) (hg : g = (p : Int) + (l.length : Int)) (h1 : p + l.length ≤ 10000) (hi : ∀ s ∈ l, ir s) : rM mm_Re_occurs [.inl x, .inl f, .inl g] q (fun r q' => r = some (.inl (if x ∈ l then 1 else 0)) ∧ q' = q) := by
  refine rm rfl (nl rfl) (fun E => ?_)
  show rX E _ 0 [some (.inr (some E.1.length)), some (.inl x), some (.inl f), some (.inl g), none, none] [] _ _
  refine rx (xs_iconst dm_Re_occurs_0) ?_
  refine rx (xs_istore dm_Re_occurs_1 (by decide)) ?_
  show rX E _ 3 [some (.inr (some E.1.length)), some (.inl x), some (.inl f), some (.inl g), some (.inl 0), none] [] _ _
  refine rx (xs_iload_n dm_Re_occurs_3 rfl) ?_
  refine rx (xs_istore dm_Re_occurs_4 (by decide)) ?_
  show rX E _ 6 [some (.inr (some E.1.length)), some (.inl x), some (.inl f), some (.inl g), some (.inl 0), some (.inl f)] [] _ _
  refine rxq (re_occurs_l E hx (by omega) l p _ _ hf hs hg hi (Or.inl rfl)) ?_
  rintro _ _ ⟨rfl, rfl⟩
  exact ⟨by simp, rfl⟩
end
section
theorem tsb_cons (k : Int) (T : List Int) (s : Int) (l : List Int) : tsb k T (s :: l) = (if s = 2 + k then T else [s]) ++ tsb k T l := rfl
theorem tms_hdT {n : Nat} {l : List Int} (h : tms n l) : hdT l := by
  cases n with
  | zero => exact Or.inl h
  | succ n =>
    obtain ⟨G, t, a, r, h1, h2, -⟩ := h
    subst h2
    exact isTm_hdT h1 r
theorem tsb_len {K : Int} {T : List Int} (hT : T.length ≤ 40) (l : List Int) : ((tsb K T l).length : Int) ≤ 40 * (l.length : Int) := by
  induction l with
  | nil => simp [tsb]
  | cons s l ih =>
    rw [tsb_cons, List.length_append, List.length_cons]
    split
    · omega
    · simp; omega
set_option maxHeartbeats 4000000 in
set_option maxRecDepth 100000 in
theorem re_retyped_i {f g y uf ut nx : Int} {pu : Nat} {T : List Int} {K : Int} {o6 o7 o8 : Option xV} (E : rE) (hy : y = 2 + K) (hK : 0 ≤ K ∧ K ≤ 3) (huf : uf = pu) (hut : ut = (pu : Int) + (T.length : Int)) (hTl : T.length ≤ 40) {Q : Option xV → rS → Prop} (l : List Int) : ∀ (k : Nat) (q : rS) (kk : Int), kk = k → sg q k l → sg q pu T → nx = (k : Int) + (l.length : Int) → (∀ s ∈ l, ir s) → nx ≤ q 6 5 → ut ≤ q 6 5 → q 6 5 + 40 * (l.length : Int) ≤ 10000 → (∀ kk', rX E mm_Re_retyped 137 [some (.inr (some E.1.length)), some (.inl f), some (.inl g), some (.inl y), some (.inl uf), some (.inl ut), o6, o7, o8, some (.inl nx), some (.inl kk')] [] (emL q (tsb K T l)) Q) → rX E mm_Re_retyped 91 [some (.inr (some E.1.length)), some (.inl f), some (.inl g), some (.inl y), some (.inl uf), some (.inl ut), o6, o7, o8, some (.inl nx), some (.inl kk)] [] q Q := by
  induction l with
  | nil =>
    intro k q kk hkk hs hT hnx hi h1 h2 h3 hQ
    simp at hnx
    refine rx (xs_iload dm_Re_retyped_91 rfl) ?_
    refine rx (xs_iload dm_Re_retyped_93 rfl) ?_
    refine rx (xs_icmp_ge_t (tgt := 137) dm_Re_retyped_95 rfl (by unfold ir; omega) (by unfold ir; omega) (by omega)) ?_
    exact hQ _
  | cons s l ih =>
    intro k q kk hkk hs hT hnx hi h1 h2 h3 hQ
    simp only [List.length_cons] at hnx h3
    have his : ir s := hi s List.mem_cons_self
    have hi2 : ∀ z ∈ l, ir z := fun z hz => hi z (List.mem_cons_of_mem _ hz)
    have o1 := em_out q s
    have o2 := emL_out q T
    rw [tsb_cons] at hQ
    refine rx (xs_iload dm_Re_retyped_91 rfl) ?_
    refine rx (xs_iload dm_Re_retyped_93 rfl) ?_
    refine rx (xs_icmp_ge_f (tgt := 137) dm_Re_retyped_95 rfl (by unfold ir; omega) (by unfold ir; omega) (by omega)) ?_
    refine rx (xs_aload_n dm_Re_retyped_98 rfl) ?_
    refine rx (rg (v := .inr (some (rA E 0))) dm_Re_retyped_99 lf_Re_7 rfl) ?_
    refine rx (xs_iload dm_Re_retyped_102 rfl) ?_
    refine rx (rlv 0 s (by decide) dm_Re_retyped_104 (by omega) (by show _ < ((10000 : Nat) : Int); omega) (by rw [hkk, Int.toNat_natCast]; exact sg_hd hs)) ?_
    refine rx (xs_iload_n dm_Re_retyped_105 rfl) ?_
    refine xx_icmp_ne (tgt := 120) dm_Re_retyped_106 rfl his (by unfold ir; omega) (fun hc => ?_) (fun hc => ?_)
    · change rX E _ 120 _ _ _ _
      rw [if_neg (by omega)] at hQ
      refine rx (xs_aload_n dm_Re_retyped_120 rfl) ?_
      refine rx (xs_aload_n dm_Re_retyped_121 rfl) ?_
      refine rx (rg (v := .inr (some (rA E 0))) dm_Re_retyped_122 lf_Re_7 rfl) ?_
      refine rx (xs_iload dm_Re_retyped_125 rfl) ?_
      refine rx (rlv 0 s (by decide) dm_Re_retyped_127 (by omega) (by show _ < ((10000 : Nat) : Int); omega) (by rw [hkk, Int.toNat_natCast]; exact sg_hd hs)) ?_
      refine rcV (as := [.inl s]) (rest := []) dm_Re_retyped_128 lc_Re_emit lm_Re_32 li_Re_emit (nr rfl rfl) rfl rfl rfl (nl rfl) (re_emit (x := s) (by omega) (by omega)) ?_
      rintro _ _ ⟨rfl, rfl⟩
      show rX E _ 131 [some (.inr (some E.1.length)), some (.inl f), some (.inl g), some (.inl y), some (.inl uf), some (.inl ut), o6, o7, o8, some (.inl nx), some (.inl kk)] [] _ _
      refine rx (xs_iinc dm_Re_retyped_131 rfl (by decide)) ?_
      show rX E _ 134 [some (.inr (some E.1.length)), some (.inl f), some (.inl g), some (.inl y), some (.inl uf), some (.inl ut), o6, o7, o8, some (.inl nx), some (.inl (kk + 1))] [] _ _
      refine rx (xs_goto (tgt := 91) dm_Re_retyped_134 rfl) ?_
      exact ih (k + 1) (em q s) _ (by omega) (emL_sgo (l := [s]) (by omega) (sg_tl hs) (by omega)) (emL_sgo (l := [s]) (by omega) hT (by omega)) (by omega) hi2 (by omega) (by omega) (by omega) hQ
    · change rX E _ 109 _ _ _ _
      rw [if_pos (by omega), emL_app] at hQ
      refine rx (xs_aload_n dm_Re_retyped_109 rfl) ?_
      refine rx (xs_iload dm_Re_retyped_110 rfl) ?_
      refine rx (xs_iload dm_Re_retyped_112 rfl) ?_
      refine rcV (as := [.inl uf, .inl ut]) (rest := []) dm_Re_retyped_114 lc_Re_emitRow lm_Re_43 li_Re_emitRow (nr rfl rfl) rfl rfl rfl (nl rfl) (re_emitRow hT huf hut (by omega) (by omega)) ?_
      rintro _ _ ⟨rfl, rfl⟩
      show rX E _ 117 [some (.inr (some E.1.length)), some (.inl f), some (.inl g), some (.inl y), some (.inl uf), some (.inl ut), o6, o7, o8, some (.inl nx), some (.inl kk)] [] _ _
      refine rx (xs_goto (tgt := 131) dm_Re_retyped_117 rfl) ?_
      refine rx (xs_iinc dm_Re_retyped_131 rfl (by decide)) ?_
      show rX E _ 134 [some (.inr (some E.1.length)), some (.inl f), some (.inl g), some (.inl y), some (.inl uf), some (.inl ut), o6, o7, o8, some (.inl nx), some (.inl (kk + 1))] [] _ _
      refine rx (xs_goto (tgt := 91) dm_Re_retyped_134 rfl) ?_
      exact ih (k + 1) (emL q T) _ (by omega) (emL_sgo (by omega) (sg_tl hs) (by omega)) (emL_sgo (by omega) hT (by omega)) (by omega) hi2 (by omega) (by omega) (by omega) hQ
set_option maxHeartbeats 4000000 in
set_option maxRecDepth 100000 in
theorem re_retyped_l {f g y uf ut : Int} {pu : Nat} {T : List Int} {K : Int} (E : rE) (hy : y = 2 + K) (hK : 0 ≤ K ∧ K ≤ 3) (huf : uf = pu) (hut : ut = (pu : Int) + (T.length : Int)) (hTl : T.length ≤ 40) : ∀ (N : Nat) (l : List Int) (n k : Nat) (q : rS) (pp : Int) (o7 o8 o9 o10 : Option xV), l.length < N → pp = k → sg q k l → sg q pu T → tms n l → g = (k : Int) + (l.length : Int) → (∀ s ∈ l, ir s) → g ≤ q 6 5 → ut ≤ q 6 5 → q 6 5 + 40 * (l.length : Int) ≤ 10000 → rX E mm_Re_retyped 3 [some (.inr (some E.1.length)), some (.inl f), some (.inl g), some (.inl y), some (.inl uf), some (.inl ut), some (.inl pp), o7, o8, o9, o10] [] q (fun r q' => r = none ∧ ∀ p, q' = emL q (rtC K T l p)) := by
  intro N
  induction N with
  | zero => intro l n k q pp o7 o8 o9 o10 hN; omega
  | succ N ih =>
    intro l n k q pp o7 o8 o9 o10 hN hpp hs hT ht hg hi h1 h2 h3
    cases n with
    | zero =>
      have hl : l = [] := ht
      subst hl
      simp at hg
      refine rx (xs_iload dm_Re_retyped_3 rfl) ?_
      refine rx (xs_iload_n dm_Re_retyped_5 rfl) ?_
      refine rx (xs_icmp_ge_t (tgt := 144) dm_Re_retyped_6 rfl (by unfold ir; omega) (by unfold ir; omega) (by omega)) ?_
      exact rrv dm_Re_retyped_144 rfl ⟨rfl, fun _ => rfl⟩
    | succ n =>
    obtain ⟨G, t, a, r, htm, hl, hr⟩ := ht
    subst hl
    have hrh := tms_hdT hr
    rcases isTm_inv htm with ⟨m, m0, m7, ha, e⟩ | ⟨m, m0, m7, ha, e⟩ | ⟨s, ha, e, -⟩ | ⟨d, hd, ha, e⟩ | ⟨f1, x1, s, hs1, ha1, hf1, hx1, e⟩ | ⟨s, u, b, hs1, hb1, hu, e, -⟩
    · subst e
      simp only [List.cons_append, List.append_assoc, List.nil_append, List.length_append, List.length_cons, List.length_nil] at hs hN hg h3 hi
      refine rx (xs_iload dm_Re_retyped_3 rfl) ?_
      refine rx (xs_iload_n dm_Re_retyped_5 rfl) ?_
      refine rx (xs_icmp_ge_f (tgt := 144) dm_Re_retyped_6 rfl (by unfold ir; omega) (by unfold ir; omega) (by omega)) ?_
      refine rx (xs_aload_n dm_Re_retyped_9 rfl) ?_
      refine rx (rg (v := .inr (some (rA E 0))) dm_Re_retyped_10 lf_Re_7 rfl) ?_
      refine rx (xs_iload dm_Re_retyped_13 rfl) ?_
      refine rx (rlv 0 10 (by decide) dm_Re_retyped_15 (by omega) (by show _ < ((10000 : Nat) : Int); omega) (by rw [hpp, Int.toNat_natCast]; exact sg_hd hs)) ?_
      refine rx (xs_istore dm_Re_retyped_16 (by decide)) ?_
      show rX E _ 18 [some (.inr (some E.1.length)), some (.inl f), some (.inl g), some (.inl y), some (.inl uf), some (.inl ut), some (.inl pp), some (.inl 10), o8, o9, o10] [] _ _
      refine rx (xs_iload dm_Re_retyped_18 rfl) ?_
      refine rx (xs_bipush dm_Re_retyped_20 (by decide)) ?_
      refine rx (xs_icmp_eq_t (tgt := 32) dm_Re_retyped_22 rfl (by unfold ir; omega) (by unfold ir; omega) (by decide)) ?_
      refine rx (xs_iload dm_Re_retyped_32 rfl) ?_
      refine rx (xs_iconst dm_Re_retyped_34) ?_
      refine rx (xs_iadd dm_Re_retyped_35) ?_
      refine rx (xs_goto (tgt := 43) dm_Re_retyped_36 rfl) ?_
      refine rx (xs_istore dm_Re_retyped_43 (by decide)) ?_
      show rX E _ 45 [some (.inr (some E.1.length)), some (.inl f), some (.inl g), some (.inl y), some (.inl uf), some (.inl ut), some (.inl pp), some (.inl 10), some (.inl (pp + 2)), o9, o10] [] _ _
      refine rx (xs_iload dm_Re_retyped_45 rfl) ?_
      refine rx (xs_bipush dm_Re_retyped_47 (by decide)) ?_
      refine rx (xs_icmp_eq_t (tgt := 66) dm_Re_retyped_49 rfl (by unfold ir; omega) (by unfold ir; omega) (by decide)) ?_
      refine rx (xs_aload_n dm_Re_retyped_66 rfl) ?_
      refine rx (xs_iload dm_Re_retyped_67 rfl) ?_
      have hs2 := sg_tl (sg_tl hs)
      rw [sg_app] at hs2
      have hs0 : sg q k [10, m] := sg_cons (sg_hd hs) (sg_cons (sg_hd (sg_tl hs)) sg_nil)
      have o1 := emL_out q [10, m]
      simp only [List.length_cons, List.length_nil] at o1
      refine rcV (as := [.inl (pp + 2)]) (rest := []) dm_Re_retyped_69 lc_Re_skipType lm_Re_36 li_Re_skipType (nr rfl rfl) rfl rfl rfl (nl rfl) (re_skipType (p := k + 1 + 1) hs2.1 ha (by omega) (by omega)) ?_
      rintro _ q1 ⟨rfl, hq1⟩
      have hq1 := hq1.symm
      subst hq1
      show rX E _ 72 [some (.inr (some E.1.length)), some (.inl f), some (.inl g), some (.inl y), some (.inl uf), some (.inl ut), some (.inl pp), some (.inl 10), some (.inl (pp + 2)), o9, o10] [.inl (((k + 1 + 1 : Nat) : Int) + (a.length : Int))] _ _
      refine rx (xs_goto (tgt := 77) dm_Re_retyped_72 rfl) ?_
      refine rx (xs_istore dm_Re_retyped_77 (by decide)) ?_
      show rX E _ 79 [some (.inr (some E.1.length)), some (.inl f), some (.inl g), some (.inl y), some (.inl uf), some (.inl ut), some (.inl pp), some (.inl 10), some (.inl (pp + 2)), some (.inl (((k + 1 + 1 : Nat) : Int) + (a.length : Int))), o10] [] _ _
      refine rx (xs_aload_n dm_Re_retyped_79 rfl) ?_
      refine rx (xs_iload dm_Re_retyped_80 rfl) ?_
      refine rx (xs_iload dm_Re_retyped_82 rfl) ?_
      refine rcV (as := [.inl pp, .inl (pp + 2)]) (rest := []) dm_Re_retyped_84 lc_Re_emitRow lm_Re_43 li_Re_emitRow (nr rfl rfl) rfl rfl rfl (nl rfl) (re_emitRow hs0 hpp (by simp; omega) (by omega) (by simp; omega)) ?_
      rintro _ _ ⟨rfl, rfl⟩
      show rX E _ 87 [some (.inr (some E.1.length)), some (.inl f), some (.inl g), some (.inl y), some (.inl uf), some (.inl ut), some (.inl pp), some (.inl 10), some (.inl (pp + 2)), some (.inl (((k + 1 + 1 : Nat) : Int) + (a.length : Int))), o10] [] _ _
      refine rx (xs_iload dm_Re_retyped_87 rfl) ?_
      refine rx (xs_istore dm_Re_retyped_89 (by decide)) ?_
      show rX E _ 91 [some (.inr (some E.1.length)), some (.inl f), some (.inl g), some (.inl y), some (.inl uf), some (.inl ut), some (.inl pp), some (.inl 10), some (.inl (pp + 2)), some (.inl (((k + 1 + 1 : Nat) : Int) + (a.length : Int))), some (.inl (pp + 2))] [] _ _
      refine re_retyped_i E hy hK huf hut hTl a (k + 1 + 1) (emL q [10, m]) _ (by omega) (emL_sgo (by omega) hs2.1 (by omega)) (emL_sgo (by omega) hT (by omega)) (by omega) (isTy_ir ha) (by omega) (by omega) (by omega) (fun kk' => ?_)
      have o2 := emL_out (emL q [10, m]) (tsb K T a)
      have hts : ((tsb K T a).length : Int) ≤ 40 * (a.length : Int) := tsb_len hTl a
      refine rx (xs_iload dm_Re_retyped_137 rfl) ?_
      refine rx (xs_istore dm_Re_retyped_139 (by decide)) ?_
      show rX E _ 141 [some (.inr (some E.1.length)), some (.inl f), some (.inl g), some (.inl y), some (.inl uf), some (.inl ut), some (.inl (((k + 1 + 1 : Nat) : Int) + (a.length : Int))), some (.inl 10), some (.inl (pp + 2)), some (.inl (((k + 1 + 1 : Nat) : Int) + (a.length : Int))), some (.inl kk')] [] _ _
      refine rx (xs_goto (tgt := 3) dm_Re_retyped_141 rfl) ?_
      refine rxq (ih r n (k + 1 + 1 + a.length) _ _ _ _ _ _ (by omega) (by omega) (emL_sgo (by omega) (emL_sgo (by omega) hs2.2 (by omega)) (by omega)) (emL_sgo (by omega) (emL_sgo (by omega) hT (by omega)) (by omega)) hr (by omega) (fun z hz => hi z (by simp [hz])) (by omega) (by omega) (by omega)) ?_
      rintro _ _ ⟨rfl, hq⟩
      refine ⟨rfl, fun p => ?_⟩
      rw [hq 0]
      simp only [List.cons_append, List.append_assoc]
      rw [rtC_up (by decide), rtC_nm (by decide), rtC_low (isTy_low ha) hrh _ (by omega) (by omega) 0]
      simp [emL]
    · subst e
      simp only [List.cons_append, List.append_assoc, List.nil_append, List.length_append, List.length_cons, List.length_nil] at hs hN hg h3 hi
      refine rx (xs_iload dm_Re_retyped_3 rfl) ?_
      refine rx (xs_iload_n dm_Re_retyped_5 rfl) ?_
      refine rx (xs_icmp_ge_f (tgt := 144) dm_Re_retyped_6 rfl (by unfold ir; omega) (by unfold ir; omega) (by omega)) ?_
      refine rx (xs_aload_n dm_Re_retyped_9 rfl) ?_
      refine rx (rg (v := .inr (some (rA E 0))) dm_Re_retyped_10 lf_Re_7 rfl) ?_
      refine rx (xs_iload dm_Re_retyped_13 rfl) ?_
      refine rx (rlv 0 11 (by decide) dm_Re_retyped_15 (by omega) (by show _ < ((10000 : Nat) : Int); omega) (by rw [hpp, Int.toNat_natCast]; exact sg_hd hs)) ?_
      refine rx (xs_istore dm_Re_retyped_16 (by decide)) ?_
      show rX E _ 18 [some (.inr (some E.1.length)), some (.inl f), some (.inl g), some (.inl y), some (.inl uf), some (.inl ut), some (.inl pp), some (.inl 11), o8, o9, o10] [] _ _
      refine rx (xs_iload dm_Re_retyped_18 rfl) ?_
      refine rx (xs_bipush dm_Re_retyped_20 (by decide)) ?_
      refine rx (xs_icmp_eq_f (tgt := 32) dm_Re_retyped_22 rfl (by unfold ir; omega) (by unfold ir; omega) (by decide)) ?_
      refine rx (xs_iload dm_Re_retyped_25 rfl) ?_
      refine rx (xs_bipush dm_Re_retyped_27 (by decide)) ?_
      refine rx (xs_icmp_ne_f (tgt := 39) dm_Re_retyped_29 rfl (by unfold ir; omega) (by unfold ir; omega) (by decide)) ?_
      refine rx (xs_iload dm_Re_retyped_32 rfl) ?_
      refine rx (xs_iconst dm_Re_retyped_34) ?_
      refine rx (xs_iadd dm_Re_retyped_35) ?_
      refine rx (xs_goto (tgt := 43) dm_Re_retyped_36 rfl) ?_
      refine rx (xs_istore dm_Re_retyped_43 (by decide)) ?_
      show rX E _ 45 [some (.inr (some E.1.length)), some (.inl f), some (.inl g), some (.inl y), some (.inl uf), some (.inl ut), some (.inl pp), some (.inl 11), some (.inl (pp + 2)), o9, o10] [] _ _
      refine rx (xs_iload dm_Re_retyped_45 rfl) ?_
      refine rx (xs_bipush dm_Re_retyped_47 (by decide)) ?_
      refine rx (xs_icmp_eq_f (tgt := 66) dm_Re_retyped_49 rfl (by unfold ir; omega) (by unfold ir; omega) (by decide)) ?_
      refine rx (xs_iload dm_Re_retyped_52 rfl) ?_
      refine rx (xs_bipush dm_Re_retyped_54 (by decide)) ?_
      refine rx (xs_icmp_eq_t (tgt := 66) dm_Re_retyped_56 rfl (by unfold ir; omega) (by unfold ir; omega) (by decide)) ?_
      refine rx (xs_aload_n dm_Re_retyped_66 rfl) ?_
      refine rx (xs_iload dm_Re_retyped_67 rfl) ?_
      have hs2 := sg_tl (sg_tl hs)
      rw [sg_app] at hs2
      have hs0 : sg q k [11, m] := sg_cons (sg_hd hs) (sg_cons (sg_hd (sg_tl hs)) sg_nil)
      have o1 := emL_out q [11, m]
      simp only [List.length_cons, List.length_nil] at o1
      refine rcV (as := [.inl (pp + 2)]) (rest := []) dm_Re_retyped_69 lc_Re_skipType lm_Re_36 li_Re_skipType (nr rfl rfl) rfl rfl rfl (nl rfl) (re_skipType (p := k + 1 + 1) hs2.1 ha (by omega) (by omega)) ?_
      rintro _ q1 ⟨rfl, hq1⟩
      have hq1 := hq1.symm
      subst hq1
      show rX E _ 72 [some (.inr (some E.1.length)), some (.inl f), some (.inl g), some (.inl y), some (.inl uf), some (.inl ut), some (.inl pp), some (.inl 11), some (.inl (pp + 2)), o9, o10] [.inl (((k + 1 + 1 : Nat) : Int) + (a.length : Int))] _ _
      refine rx (xs_goto (tgt := 77) dm_Re_retyped_72 rfl) ?_
      refine rx (xs_istore dm_Re_retyped_77 (by decide)) ?_
      show rX E _ 79 [some (.inr (some E.1.length)), some (.inl f), some (.inl g), some (.inl y), some (.inl uf), some (.inl ut), some (.inl pp), some (.inl 11), some (.inl (pp + 2)), some (.inl (((k + 1 + 1 : Nat) : Int) + (a.length : Int))), o10] [] _ _
      refine rx (xs_aload_n dm_Re_retyped_79 rfl) ?_
      refine rx (xs_iload dm_Re_retyped_80 rfl) ?_
      refine rx (xs_iload dm_Re_retyped_82 rfl) ?_
      refine rcV (as := [.inl pp, .inl (pp + 2)]) (rest := []) dm_Re_retyped_84 lc_Re_emitRow lm_Re_43 li_Re_emitRow (nr rfl rfl) rfl rfl rfl (nl rfl) (re_emitRow hs0 hpp (by simp; omega) (by omega) (by simp; omega)) ?_
      rintro _ _ ⟨rfl, rfl⟩
      show rX E _ 87 [some (.inr (some E.1.length)), some (.inl f), some (.inl g), some (.inl y), some (.inl uf), some (.inl ut), some (.inl pp), some (.inl 11), some (.inl (pp + 2)), some (.inl (((k + 1 + 1 : Nat) : Int) + (a.length : Int))), o10] [] _ _
      refine rx (xs_iload dm_Re_retyped_87 rfl) ?_
      refine rx (xs_istore dm_Re_retyped_89 (by decide)) ?_
      show rX E _ 91 [some (.inr (some E.1.length)), some (.inl f), some (.inl g), some (.inl y), some (.inl uf), some (.inl ut), some (.inl pp), some (.inl 11), some (.inl (pp + 2)), some (.inl (((k + 1 + 1 : Nat) : Int) + (a.length : Int))), some (.inl (pp + 2))] [] _ _
      refine re_retyped_i E hy hK huf hut hTl a (k + 1 + 1) (emL q [11, m]) _ (by omega) (emL_sgo (by omega) hs2.1 (by omega)) (emL_sgo (by omega) hT (by omega)) (by omega) (isTy_ir ha) (by omega) (by omega) (by omega) (fun kk' => ?_)
      have o2 := emL_out (emL q [11, m]) (tsb K T a)
      have hts : ((tsb K T a).length : Int) ≤ 40 * (a.length : Int) := tsb_len hTl a
      refine rx (xs_iload dm_Re_retyped_137 rfl) ?_
      refine rx (xs_istore dm_Re_retyped_139 (by decide)) ?_
      show rX E _ 141 [some (.inr (some E.1.length)), some (.inl f), some (.inl g), some (.inl y), some (.inl uf), some (.inl ut), some (.inl (((k + 1 + 1 : Nat) : Int) + (a.length : Int))), some (.inl 11), some (.inl (pp + 2)), some (.inl (((k + 1 + 1 : Nat) : Int) + (a.length : Int))), some (.inl kk')] [] _ _
      refine rx (xs_goto (tgt := 3) dm_Re_retyped_141 rfl) ?_
      refine rxq (ih r n (k + 1 + 1 + a.length) _ _ _ _ _ _ (by omega) (by omega) (emL_sgo (by omega) (emL_sgo (by omega) hs2.2 (by omega)) (by omega)) (emL_sgo (by omega) (emL_sgo (by omega) hT (by omega)) (by omega)) hr (by omega) (fun z hz => hi z (by simp [hz])) (by omega) (by omega) (by omega)) ?_
      rintro _ _ ⟨rfl, hq⟩
      refine ⟨rfl, fun p => ?_⟩
      rw [hq 0]
      simp only [List.cons_append, List.append_assoc]
      rw [rtC_up (by decide), rtC_nm (by decide), rtC_low (isTy_low ha) hrh _ (by omega) (by omega) 0]
      simp [emL]
    · subst e
      simp only [List.cons_append, List.append_assoc, List.nil_append, List.length_append, List.length_cons, List.length_nil] at hs hN hg h3 hi
      refine rx (xs_iload dm_Re_retyped_3 rfl) ?_
      refine rx (xs_iload_n dm_Re_retyped_5 rfl) ?_
      refine rx (xs_icmp_ge_f (tgt := 144) dm_Re_retyped_6 rfl (by unfold ir; omega) (by unfold ir; omega) (by omega)) ?_
      refine rx (xs_aload_n dm_Re_retyped_9 rfl) ?_
      refine rx (rg (v := .inr (some (rA E 0))) dm_Re_retyped_10 lf_Re_7 rfl) ?_
      refine rx (xs_iload dm_Re_retyped_13 rfl) ?_
      refine rx (rlv 0 11 (by decide) dm_Re_retyped_15 (by omega) (by show _ < ((10000 : Nat) : Int); omega) (by rw [hpp, Int.toNat_natCast]; exact sg_hd hs)) ?_
      refine rx (xs_istore dm_Re_retyped_16 (by decide)) ?_
      show rX E _ 18 [some (.inr (some E.1.length)), some (.inl f), some (.inl g), some (.inl y), some (.inl uf), some (.inl ut), some (.inl pp), some (.inl 11), o8, o9, o10] [] _ _
      refine rx (xs_iload dm_Re_retyped_18 rfl) ?_
      refine rx (xs_bipush dm_Re_retyped_20 (by decide)) ?_
      refine rx (xs_icmp_eq_f (tgt := 32) dm_Re_retyped_22 rfl (by unfold ir; omega) (by unfold ir; omega) (by decide)) ?_
      refine rx (xs_iload dm_Re_retyped_25 rfl) ?_
      refine rx (xs_bipush dm_Re_retyped_27 (by decide)) ?_
      refine rx (xs_icmp_ne_f (tgt := 39) dm_Re_retyped_29 rfl (by unfold ir; omega) (by unfold ir; omega) (by decide)) ?_
      refine rx (xs_iload dm_Re_retyped_32 rfl) ?_
      refine rx (xs_iconst dm_Re_retyped_34) ?_
      refine rx (xs_iadd dm_Re_retyped_35) ?_
      refine rx (xs_goto (tgt := 43) dm_Re_retyped_36 rfl) ?_
      refine rx (xs_istore dm_Re_retyped_43 (by decide)) ?_
      show rX E _ 45 [some (.inr (some E.1.length)), some (.inl f), some (.inl g), some (.inl y), some (.inl uf), some (.inl ut), some (.inl pp), some (.inl 11), some (.inl (pp + 2)), o9, o10] [] _ _
      refine rx (xs_iload dm_Re_retyped_45 rfl) ?_
      refine rx (xs_bipush dm_Re_retyped_47 (by decide)) ?_
      refine rx (xs_icmp_eq_f (tgt := 66) dm_Re_retyped_49 rfl (by unfold ir; omega) (by unfold ir; omega) (by decide)) ?_
      refine rx (xs_iload dm_Re_retyped_52 rfl) ?_
      refine rx (xs_bipush dm_Re_retyped_54 (by decide)) ?_
      refine rx (xs_icmp_eq_t (tgt := 66) dm_Re_retyped_56 rfl (by unfold ir; omega) (by unfold ir; omega) (by decide)) ?_
      refine rx (xs_aload_n dm_Re_retyped_66 rfl) ?_
      refine rx (xs_iload dm_Re_retyped_67 rfl) ?_
      have hs2 := sg_tl (sg_tl hs)
      rw [sg_app] at hs2
      have hs0 : sg q k [11, 0] := sg_cons (sg_hd hs) (sg_cons (sg_hd (sg_tl hs)) sg_nil)
      have o1 := emL_out q [11, 0]
      simp only [List.length_cons, List.length_nil] at o1
      refine rcV (as := [.inl (pp + 2)]) (rest := []) dm_Re_retyped_69 lc_Re_skipType lm_Re_36 li_Re_skipType (nr rfl rfl) rfl rfl rfl (nl rfl) (re_skipType (p := k + 1 + 1) hs2.1 ha (by omega) (by omega)) ?_
      rintro _ q1 ⟨rfl, hq1⟩
      have hq1 := hq1.symm
      subst hq1
      show rX E _ 72 [some (.inr (some E.1.length)), some (.inl f), some (.inl g), some (.inl y), some (.inl uf), some (.inl ut), some (.inl pp), some (.inl 11), some (.inl (pp + 2)), o9, o10] [.inl (((k + 1 + 1 : Nat) : Int) + (s.length : Int))] _ _
      refine rx (xs_goto (tgt := 77) dm_Re_retyped_72 rfl) ?_
      refine rx (xs_istore dm_Re_retyped_77 (by decide)) ?_
      show rX E _ 79 [some (.inr (some E.1.length)), some (.inl f), some (.inl g), some (.inl y), some (.inl uf), some (.inl ut), some (.inl pp), some (.inl 11), some (.inl (pp + 2)), some (.inl (((k + 1 + 1 : Nat) : Int) + (s.length : Int))), o10] [] _ _
      refine rx (xs_aload_n dm_Re_retyped_79 rfl) ?_
      refine rx (xs_iload dm_Re_retyped_80 rfl) ?_
      refine rx (xs_iload dm_Re_retyped_82 rfl) ?_
      refine rcV (as := [.inl pp, .inl (pp + 2)]) (rest := []) dm_Re_retyped_84 lc_Re_emitRow lm_Re_43 li_Re_emitRow (nr rfl rfl) rfl rfl rfl (nl rfl) (re_emitRow hs0 hpp (by simp; omega) (by omega) (by simp; omega)) ?_
      rintro _ _ ⟨rfl, rfl⟩
      show rX E _ 87 [some (.inr (some E.1.length)), some (.inl f), some (.inl g), some (.inl y), some (.inl uf), some (.inl ut), some (.inl pp), some (.inl 11), some (.inl (pp + 2)), some (.inl (((k + 1 + 1 : Nat) : Int) + (s.length : Int))), o10] [] _ _
      refine rx (xs_iload dm_Re_retyped_87 rfl) ?_
      refine rx (xs_istore dm_Re_retyped_89 (by decide)) ?_
      show rX E _ 91 [some (.inr (some E.1.length)), some (.inl f), some (.inl g), some (.inl y), some (.inl uf), some (.inl ut), some (.inl pp), some (.inl 11), some (.inl (pp + 2)), some (.inl (((k + 1 + 1 : Nat) : Int) + (s.length : Int))), some (.inl (pp + 2))] [] _ _
      refine re_retyped_i E hy hK huf hut hTl s (k + 1 + 1) (emL q [11, 0]) _ (by omega) (emL_sgo (by omega) hs2.1 (by omega)) (emL_sgo (by omega) hT (by omega)) (by omega) (isTy_ir ha) (by omega) (by omega) (by omega) (fun kk' => ?_)
      have o2 := emL_out (emL q [11, 0]) (tsb K T s)
      have hts : ((tsb K T s).length : Int) ≤ 40 * (s.length : Int) := tsb_len hTl s
      refine rx (xs_iload dm_Re_retyped_137 rfl) ?_
      refine rx (xs_istore dm_Re_retyped_139 (by decide)) ?_
      show rX E _ 141 [some (.inr (some E.1.length)), some (.inl f), some (.inl g), some (.inl y), some (.inl uf), some (.inl ut), some (.inl (((k + 1 + 1 : Nat) : Int) + (s.length : Int))), some (.inl 11), some (.inl (pp + 2)), some (.inl (((k + 1 + 1 : Nat) : Int) + (s.length : Int))), some (.inl kk')] [] _ _
      refine rx (xs_goto (tgt := 3) dm_Re_retyped_141 rfl) ?_
      refine rxq (ih r n (k + 1 + 1 + s.length) _ _ _ _ _ _ (by omega) (by omega) (emL_sgo (by omega) (emL_sgo (by omega) hs2.2 (by omega)) (by omega)) (emL_sgo (by omega) (emL_sgo (by omega) hT (by omega)) (by omega)) hr (by omega) (fun z hz => hi z (by simp [hz])) (by omega) (by omega) (by omega)) ?_
      rintro _ _ ⟨rfl, hq⟩
      refine ⟨rfl, fun p => ?_⟩
      rw [hq 0]
      simp only [List.cons_append, List.append_assoc]
      rw [rtC_up (by decide), rtC_nm (by decide), rtC_low (isTy_low ha) hrh _ (by omega) (by omega) 0]
      simp [emL]
    · subst e
      simp only [List.cons_append, List.append_assoc, List.nil_append, List.length_append, List.length_cons, List.length_nil] at hs hN hg h3 hi
      refine rx (xs_iload dm_Re_retyped_3 rfl) ?_
      refine rx (xs_iload_n dm_Re_retyped_5 rfl) ?_
      refine rx (xs_icmp_ge_f (tgt := 144) dm_Re_retyped_6 rfl (by unfold ir; omega) (by unfold ir; omega) (by omega)) ?_
      refine rx (xs_aload_n dm_Re_retyped_9 rfl) ?_
      refine rx (rg (v := .inr (some (rA E 0))) dm_Re_retyped_10 lf_Re_7 rfl) ?_
      refine rx (xs_iload dm_Re_retyped_13 rfl) ?_
      refine rx (rlv 0 (20 + (d : Int)) (by decide) dm_Re_retyped_15 (by omega) (by show _ < ((10000 : Nat) : Int); omega) (by rw [hpp, Int.toNat_natCast]; exact sg_hd hs)) ?_
      refine rx (xs_istore dm_Re_retyped_16 (by decide)) ?_
      show rX E _ 18 [some (.inr (some E.1.length)), some (.inl f), some (.inl g), some (.inl y), some (.inl uf), some (.inl ut), some (.inl pp), some (.inl (20 + (d : Int))), o8, o9, o10] [] _ _
      refine rx (xs_iload dm_Re_retyped_18 rfl) ?_
      refine rx (xs_bipush dm_Re_retyped_20 (by decide)) ?_
      have hib : ir (20 + (d : Int)) := hi _ List.mem_cons_self
      have hs0 : sg q k [20 + (d : Int)] := sg_cons (sg_hd hs) sg_nil
      have o1 := emL_out q [20 + (d : Int)]
      simp only [List.length_cons, List.length_nil] at o1
      refine rx (xs_icmp_eq_f (tgt := 32) dm_Re_retyped_22 rfl hib (by unfold ir; omega) (by omega)) ?_
      refine rx (xs_iload dm_Re_retyped_25 rfl) ?_
      refine rx (xs_bipush dm_Re_retyped_27 (by decide)) ?_
      refine rx (xs_icmp_ne_t (tgt := 39) dm_Re_retyped_29 rfl hib (by unfold ir; omega) (by omega)) ?_
      refine rx (xs_iload dm_Re_retyped_39 rfl) ?_
      refine rx (xs_iconst dm_Re_retyped_41) ?_
      refine rx (xs_iadd dm_Re_retyped_42) ?_
      refine rx (xs_istore dm_Re_retyped_43 (by decide)) ?_
      show rX E _ 45 [some (.inr (some E.1.length)), some (.inl f), some (.inl g), some (.inl y), some (.inl uf), some (.inl ut), some (.inl pp), some (.inl (20 + (d : Int))), some (.inl (pp + 1)), o9, o10] [] _ _
      refine rx (xs_iload dm_Re_retyped_45 rfl) ?_
      refine rx (xs_bipush dm_Re_retyped_47 (by decide)) ?_
      refine rx (xs_icmp_eq_f (tgt := 66) dm_Re_retyped_49 rfl hib (by unfold ir; omega) (by omega)) ?_
      refine rx (xs_iload dm_Re_retyped_52 rfl) ?_
      refine rx (xs_bipush dm_Re_retyped_54 (by decide)) ?_
      refine rx (xs_icmp_eq_f (tgt := 66) dm_Re_retyped_56 rfl hib (by unfold ir; omega) (by omega)) ?_
      refine rx (xs_iload dm_Re_retyped_59 rfl) ?_
      refine rx (xs_bipush dm_Re_retyped_61 (by decide)) ?_
      refine rx (xs_icmp_ne_t (tgt := 75) dm_Re_retyped_63 rfl hib (by unfold ir; omega) (by omega)) ?_
      refine rx (xs_iload dm_Re_retyped_75 rfl) ?_
      refine rx (xs_istore dm_Re_retyped_77 (by decide)) ?_
      show rX E _ 79 [some (.inr (some E.1.length)), some (.inl f), some (.inl g), some (.inl y), some (.inl uf), some (.inl ut), some (.inl pp), some (.inl (20 + (d : Int))), some (.inl (pp + 1)), some (.inl (pp + 1)), o10] [] _ _
      refine rx (xs_aload_n dm_Re_retyped_79 rfl) ?_
      refine rx (xs_iload dm_Re_retyped_80 rfl) ?_
      refine rx (xs_iload dm_Re_retyped_82 rfl) ?_
      refine rcV (as := [.inl pp, .inl (pp + 1)]) (rest := []) dm_Re_retyped_84 lc_Re_emitRow lm_Re_43 li_Re_emitRow (nr rfl rfl) rfl rfl rfl (nl rfl) (re_emitRow hs0 hpp (by simp; omega) (by omega) (by simp; omega)) ?_
      rintro _ _ ⟨rfl, rfl⟩
      show rX E _ 87 [some (.inr (some E.1.length)), some (.inl f), some (.inl g), some (.inl y), some (.inl uf), some (.inl ut), some (.inl pp), some (.inl (20 + (d : Int))), some (.inl (pp + 1)), some (.inl (pp + 1)), o10] [] _ _
      refine rx (xs_iload dm_Re_retyped_87 rfl) ?_
      refine rx (xs_istore dm_Re_retyped_89 (by decide)) ?_
      show rX E _ 91 [some (.inr (some E.1.length)), some (.inl f), some (.inl g), some (.inl y), some (.inl uf), some (.inl ut), some (.inl pp), some (.inl (20 + (d : Int))), some (.inl (pp + 1)), some (.inl (pp + 1)), some (.inl (pp + 1))] [] _ _
      refine rx (xs_iload dm_Re_retyped_91 rfl) ?_
      refine rx (xs_iload dm_Re_retyped_93 rfl) ?_
      refine rx (xs_icmp_ge_t (tgt := 137) dm_Re_retyped_95 rfl (by unfold ir; omega) (by unfold ir; omega) (by omega)) ?_
      refine rx (xs_iload dm_Re_retyped_137 rfl) ?_
      refine rx (xs_istore dm_Re_retyped_139 (by decide)) ?_
      show rX E _ 141 [some (.inr (some E.1.length)), some (.inl f), some (.inl g), some (.inl y), some (.inl uf), some (.inl ut), some (.inl (pp + 1)), some (.inl (20 + (d : Int))), some (.inl (pp + 1)), some (.inl (pp + 1)), some (.inl (pp + 1))] [] _ _
      refine rx (xs_goto (tgt := 3) dm_Re_retyped_141 rfl) ?_
      refine rxq (ih r n (k + 1) _ _ _ _ _ _ (by omega) (by omega) (emL_sgo (by omega) (sg_tl hs) (by omega)) (emL_sgo (by omega) hT (by omega)) hr (by omega) (fun z hz => hi z (by simp [hz])) (by omega) (by omega) (by omega)) ?_
      rintro _ _ ⟨rfl, hq⟩
      refine ⟨rfl, fun p => ?_⟩
      rw [hq 0]
      simp only [List.cons_append, List.nil_append]
      rw [rtC_up (by omega), rtC_hd hrh (20 + (d : Int)) 0]
      simp [emL]
    · subst e
      simp only [List.cons_append, List.append_assoc, List.nil_append, List.length_append, List.length_cons, List.length_nil] at hs hN hg h3 hi
      refine rx (xs_iload dm_Re_retyped_3 rfl) ?_
      refine rx (xs_iload_n dm_Re_retyped_5 rfl) ?_
      refine rx (xs_icmp_ge_f (tgt := 144) dm_Re_retyped_6 rfl (by unfold ir; omega) (by unfold ir; omega) (by omega)) ?_
      refine rx (xs_aload_n dm_Re_retyped_9 rfl) ?_
      refine rx (rg (v := .inr (some (rA E 0))) dm_Re_retyped_10 lf_Re_7 rfl) ?_
      refine rx (xs_iload dm_Re_retyped_13 rfl) ?_
      refine rx (rlv 0 12 (by decide) dm_Re_retyped_15 (by omega) (by show _ < ((10000 : Nat) : Int); omega) (by rw [hpp, Int.toNat_natCast]; exact sg_hd hs)) ?_
      refine rx (xs_istore dm_Re_retyped_16 (by decide)) ?_
      show rX E _ 18 [some (.inr (some E.1.length)), some (.inl f), some (.inl g), some (.inl y), some (.inl uf), some (.inl ut), some (.inl pp), some (.inl 12), o8, o9, o10] [] _ _
      refine rx (xs_iload dm_Re_retyped_18 rfl) ?_
      refine rx (xs_bipush dm_Re_retyped_20 (by decide)) ?_
      have hs0 : sg q k [12] := sg_cons (sg_hd hs) sg_nil
      have o1 := emL_out q [12]
      simp only [List.length_cons, List.length_nil] at o1
      refine rx (xs_icmp_eq_f (tgt := 32) dm_Re_retyped_22 rfl (by unfold ir; omega) (by unfold ir; omega) (by decide)) ?_
      refine rx (xs_iload dm_Re_retyped_25 rfl) ?_
      refine rx (xs_bipush dm_Re_retyped_27 (by decide)) ?_
      refine rx (xs_icmp_ne_t (tgt := 39) dm_Re_retyped_29 rfl (by unfold ir; omega) (by unfold ir; omega) (by decide)) ?_
      refine rx (xs_iload dm_Re_retyped_39 rfl) ?_
      refine rx (xs_iconst dm_Re_retyped_41) ?_
      refine rx (xs_iadd dm_Re_retyped_42) ?_
      refine rx (xs_istore dm_Re_retyped_43 (by decide)) ?_
      show rX E _ 45 [some (.inr (some E.1.length)), some (.inl f), some (.inl g), some (.inl y), some (.inl uf), some (.inl ut), some (.inl pp), some (.inl 12), some (.inl (pp + 1)), o9, o10] [] _ _
      refine rx (xs_iload dm_Re_retyped_45 rfl) ?_
      refine rx (xs_bipush dm_Re_retyped_47 (by decide)) ?_
      refine rx (xs_icmp_eq_f (tgt := 66) dm_Re_retyped_49 rfl (by unfold ir; omega) (by unfold ir; omega) (by decide)) ?_
      refine rx (xs_iload dm_Re_retyped_52 rfl) ?_
      refine rx (xs_bipush dm_Re_retyped_54 (by decide)) ?_
      refine rx (xs_icmp_eq_f (tgt := 66) dm_Re_retyped_56 rfl (by unfold ir; omega) (by unfold ir; omega) (by decide)) ?_
      refine rx (xs_iload dm_Re_retyped_59 rfl) ?_
      refine rx (xs_bipush dm_Re_retyped_61 (by decide)) ?_
      refine rx (xs_icmp_ne_t (tgt := 75) dm_Re_retyped_63 rfl (by unfold ir; omega) (by unfold ir; omega) (by decide)) ?_
      refine rx (xs_iload dm_Re_retyped_75 rfl) ?_
      refine rx (xs_istore dm_Re_retyped_77 (by decide)) ?_
      show rX E _ 79 [some (.inr (some E.1.length)), some (.inl f), some (.inl g), some (.inl y), some (.inl uf), some (.inl ut), some (.inl pp), some (.inl 12), some (.inl (pp + 1)), some (.inl (pp + 1)), o10] [] _ _
      refine rx (xs_aload_n dm_Re_retyped_79 rfl) ?_
      refine rx (xs_iload dm_Re_retyped_80 rfl) ?_
      refine rx (xs_iload dm_Re_retyped_82 rfl) ?_
      refine rcV (as := [.inl pp, .inl (pp + 1)]) (rest := []) dm_Re_retyped_84 lc_Re_emitRow lm_Re_43 li_Re_emitRow (nr rfl rfl) rfl rfl rfl (nl rfl) (re_emitRow hs0 hpp (by simp; omega) (by omega) (by simp; omega)) ?_
      rintro _ _ ⟨rfl, rfl⟩
      show rX E _ 87 [some (.inr (some E.1.length)), some (.inl f), some (.inl g), some (.inl y), some (.inl uf), some (.inl ut), some (.inl pp), some (.inl 12), some (.inl (pp + 1)), some (.inl (pp + 1)), o10] [] _ _
      refine rx (xs_iload dm_Re_retyped_87 rfl) ?_
      refine rx (xs_istore dm_Re_retyped_89 (by decide)) ?_
      show rX E _ 91 [some (.inr (some E.1.length)), some (.inl f), some (.inl g), some (.inl y), some (.inl uf), some (.inl ut), some (.inl pp), some (.inl 12), some (.inl (pp + 1)), some (.inl (pp + 1)), some (.inl (pp + 1))] [] _ _
      refine rx (xs_iload dm_Re_retyped_91 rfl) ?_
      refine rx (xs_iload dm_Re_retyped_93 rfl) ?_
      refine rx (xs_icmp_ge_t (tgt := 137) dm_Re_retyped_95 rfl (by unfold ir; omega) (by unfold ir; omega) (by omega)) ?_
      refine rx (xs_iload dm_Re_retyped_137 rfl) ?_
      refine rx (xs_istore dm_Re_retyped_139 (by decide)) ?_
      show rX E _ 141 [some (.inr (some E.1.length)), some (.inl f), some (.inl g), some (.inl y), some (.inl uf), some (.inl ut), some (.inl (pp + 1)), some (.inl 12), some (.inl (pp + 1)), some (.inl (pp + 1)), some (.inl (pp + 1))] [] _ _
      refine rx (xs_goto (tgt := 3) dm_Re_retyped_141 rfl) ?_
      refine rxq (ih (f1 ++ (x1 ++ r)) (n + 2) (k + 1) _ _ _ _ _ _ (by simp; omega) (by omega) (emL_sgo (by omega) (sg_tl hs) (by simp; omega)) (emL_sgo (by omega) hT (by omega)) ⟨_, _, _, _, hf1, rfl, _, _, _, _, hx1, rfl, hr⟩ (by simp; omega) (fun z hz => hi z (by simp at hz; simp [hz])) (by omega) (by omega) (by simp; omega)) ?_
      rintro _ _ ⟨rfl, hq⟩
      refine ⟨rfl, fun p => ?_⟩
      rw [hq 12]
      simp only [List.cons_append, List.append_assoc]
      rw [rtC_up (by decide)]
      simp [emL]
    · subst e
      simp only [List.cons_append, List.append_assoc, List.nil_append, List.length_append, List.length_cons, List.length_nil] at hs hN hg h3 hi
      refine rx (xs_iload dm_Re_retyped_3 rfl) ?_
      refine rx (xs_iload_n dm_Re_retyped_5 rfl) ?_
      refine rx (xs_icmp_ge_f (tgt := 144) dm_Re_retyped_6 rfl (by unfold ir; omega) (by unfold ir; omega) (by omega)) ?_
      refine rx (xs_aload_n dm_Re_retyped_9 rfl) ?_
      refine rx (rg (v := .inr (some (rA E 0))) dm_Re_retyped_10 lf_Re_7 rfl) ?_
      refine rx (xs_iload dm_Re_retyped_13 rfl) ?_
      refine rx (rlv 0 13 (by decide) dm_Re_retyped_15 (by omega) (by show _ < ((10000 : Nat) : Int); omega) (by rw [hpp, Int.toNat_natCast]; exact sg_hd hs)) ?_
      refine rx (xs_istore dm_Re_retyped_16 (by decide)) ?_
      show rX E _ 18 [some (.inr (some E.1.length)), some (.inl f), some (.inl g), some (.inl y), some (.inl uf), some (.inl ut), some (.inl pp), some (.inl 13), o8, o9, o10] [] _ _
      refine rx (xs_iload dm_Re_retyped_18 rfl) ?_
      refine rx (xs_bipush dm_Re_retyped_20 (by decide)) ?_
      refine rx (xs_icmp_eq_f (tgt := 32) dm_Re_retyped_22 rfl (by unfold ir; omega) (by unfold ir; omega) (by decide)) ?_
      refine rx (xs_iload dm_Re_retyped_25 rfl) ?_
      refine rx (xs_bipush dm_Re_retyped_27 (by decide)) ?_
      refine rx (xs_icmp_ne_t (tgt := 39) dm_Re_retyped_29 rfl (by unfold ir; omega) (by unfold ir; omega) (by decide)) ?_
      refine rx (xs_iload dm_Re_retyped_39 rfl) ?_
      refine rx (xs_iconst dm_Re_retyped_41) ?_
      refine rx (xs_iadd dm_Re_retyped_42) ?_
      refine rx (xs_istore dm_Re_retyped_43 (by decide)) ?_
      show rX E _ 45 [some (.inr (some E.1.length)), some (.inl f), some (.inl g), some (.inl y), some (.inl uf), some (.inl ut), some (.inl pp), some (.inl 13), some (.inl (pp + 1)), o9, o10] [] _ _
      refine rx (xs_iload dm_Re_retyped_45 rfl) ?_
      refine rx (xs_bipush dm_Re_retyped_47 (by decide)) ?_
      refine rx (xs_icmp_eq_f (tgt := 66) dm_Re_retyped_49 rfl (by unfold ir; omega) (by unfold ir; omega) (by decide)) ?_
      refine rx (xs_iload dm_Re_retyped_52 rfl) ?_
      refine rx (xs_bipush dm_Re_retyped_54 (by decide)) ?_
      refine rx (xs_icmp_eq_f (tgt := 66) dm_Re_retyped_56 rfl (by unfold ir; omega) (by unfold ir; omega) (by decide)) ?_
      refine rx (xs_iload dm_Re_retyped_59 rfl) ?_
      refine rx (xs_bipush dm_Re_retyped_61 (by decide)) ?_
      refine rx (xs_icmp_ne_f (tgt := 75) dm_Re_retyped_63 rfl (by unfold ir; omega) (by unfold ir; omega) (by decide)) ?_
      refine rx (xs_aload_n dm_Re_retyped_66 rfl) ?_
      refine rx (xs_iload dm_Re_retyped_67 rfl) ?_
      have hs2 := sg_tl hs
      rw [sg_app] at hs2
      have hs0 : sg q k [13] := sg_cons (sg_hd hs) sg_nil
      have o1 := emL_out q [13]
      simp only [List.length_cons, List.length_nil] at o1
      refine rcV (as := [.inl (pp + 1)]) (rest := []) dm_Re_retyped_69 lc_Re_skipType lm_Re_36 li_Re_skipType (nr rfl rfl) rfl rfl rfl (nl rfl) (re_skipType (p := k + 1) hs2.1 hs1 (by omega) (by omega)) ?_
      rintro _ q1 ⟨rfl, hq1⟩
      have hq1 := hq1.symm
      subst hq1
      show rX E _ 72 [some (.inr (some E.1.length)), some (.inl f), some (.inl g), some (.inl y), some (.inl uf), some (.inl ut), some (.inl pp), some (.inl 13), some (.inl (pp + 1)), o9, o10] [.inl (((k + 1 : Nat) : Int) + (s.length : Int))] _ _
      refine rx (xs_goto (tgt := 77) dm_Re_retyped_72 rfl) ?_
      refine rx (xs_istore dm_Re_retyped_77 (by decide)) ?_
      show rX E _ 79 [some (.inr (some E.1.length)), some (.inl f), some (.inl g), some (.inl y), some (.inl uf), some (.inl ut), some (.inl pp), some (.inl 13), some (.inl (pp + 1)), some (.inl (((k + 1 : Nat) : Int) + (s.length : Int))), o10] [] _ _
      refine rx (xs_aload_n dm_Re_retyped_79 rfl) ?_
      refine rx (xs_iload dm_Re_retyped_80 rfl) ?_
      refine rx (xs_iload dm_Re_retyped_82 rfl) ?_
      refine rcV (as := [.inl pp, .inl (pp + 1)]) (rest := []) dm_Re_retyped_84 lc_Re_emitRow lm_Re_43 li_Re_emitRow (nr rfl rfl) rfl rfl rfl (nl rfl) (re_emitRow hs0 hpp (by simp; omega) (by omega) (by simp; omega)) ?_
      rintro _ _ ⟨rfl, rfl⟩
      show rX E _ 87 [some (.inr (some E.1.length)), some (.inl f), some (.inl g), some (.inl y), some (.inl uf), some (.inl ut), some (.inl pp), some (.inl 13), some (.inl (pp + 1)), some (.inl (((k + 1 : Nat) : Int) + (s.length : Int))), o10] [] _ _
      refine rx (xs_iload dm_Re_retyped_87 rfl) ?_
      refine rx (xs_istore dm_Re_retyped_89 (by decide)) ?_
      show rX E _ 91 [some (.inr (some E.1.length)), some (.inl f), some (.inl g), some (.inl y), some (.inl uf), some (.inl ut), some (.inl pp), some (.inl 13), some (.inl (pp + 1)), some (.inl (((k + 1 : Nat) : Int) + (s.length : Int))), some (.inl (pp + 1))] [] _ _
      refine re_retyped_i E hy hK huf hut hTl s (k + 1) (emL q [13]) _ (by omega) (emL_sgo (by omega) hs2.1 (by omega)) (emL_sgo (by omega) hT (by omega)) (by omega) (isTy_ir hs1) (by omega) (by omega) (by omega) (fun kk' => ?_)
      have o2 := emL_out (emL q [13]) (tsb K T s)
      have hts : ((tsb K T s).length : Int) ≤ 40 * (s.length : Int) := tsb_len hTl s
      refine rx (xs_iload dm_Re_retyped_137 rfl) ?_
      refine rx (xs_istore dm_Re_retyped_139 (by decide)) ?_
      show rX E _ 141 [some (.inr (some E.1.length)), some (.inl f), some (.inl g), some (.inl y), some (.inl uf), some (.inl ut), some (.inl (((k + 1 : Nat) : Int) + (s.length : Int))), some (.inl 13), some (.inl (pp + 1)), some (.inl (((k + 1 : Nat) : Int) + (s.length : Int))), some (.inl kk')] [] _ _
      refine rx (xs_goto (tgt := 3) dm_Re_retyped_141 rfl) ?_
      refine rxq (ih (u ++ r) (n + 1) (k + 1 + s.length) _ _ _ _ _ _ (by simp; omega) (by omega) (emL_sgo (by omega) (emL_sgo (by omega) hs2.2 (by simp; omega)) (by simp; omega)) (emL_sgo (by omega) (emL_sgo (by omega) hT (by omega)) (by omega)) ⟨_, _, _, _, hu, rfl, hr⟩ (by simp; omega) (fun z hz => hi z (by simp at hz; simp [hz])) (by omega) (by omega) (by simp; omega)) ?_
      rintro _ _ ⟨rfl, hq⟩
      refine ⟨rfl, fun p => ?_⟩
      rw [hq 0]
      simp only [List.cons_append, List.append_assoc]
      rw [rtC_up (by decide), rtC_low (isTy_low hs1) (isTm_hdT hu r) _ (by decide) (by decide) 0]
      simp [emL]
set_option maxHeartbeats 4000000 in
set_option maxRecDepth 100000 in
theorem re_retyped {q : rS} {f g y uf ut : Int} {pt pu : Nat} {t a T : List Int} {K : Int} (hs : sg q pt t) (hT : sg q pu T) (ht : isTm [] t a) (hy : y = 2 + K) (hK : 0 ≤ K ∧ K ≤ 3) (hf : f = pt) (hg : g = (pt : Int) + (t.length : Int)) (huf : uf = pu) (hut : ut = (pu : Int) + (T.length : Int)) (hTl : T.length ≤ 40) (htl : t.length ≤ 10000) (h1 : g ≤ q 6 5) (h2 : ut ≤ q 6 5) (h3 : q 6 5 + 40 * (t.length : Int) ≤ 10000) : rM mm_Re_retyped [.inl f, .inl g, .inl y, .inl uf, .inl ut] q (fun r q' => r = none ∧ ∀ p, q' = emL q (rtC K T t p)) := by
  refine rm rfl (nl rfl) (fun E => ?_)
  show rX E _ 0 [some (.inr (some E.1.length)), some (.inl f), some (.inl g), some (.inl y), some (.inl uf), some (.inl ut), none, none, none, none, none] [] _ _
  refine rx (xs_iload_n dm_Re_retyped_0 rfl) ?_
  refine rx (xs_istore dm_Re_retyped_1 (by decide)) ?_
  show rX E _ 3 [some (.inr (some E.1.length)), some (.inl f), some (.inl g), some (.inl y), some (.inl uf), some (.inl ut), some (.inl f), none, none, none, none] [] _ _
  exact re_retyped_l E hy hK huf hut hTl (t.length + 1) t 1 pt q _ _ _ _ _ (by omega) hf hs hT ⟨_, _, _, [], ht, by simp, rfl⟩ hg (isTm_ir ht (by simp; omega)) h1 h2 h3
end
section
/-- the type variables of a term all stand in T; the symbol ahead tells names from types -/
def tvC (T : List Int) : List Int → Int → Prop
  | [], _ => True
  | s :: l, p => ((s < 10 ∧ p ≠ 10 ∧ p ≠ 11) ∧ 2 ≤ s → s ∈ T) ∧ tvC T l s
theorem tvC_hd {T r : List Int} (h : hdT r) (p p' : Int) : tvC T r p ↔ tvC T r p' := by
  rcases h with h | ⟨s, l, h, hs⟩
  · subst h; rfl
  · subst h
    unfold tvC
    have h1 : ∀ x : Int, ((s < 10 ∧ x ≠ 10 ∧ x ≠ 11) ∧ 2 ≤ s → s ∈ T) ↔ True := fun x => ⟨fun _ => trivial, fun _ h => by omega⟩
    rw [h1, h1]
theorem tvC_up {T l : List Int} {s : Int} (hs : ¬ s < 10) (p : Int) : tvC T (s :: l) p ↔ tvC T l s := by
  rw [tvC]
  exact ⟨fun h => h.2, fun h => ⟨fun h2 => by omega, h⟩⟩
theorem tvC_nm {T l : List Int} {s p : Int} (hp : p = 10 ∨ p = 11) : tvC T (s :: l) p ↔ tvC T l s := by
  rw [tvC]
  exact ⟨fun h => h.2, fun h => ⟨fun h2 => by omega, h⟩⟩
theorem tvC_low {T l r : List Int} (hl : ∀ s ∈ l, s < 10) (hr : hdT r) : ∀ p, p ≠ 10 → p ≠ 11 → ∀ p', (tvC T (l ++ r) p ↔ (∀ s ∈ l, 2 ≤ s → s ∈ T) ∧ tvC T r p') := by
  induction l with
  | nil => intro p _ _ p'; simp; exact tvC_hd hr p p'
  | cons s l ih =>
    intro p h10 h11 p'
    have h0 := hl s List.mem_cons_self
    have i1 := ih (fun z hz => hl z (List.mem_cons_of_mem _ hz)) s (by omega) (by omega) p'
    rw [List.cons_append, tvC, i1]
    constructor
    · rintro ⟨a, b, c⟩
      refine ⟨fun z hz => ?_, c⟩
      rcases List.mem_cons.mp hz with e | e
      · subst e; exact fun h2 => a ⟨⟨h0, h10, h11⟩, h2⟩
      · exact b z e
    · rintro ⟨a, c⟩
      exact ⟨fun h2 => a s List.mem_cons_self h2.2, fun z hz => a z (List.mem_cons_of_mem _ hz), c⟩
def clC (T l : List Int) : Prop := (∀ s ∈ l, s ≠ 10) ∧ tvC T l 0
set_option maxHeartbeats 4000000 in
set_option maxRecDepth 100000 in
theorem re_closed_i {q : rS} {f g tf te nx : Int} {pT : Nat} {T : List Int} {R : Int} {o6 o7 : Option xV} (E : rE) (hT : sg q pT T) (htf : tf = pT) (hte : te = (pT : Int) + (T.length : Int)) (hT1 : pT + T.length ≤ 10000) (hTi : ∀ s ∈ T, ir s) (l : List Int) : ∀ (k : Nat) (kk : Int), kk = k → sg q k l → nx = (k : Int) + (l.length : Int) → k + l.length ≤ 10000 → (∀ s ∈ l, ir s) → (¬ (∀ s ∈ l, 2 ≤ s → s ∈ T) → R = 0) → ((∀ s ∈ l, 2 ≤ s → s ∈ T) → ∀ kk', rX E mm_Re_closed 123 [some (.inr (some E.1.length)), some (.inl f), some (.inl g), some (.inl tf), some (.inl te), some (.inl nx), o6, o7, some (.inl kk')] [] q (fun r q' => r = some (.inl R) ∧ q' = q)) → rX E mm_Re_closed 80 [some (.inr (some E.1.length)), some (.inl f), some (.inl g), some (.inl tf), some (.inl te), some (.inl nx), o6, o7, some (.inl kk)] [] q (fun r q' => r = some (.inl R) ∧ q' = q) := by
  induction l with
  | nil =>
    intro k kk hkk hs hnx h1 hi hR hQ
    simp at hnx
    refine rx (xs_iload dm_Re_closed_80 rfl) ?_
    refine rx (xs_iload dm_Re_closed_82 rfl) ?_
    refine rx (xs_icmp_ge_t (tgt := 123) dm_Re_closed_84 rfl (by unfold ir; omega) (by unfold ir; omega) (by omega)) ?_
    exact hQ (by simp) _
  | cons s l ih =>
    intro k kk hkk hs hnx h1 hi hR hQ
    simp only [List.length_cons] at hnx h1
    have his : ir s := hi s List.mem_cons_self
    have hi2 : ∀ z ∈ l, ir z := fun z hz => hi z (List.mem_cons_of_mem _ hz)
    refine rx (xs_iload dm_Re_closed_80 rfl) ?_
    refine rx (xs_iload dm_Re_closed_82 rfl) ?_
    refine rx (xs_icmp_ge_f (tgt := 123) dm_Re_closed_84 rfl (by unfold ir; omega) (by unfold ir; omega) (by omega)) ?_
    refine rx (xs_aload_n dm_Re_closed_87 rfl) ?_
    refine rx (rg (v := .inr (some (rA E 0))) dm_Re_closed_88 lf_Re_7 rfl) ?_
    refine rx (xs_iload dm_Re_closed_91 rfl) ?_
    refine rx (rlv 0 s (by decide) dm_Re_closed_93 (by omega) (by show _ < ((10000 : Nat) : Int); omega) (by rw [hkk, Int.toNat_natCast]; exact sg_hd hs)) ?_
    refine rx (xs_iconst dm_Re_closed_94) ?_
    refine xx_icmp_lt (tgt := 117) dm_Re_closed_95 rfl his (by unfold ir; omega) (fun hc => ?_) (fun hc => ?_)
    · change rX E _ 117 _ _ _ _
      refine rx (xs_iinc dm_Re_closed_117 rfl (by decide)) ?_
      show rX E _ 120 [some (.inr (some E.1.length)), some (.inl f), some (.inl g), some (.inl tf), some (.inl te), some (.inl nx), o6, o7, some (.inl (kk + 1))] [] _ _
      refine rx (xs_goto (tgt := 80) dm_Re_closed_120 rfl) ?_
      exact ih (k + 1) _ (by omega) (sg_tl hs) (by omega) (by omega) hi2 (fun h => hR (fun h2 => h (fun z hz => h2 z (List.mem_cons_of_mem _ hz)))) (fun h kk' => hQ (fun z hz => by
        rcases List.mem_cons.mp hz with e | e
        · subst e; exact fun h2 => by omega
        · exact h z e) kk')
    · change rX E _ 98 _ _ _ _
      refine rx (xs_aload_n dm_Re_closed_98 rfl) ?_
      refine rx (xs_aload_n dm_Re_closed_99 rfl) ?_
      refine rx (rg (v := .inr (some (rA E 0))) dm_Re_closed_100 lf_Re_7 rfl) ?_
      refine rx (xs_iload dm_Re_closed_103 rfl) ?_
      refine rx (rlv 0 s (by decide) dm_Re_closed_105 (by omega) (by show _ < ((10000 : Nat) : Int); omega) (by rw [hkk, Int.toNat_natCast]; exact sg_hd hs)) ?_
      refine rx (xs_iload_n dm_Re_closed_106 rfl) ?_
      refine rx (xs_iload dm_Re_closed_107 rfl) ?_
      refine rcV (as := [.inl s, .inl tf, .inl te]) (rest := []) dm_Re_closed_109 lc_Re_occurs lm_Re_155 li_Re_occurs (nr rfl rfl) rfl rfl rfl (nl rfl) (re_occurs hT his htf hte hT1 hTi) ?_
      rintro _ q1 ⟨rfl, hq1⟩
      have hq1 := hq1.symm
      subst hq1
      show rX E _ 112 [some (.inr (some E.1.length)), some (.inl f), some (.inl g), some (.inl tf), some (.inl te), some (.inl nx), o6, o7, some (.inl kk)] [.inl (if s ∈ T then 1 else 0)] _ _
      by_cases hm : s ∈ T
      · rw [if_pos hm]
        refine rx (xs_if_ne_t (tgt := 117) dm_Re_closed_112 rfl (by unfold ir; omega) (by decide)) ?_
        refine rx (xs_iinc dm_Re_closed_117 rfl (by decide)) ?_
        show rX E _ 120 [some (.inr (some E.1.length)), some (.inl f), some (.inl g), some (.inl tf), some (.inl te), some (.inl nx), o6, o7, some (.inl (kk + 1))] [] _ _
        refine rx (xs_goto (tgt := 80) dm_Re_closed_120 rfl) ?_
        exact ih (k + 1) _ (by omega) (sg_tl hs) (by omega) (by omega) hi2 (fun h => hR (fun h2 => h (fun z hz => h2 z (List.mem_cons_of_mem _ hz)))) (fun h kk' => hQ (fun z hz => by
          rcases List.mem_cons.mp hz with e | e
          · subst e; exact fun _ => hm
          · exact h z e) kk')
      · rw [if_neg hm]
        refine rx (xs_if_ne_f (tgt := 117) dm_Re_closed_112 rfl (by unfold ir; omega) rfl) ?_
        refine rx (xs_iconst dm_Re_closed_115) ?_
        exact rrz dm_Re_closed_116 rfl (Or.inl rfl) ⟨vi (hR (fun h2 => hm (h2 s List.mem_cons_self (by omega)))).symm, rfl⟩
set_option maxHeartbeats 4000000 in
set_option maxRecDepth 100000 in
theorem re_closed_l {q : rS} {f g tf te : Int} {pT : Nat} {T : List Int} {R : Int} (E : rE) (hT : sg q pT T) (htf : tf = pT) (hte : te = (pT : Int) + (T.length : Int)) (hT1 : pT + T.length ≤ 10000) (hTi : ∀ s ∈ T, ir s) : ∀ (N : Nat) (l : List Int) (n k : Nat) (pp : Int) (o6 o7 o8 : Option xV), l.length < N → pp = k → sg q k l → tms n l → g = (k : Int) + (l.length : Int) → k + l.length ≤ 10000 → (∀ s ∈ l, ir s) → (clC T l → R = 1) → (¬ clC T l → R = 0) → rX E mm_Re_closed 3 [some (.inr (some E.1.length)), some (.inl f), some (.inl g), some (.inl tf), some (.inl te), some (.inl pp), o6, o7, o8] [] q (fun r q' => r = some (.inl R) ∧ q' = q) := by
  intro N
  induction N with
  | zero => intro l n k pp o6 o7 o8 hN; omega
  | succ N ih =>
    intro l n k pp o6 o7 o8 hN hpp hs ht hg h1 hi hR1 hR0
    cases n with
    | zero =>
      have hl : l = [] := ht
      subst hl
      simp at hg
      refine rx (xs_iload dm_Re_closed_3 rfl) ?_
      refine rx (xs_iload_n dm_Re_closed_5 rfl) ?_
      refine rx (xs_icmp_ge_t (tgt := 126) dm_Re_closed_6 rfl (by unfold ir; omega) (by unfold ir; omega) (by omega)) ?_
      refine rx (xs_iconst dm_Re_closed_126) ?_
      exact rrz dm_Re_closed_127 rfl (Or.inr rfl) ⟨vi (hR1 ⟨by simp, trivial⟩).symm, rfl⟩
    | succ n =>
    obtain ⟨G, t, a, r, htm, hl, hr⟩ := ht
    subst hl
    have hrh := tms_hdT hr
    rcases isTm_inv htm with ⟨m, m0, m7, ha, e⟩ | ⟨m, m0, m7, ha, e⟩ | ⟨s, ha, e, -⟩ | ⟨d, hd, ha, e⟩ | ⟨f1, x1, s, hs1, ha1, hf1, hx1, e⟩ | ⟨s, u, b, hs1, hb1, hu, e, -⟩
    · subst e
      simp only [List.cons_append, List.append_assoc, List.nil_append, List.length_append, List.length_cons, List.length_nil] at hs hN hg h1 hi hR1 hR0
      refine rx (xs_iload dm_Re_closed_3 rfl) ?_
      refine rx (xs_iload_n dm_Re_closed_5 rfl) ?_
      refine rx (xs_icmp_ge_f (tgt := 126) dm_Re_closed_6 rfl (by unfold ir; omega) (by unfold ir; omega) (by omega)) ?_
      refine rx (xs_aload_n dm_Re_closed_9 rfl) ?_
      refine rx (rg (v := .inr (some (rA E 0))) dm_Re_closed_10 lf_Re_7 rfl) ?_
      refine rx (xs_iload dm_Re_closed_13 rfl) ?_
      refine rx (rlv 0 10 (by decide) dm_Re_closed_15 (by omega) (by show _ < ((10000 : Nat) : Int); omega) (by rw [hpp, Int.toNat_natCast]; exact sg_hd hs)) ?_
      refine rx (xs_istore dm_Re_closed_16 (by decide)) ?_
      show rX E _ 18 [some (.inr (some E.1.length)), some (.inl f), some (.inl g), some (.inl tf), some (.inl te), some (.inl pp), some (.inl 10), o7, o8] [] _ _
      refine rx (xs_iload dm_Re_closed_18 rfl) ?_
      refine rx (xs_bipush dm_Re_closed_20 (by decide)) ?_
      refine rx (xs_icmp_ne_f (tgt := 27) dm_Re_closed_22 rfl (by unfold ir; omega) (by unfold ir; omega) (by decide)) ?_
      refine rx (xs_iconst dm_Re_closed_25) ?_
      exact rrz dm_Re_closed_26 rfl (Or.inl rfl) ⟨vi (hR0 (fun h => h.1 10 List.mem_cons_self rfl)).symm, rfl⟩
    · subst e
      simp only [List.cons_append, List.append_assoc, List.nil_append, List.length_append, List.length_cons, List.length_nil] at hs hN hg h1 hi hR1 hR0
      refine rx (xs_iload dm_Re_closed_3 rfl) ?_
      refine rx (xs_iload_n dm_Re_closed_5 rfl) ?_
      refine rx (xs_icmp_ge_f (tgt := 126) dm_Re_closed_6 rfl (by unfold ir; omega) (by unfold ir; omega) (by omega)) ?_
      refine rx (xs_aload_n dm_Re_closed_9 rfl) ?_
      refine rx (rg (v := .inr (some (rA E 0))) dm_Re_closed_10 lf_Re_7 rfl) ?_
      refine rx (xs_iload dm_Re_closed_13 rfl) ?_
      refine rx (rlv 0 11 (by decide) dm_Re_closed_15 (by omega) (by show _ < ((10000 : Nat) : Int); omega) (by rw [hpp, Int.toNat_natCast]; exact sg_hd hs)) ?_
      refine rx (xs_istore dm_Re_closed_16 (by decide)) ?_
      show rX E _ 18 [some (.inr (some E.1.length)), some (.inl f), some (.inl g), some (.inl tf), some (.inl te), some (.inl pp), some (.inl 11), o7, o8] [] _ _
      refine rx (xs_iload dm_Re_closed_18 rfl) ?_
      refine rx (xs_bipush dm_Re_closed_20 (by decide)) ?_
      have hcl : clC T (11 :: m :: (a ++ r)) ↔ (∀ z ∈ a, 2 ≤ z → z ∈ T) ∧ clC T r := by
        unfold clC
        rw [tvC_up (by decide), tvC_nm (Or.inr rfl), tvC_low (isTy_low ha) hrh _ (by omega) (by omega) 0]
        constructor
        · rintro ⟨h2, h3, h4⟩
          exact ⟨h3, fun z hz => h2 z (by simp [hz]), h4⟩
        · rintro ⟨h3, h2, h4⟩
          refine ⟨fun z hz => ?_, h3, h4⟩
          simp at hz
          rcases hz with hz | hz | hz | hz
          · omega
          · omega
          · have := isTy_sym ha z hz; omega
          · exact h2 z hz
      rw [hcl] at hR1 hR0
      refine rx (xs_icmp_ne_t (tgt := 27) dm_Re_closed_22 rfl (by unfold ir; omega) (by unfold ir; omega) (by decide)) ?_
      refine rx (xs_iload dm_Re_closed_27 rfl) ?_
      refine rx (xs_bipush dm_Re_closed_29 (by decide)) ?_
      refine rx (xs_icmp_ne_f (tgt := 41) dm_Re_closed_31 rfl (by unfold ir; omega) (by unfold ir; omega) (by decide)) ?_
      refine rx (xs_iload dm_Re_closed_34 rfl) ?_
      refine rx (xs_iconst dm_Re_closed_36) ?_
      refine rx (xs_iadd dm_Re_closed_37) ?_
      refine rx (xs_goto (tgt := 45) dm_Re_closed_38 rfl) ?_
      refine rx (xs_istore dm_Re_closed_45 (by decide)) ?_
      show rX E _ 47 [some (.inr (some E.1.length)), some (.inl f), some (.inl g), some (.inl tf), some (.inl te), some (.inl pp), some (.inl 11), some (.inl (pp + 2)), o8] [] _ _
      refine rx (xs_iload dm_Re_closed_47 rfl) ?_
      refine rx (xs_bipush dm_Re_closed_49 (by decide)) ?_
      refine rx (xs_icmp_eq_t (tgt := 61) dm_Re_closed_51 rfl (by unfold ir; omega) (by unfold ir; omega) (by decide)) ?_
      refine rx (xs_aload_n dm_Re_closed_61 rfl) ?_
      refine rx (xs_iload dm_Re_closed_62 rfl) ?_
      have hs2 := sg_tl (sg_tl hs)
      rw [sg_app] at hs2
      refine rcV (as := [.inl (pp + 2)]) (rest := []) dm_Re_closed_64 lc_Re_skipType lm_Re_36 li_Re_skipType (nr rfl rfl) rfl rfl rfl (nl rfl) (re_skipType (p := k + 1 + 1) hs2.1 ha (by omega) (by omega)) ?_
      rintro _ q1 ⟨rfl, hq1⟩
      have hq1 := hq1.symm
      subst hq1
      show rX E _ 67 [some (.inr (some E.1.length)), some (.inl f), some (.inl g), some (.inl tf), some (.inl te), some (.inl pp), some (.inl 11), some (.inl (pp + 2)), o8] [.inl (((k + 1 + 1 : Nat) : Int) + (a.length : Int))] _ _
      refine rx (xs_goto (tgt := 74) dm_Re_closed_67 rfl) ?_
      refine rx (xs_istore dm_Re_closed_74 (by decide)) ?_
      show rX E _ 76 [some (.inr (some E.1.length)), some (.inl f), some (.inl g), some (.inl tf), some (.inl te), some (.inl (((k + 1 + 1 : Nat) : Int) + (a.length : Int))), some (.inl 11), some (.inl (pp + 2)), o8] [] _ _
      refine rx (xs_iload dm_Re_closed_76 rfl) ?_
      refine rx (xs_istore dm_Re_closed_78 (by decide)) ?_
      show rX E _ 80 [some (.inr (some E.1.length)), some (.inl f), some (.inl g), some (.inl tf), some (.inl te), some (.inl (((k + 1 + 1 : Nat) : Int) + (a.length : Int))), some (.inl 11), some (.inl (pp + 2)), some (.inl (pp + 2))] [] _ _
      refine re_closed_i E hT htf hte hT1 hTi a (k + 1 + 1) _ (by omega) hs2.1 (by omega) (by omega) (isTy_ir ha) (fun h => hR0 (fun h2 => h h2.1)) (fun h kk' => ?_)
      refine rx (xs_goto (tgt := 3) dm_Re_closed_123 rfl) ?_
      exact ih r n (k + 1 + 1 + a.length) _ _ _ _ (by omega) (by omega) hs2.2 hr (by omega) (by omega) (fun z hz => hi z (by simp [hz])) (fun h2 => hR1 ⟨h, h2⟩) (fun h2 => hR0 (fun h3 => h2 h3.2))
    · subst e
      simp only [List.cons_append, List.append_assoc, List.nil_append, List.length_append, List.length_cons, List.length_nil] at hs hN hg h1 hi hR1 hR0
      refine rx (xs_iload dm_Re_closed_3 rfl) ?_
      refine rx (xs_iload_n dm_Re_closed_5 rfl) ?_
      refine rx (xs_icmp_ge_f (tgt := 126) dm_Re_closed_6 rfl (by unfold ir; omega) (by unfold ir; omega) (by omega)) ?_
      refine rx (xs_aload_n dm_Re_closed_9 rfl) ?_
      refine rx (rg (v := .inr (some (rA E 0))) dm_Re_closed_10 lf_Re_7 rfl) ?_
      refine rx (xs_iload dm_Re_closed_13 rfl) ?_
      refine rx (rlv 0 11 (by decide) dm_Re_closed_15 (by omega) (by show _ < ((10000 : Nat) : Int); omega) (by rw [hpp, Int.toNat_natCast]; exact sg_hd hs)) ?_
      refine rx (xs_istore dm_Re_closed_16 (by decide)) ?_
      show rX E _ 18 [some (.inr (some E.1.length)), some (.inl f), some (.inl g), some (.inl tf), some (.inl te), some (.inl pp), some (.inl 11), o7, o8] [] _ _
      refine rx (xs_iload dm_Re_closed_18 rfl) ?_
      refine rx (xs_bipush dm_Re_closed_20 (by decide)) ?_
      have hcl : clC T (11 :: 0 :: (s ++ r)) ↔ (∀ z ∈ s, 2 ≤ z → z ∈ T) ∧ clC T r := by
        unfold clC
        rw [tvC_up (by decide), tvC_nm (Or.inr rfl), tvC_low (isTy_low ha) hrh _ (by omega) (by omega) 0]
        constructor
        · rintro ⟨h2, h3, h4⟩
          exact ⟨h3, fun z hz => h2 z (by simp [hz]), h4⟩
        · rintro ⟨h3, h2, h4⟩
          refine ⟨fun z hz => ?_, h3, h4⟩
          simp at hz
          rcases hz with hz | hz | hz | hz
          · omega
          · omega
          · have := isTy_sym ha z hz; omega
          · exact h2 z hz
      rw [hcl] at hR1 hR0
      refine rx (xs_icmp_ne_t (tgt := 27) dm_Re_closed_22 rfl (by unfold ir; omega) (by unfold ir; omega) (by decide)) ?_
      refine rx (xs_iload dm_Re_closed_27 rfl) ?_
      refine rx (xs_bipush dm_Re_closed_29 (by decide)) ?_
      refine rx (xs_icmp_ne_f (tgt := 41) dm_Re_closed_31 rfl (by unfold ir; omega) (by unfold ir; omega) (by decide)) ?_
      refine rx (xs_iload dm_Re_closed_34 rfl) ?_
      refine rx (xs_iconst dm_Re_closed_36) ?_
      refine rx (xs_iadd dm_Re_closed_37) ?_
      refine rx (xs_goto (tgt := 45) dm_Re_closed_38 rfl) ?_
      refine rx (xs_istore dm_Re_closed_45 (by decide)) ?_
      show rX E _ 47 [some (.inr (some E.1.length)), some (.inl f), some (.inl g), some (.inl tf), some (.inl te), some (.inl pp), some (.inl 11), some (.inl (pp + 2)), o8] [] _ _
      refine rx (xs_iload dm_Re_closed_47 rfl) ?_
      refine rx (xs_bipush dm_Re_closed_49 (by decide)) ?_
      refine rx (xs_icmp_eq_t (tgt := 61) dm_Re_closed_51 rfl (by unfold ir; omega) (by unfold ir; omega) (by decide)) ?_
      refine rx (xs_aload_n dm_Re_closed_61 rfl) ?_
      refine rx (xs_iload dm_Re_closed_62 rfl) ?_
      have hs2 := sg_tl (sg_tl hs)
      rw [sg_app] at hs2
      refine rcV (as := [.inl (pp + 2)]) (rest := []) dm_Re_closed_64 lc_Re_skipType lm_Re_36 li_Re_skipType (nr rfl rfl) rfl rfl rfl (nl rfl) (re_skipType (p := k + 1 + 1) hs2.1 ha (by omega) (by omega)) ?_
      rintro _ q1 ⟨rfl, hq1⟩
      have hq1 := hq1.symm
      subst hq1
      show rX E _ 67 [some (.inr (some E.1.length)), some (.inl f), some (.inl g), some (.inl tf), some (.inl te), some (.inl pp), some (.inl 11), some (.inl (pp + 2)), o8] [.inl (((k + 1 + 1 : Nat) : Int) + (s.length : Int))] _ _
      refine rx (xs_goto (tgt := 74) dm_Re_closed_67 rfl) ?_
      refine rx (xs_istore dm_Re_closed_74 (by decide)) ?_
      show rX E _ 76 [some (.inr (some E.1.length)), some (.inl f), some (.inl g), some (.inl tf), some (.inl te), some (.inl (((k + 1 + 1 : Nat) : Int) + (s.length : Int))), some (.inl 11), some (.inl (pp + 2)), o8] [] _ _
      refine rx (xs_iload dm_Re_closed_76 rfl) ?_
      refine rx (xs_istore dm_Re_closed_78 (by decide)) ?_
      show rX E _ 80 [some (.inr (some E.1.length)), some (.inl f), some (.inl g), some (.inl tf), some (.inl te), some (.inl (((k + 1 + 1 : Nat) : Int) + (s.length : Int))), some (.inl 11), some (.inl (pp + 2)), some (.inl (pp + 2))] [] _ _
      refine re_closed_i E hT htf hte hT1 hTi s (k + 1 + 1) _ (by omega) hs2.1 (by omega) (by omega) (isTy_ir ha) (fun h => hR0 (fun h2 => h h2.1)) (fun h kk' => ?_)
      refine rx (xs_goto (tgt := 3) dm_Re_closed_123 rfl) ?_
      exact ih r n (k + 1 + 1 + s.length) _ _ _ _ (by omega) (by omega) hs2.2 hr (by omega) (by omega) (fun z hz => hi z (by simp [hz])) (fun h2 => hR1 ⟨h, h2⟩) (fun h2 => hR0 (fun h3 => h2 h3.2))
    · subst e
      simp only [List.cons_append, List.append_assoc, List.nil_append, List.length_append, List.length_cons, List.length_nil] at hs hN hg h1 hi hR1 hR0
      refine rx (xs_iload dm_Re_closed_3 rfl) ?_
      refine rx (xs_iload_n dm_Re_closed_5 rfl) ?_
      refine rx (xs_icmp_ge_f (tgt := 126) dm_Re_closed_6 rfl (by unfold ir; omega) (by unfold ir; omega) (by omega)) ?_
      refine rx (xs_aload_n dm_Re_closed_9 rfl) ?_
      refine rx (rg (v := .inr (some (rA E 0))) dm_Re_closed_10 lf_Re_7 rfl) ?_
      refine rx (xs_iload dm_Re_closed_13 rfl) ?_
      refine rx (rlv 0 (20 + (d : Int)) (by decide) dm_Re_closed_15 (by omega) (by show _ < ((10000 : Nat) : Int); omega) (by rw [hpp, Int.toNat_natCast]; exact sg_hd hs)) ?_
      refine rx (xs_istore dm_Re_closed_16 (by decide)) ?_
      show rX E _ 18 [some (.inr (some E.1.length)), some (.inl f), some (.inl g), some (.inl tf), some (.inl te), some (.inl pp), some (.inl (20 + (d : Int))), o7, o8] [] _ _
      refine rx (xs_iload dm_Re_closed_18 rfl) ?_
      refine rx (xs_bipush dm_Re_closed_20 (by decide)) ?_
      have hib : ir (20 + (d : Int)) := hi _ List.mem_cons_self
      have hcl : clC T ((20 + (d : Int)) :: r) ↔ clC T r := by
        unfold clC
        rw [tvC_up (by omega), tvC_hd hrh _ 0]
        constructor
        · rintro ⟨h2, h4⟩
          exact ⟨fun z hz => h2 z (by simp [hz]), h4⟩
        · rintro ⟨h2, h4⟩
          refine ⟨fun z hz => ?_, h4⟩
          simp at hz
          rcases hz with hz | hz
          · omega
          · exact h2 z hz
      rw [hcl] at hR1 hR0
      refine rx (xs_icmp_ne_t (tgt := 27) dm_Re_closed_22 rfl hib (by unfold ir; omega) (by omega)) ?_
      refine rx (xs_iload dm_Re_closed_27 rfl) ?_
      refine rx (xs_bipush dm_Re_closed_29 (by decide)) ?_
      refine rx (xs_icmp_ne_t (tgt := 41) dm_Re_closed_31 rfl hib (by unfold ir; omega) (by omega)) ?_
      refine rx (xs_iload dm_Re_closed_41 rfl) ?_
      refine rx (xs_iconst dm_Re_closed_43) ?_
      refine rx (xs_iadd dm_Re_closed_44) ?_
      refine rx (xs_istore dm_Re_closed_45 (by decide)) ?_
      show rX E _ 47 [some (.inr (some E.1.length)), some (.inl f), some (.inl g), some (.inl tf), some (.inl te), some (.inl pp), some (.inl (20 + (d : Int))), some (.inl (pp + 1)), o8] [] _ _
      refine rx (xs_iload dm_Re_closed_47 rfl) ?_
      refine rx (xs_bipush dm_Re_closed_49 (by decide)) ?_
      refine rx (xs_icmp_eq_f (tgt := 61) dm_Re_closed_51 rfl hib (by unfold ir; omega) (by omega)) ?_
      refine rx (xs_iload dm_Re_closed_54 rfl) ?_
      refine rx (xs_bipush dm_Re_closed_56 (by decide)) ?_
      refine rx (xs_icmp_ne_t (tgt := 70) dm_Re_closed_58 rfl hib (by unfold ir; omega) (by omega)) ?_
      refine rx (xs_iload dm_Re_closed_70 rfl) ?_
      refine rx (xs_iconst dm_Re_closed_72) ?_
      refine rx (xs_iadd dm_Re_closed_73) ?_
      refine rx (xs_istore dm_Re_closed_74 (by decide)) ?_
      show rX E _ 76 [some (.inr (some E.1.length)), some (.inl f), some (.inl g), some (.inl tf), some (.inl te), some (.inl (pp + 1)), some (.inl (20 + (d : Int))), some (.inl (pp + 1)), o8] [] _ _
      refine rx (xs_iload dm_Re_closed_76 rfl) ?_
      refine rx (xs_istore dm_Re_closed_78 (by decide)) ?_
      show rX E _ 80 [some (.inr (some E.1.length)), some (.inl f), some (.inl g), some (.inl tf), some (.inl te), some (.inl (pp + 1)), some (.inl (20 + (d : Int))), some (.inl (pp + 1)), some (.inl (pp + 1))] [] _ _
      refine rx (xs_iload dm_Re_closed_80 rfl) ?_
      refine rx (xs_iload dm_Re_closed_82 rfl) ?_
      refine rx (xs_icmp_ge_t (tgt := 123) dm_Re_closed_84 rfl (by unfold ir; omega) (by unfold ir; omega) (by omega)) ?_
      refine rx (xs_goto (tgt := 3) dm_Re_closed_123 rfl) ?_
      exact ih r n (k + 1) _ _ _ _ (by omega) (by omega) (sg_tl hs) hr (by omega) (by omega) (fun z hz => hi z (by simp [hz])) hR1 hR0
    · subst e
      simp only [List.cons_append, List.append_assoc, List.nil_append, List.length_append, List.length_cons, List.length_nil] at hs hN hg h1 hi hR1 hR0
      refine rx (xs_iload dm_Re_closed_3 rfl) ?_
      refine rx (xs_iload_n dm_Re_closed_5 rfl) ?_
      refine rx (xs_icmp_ge_f (tgt := 126) dm_Re_closed_6 rfl (by unfold ir; omega) (by unfold ir; omega) (by omega)) ?_
      refine rx (xs_aload_n dm_Re_closed_9 rfl) ?_
      refine rx (rg (v := .inr (some (rA E 0))) dm_Re_closed_10 lf_Re_7 rfl) ?_
      refine rx (xs_iload dm_Re_closed_13 rfl) ?_
      refine rx (rlv 0 12 (by decide) dm_Re_closed_15 (by omega) (by show _ < ((10000 : Nat) : Int); omega) (by rw [hpp, Int.toNat_natCast]; exact sg_hd hs)) ?_
      refine rx (xs_istore dm_Re_closed_16 (by decide)) ?_
      show rX E _ 18 [some (.inr (some E.1.length)), some (.inl f), some (.inl g), some (.inl tf), some (.inl te), some (.inl pp), some (.inl 12), o7, o8] [] _ _
      refine rx (xs_iload dm_Re_closed_18 rfl) ?_
      refine rx (xs_bipush dm_Re_closed_20 (by decide)) ?_
      have hcl : clC T (12 :: (f1 ++ (x1 ++ r))) ↔ clC T (f1 ++ (x1 ++ r)) := by
        unfold clC
        rw [tvC_up (by omega), tvC_hd (isTm_hdT hf1 (x1 ++ r)) _ 0]
        constructor
        · rintro ⟨h2, h4⟩
          exact ⟨fun z hz => h2 z (List.mem_cons_of_mem _ hz), h4⟩
        · rintro ⟨h2, h4⟩
          refine ⟨fun z hz => ?_, h4⟩
          rcases List.mem_cons.mp hz with hz | hz
          · omega
          · exact h2 z hz
      rw [hcl] at hR1 hR0
      refine rx (xs_icmp_ne_t (tgt := 27) dm_Re_closed_22 rfl (by unfold ir; omega) (by unfold ir; omega) (by decide)) ?_
      refine rx (xs_iload dm_Re_closed_27 rfl) ?_
      refine rx (xs_bipush dm_Re_closed_29 (by decide)) ?_
      refine rx (xs_icmp_ne_t (tgt := 41) dm_Re_closed_31 rfl (by unfold ir; omega) (by unfold ir; omega) (by decide)) ?_
      refine rx (xs_iload dm_Re_closed_41 rfl) ?_
      refine rx (xs_iconst dm_Re_closed_43) ?_
      refine rx (xs_iadd dm_Re_closed_44) ?_
      refine rx (xs_istore dm_Re_closed_45 (by decide)) ?_
      show rX E _ 47 [some (.inr (some E.1.length)), some (.inl f), some (.inl g), some (.inl tf), some (.inl te), some (.inl pp), some (.inl 12), some (.inl (pp + 1)), o8] [] _ _
      refine rx (xs_iload dm_Re_closed_47 rfl) ?_
      refine rx (xs_bipush dm_Re_closed_49 (by decide)) ?_
      refine rx (xs_icmp_eq_f (tgt := 61) dm_Re_closed_51 rfl (by unfold ir; omega) (by unfold ir; omega) (by decide)) ?_
      refine rx (xs_iload dm_Re_closed_54 rfl) ?_
      refine rx (xs_bipush dm_Re_closed_56 (by decide)) ?_
      refine rx (xs_icmp_ne_t (tgt := 70) dm_Re_closed_58 rfl (by unfold ir; omega) (by unfold ir; omega) (by decide)) ?_
      refine rx (xs_iload dm_Re_closed_70 rfl) ?_
      refine rx (xs_iconst dm_Re_closed_72) ?_
      refine rx (xs_iadd dm_Re_closed_73) ?_
      refine rx (xs_istore dm_Re_closed_74 (by decide)) ?_
      show rX E _ 76 [some (.inr (some E.1.length)), some (.inl f), some (.inl g), some (.inl tf), some (.inl te), some (.inl (pp + 1)), some (.inl 12), some (.inl (pp + 1)), o8] [] _ _
      refine rx (xs_iload dm_Re_closed_76 rfl) ?_
      refine rx (xs_istore dm_Re_closed_78 (by decide)) ?_
      show rX E _ 80 [some (.inr (some E.1.length)), some (.inl f), some (.inl g), some (.inl tf), some (.inl te), some (.inl (pp + 1)), some (.inl 12), some (.inl (pp + 1)), some (.inl (pp + 1))] [] _ _
      refine rx (xs_iload dm_Re_closed_80 rfl) ?_
      refine rx (xs_iload dm_Re_closed_82 rfl) ?_
      refine rx (xs_icmp_ge_t (tgt := 123) dm_Re_closed_84 rfl (by unfold ir; omega) (by unfold ir; omega) (by omega)) ?_
      refine rx (xs_goto (tgt := 3) dm_Re_closed_123 rfl) ?_
      exact ih (f1 ++ (x1 ++ r)) (n + 2) (k + 1) _ _ _ _ (by simp; omega) (by omega) (sg_tl hs) ⟨_, _, _, _, hf1, rfl, _, _, _, _, hx1, rfl, hr⟩ (by simp; omega) (by simp; omega) (fun z hz => hi z (List.mem_cons_of_mem _ hz)) hR1 hR0
    · subst e
      simp only [List.cons_append, List.append_assoc, List.nil_append, List.length_append, List.length_cons, List.length_nil] at hs hN hg h1 hi hR1 hR0
      refine rx (xs_iload dm_Re_closed_3 rfl) ?_
      refine rx (xs_iload_n dm_Re_closed_5 rfl) ?_
      refine rx (xs_icmp_ge_f (tgt := 126) dm_Re_closed_6 rfl (by unfold ir; omega) (by unfold ir; omega) (by omega)) ?_
      refine rx (xs_aload_n dm_Re_closed_9 rfl) ?_
      refine rx (rg (v := .inr (some (rA E 0))) dm_Re_closed_10 lf_Re_7 rfl) ?_
      refine rx (xs_iload dm_Re_closed_13 rfl) ?_
      refine rx (rlv 0 13 (by decide) dm_Re_closed_15 (by omega) (by show _ < ((10000 : Nat) : Int); omega) (by rw [hpp, Int.toNat_natCast]; exact sg_hd hs)) ?_
      refine rx (xs_istore dm_Re_closed_16 (by decide)) ?_
      show rX E _ 18 [some (.inr (some E.1.length)), some (.inl f), some (.inl g), some (.inl tf), some (.inl te), some (.inl pp), some (.inl 13), o7, o8] [] _ _
      refine rx (xs_iload dm_Re_closed_18 rfl) ?_
      refine rx (xs_bipush dm_Re_closed_20 (by decide)) ?_
      have hcl : clC T (13 :: (s ++ (u ++ r))) ↔ (∀ z ∈ s, 2 ≤ z → z ∈ T) ∧ clC T (u ++ r) := by
        unfold clC
        rw [tvC_up (by decide), tvC_low (isTy_low hs1) (isTm_hdT hu r) _ (by decide) (by decide) 0]
        constructor
        · rintro ⟨h2, h3, h4⟩
          exact ⟨h3, fun z hz => h2 z (List.mem_cons_of_mem _ (List.mem_append_right _ hz)), h4⟩
        · rintro ⟨h3, h2, h4⟩
          refine ⟨fun z hz => ?_, h3, h4⟩
          rcases List.mem_cons.mp hz with hz | hz
          · omega
          · rcases List.mem_append.mp hz with hz | hz
            · have := isTy_sym hs1 z hz; omega
            · exact h2 z hz
      rw [hcl] at hR1 hR0
      refine rx (xs_icmp_ne_t (tgt := 27) dm_Re_closed_22 rfl (by unfold ir; omega) (by unfold ir; omega) (by decide)) ?_
      refine rx (xs_iload dm_Re_closed_27 rfl) ?_
      refine rx (xs_bipush dm_Re_closed_29 (by decide)) ?_
      refine rx (xs_icmp_ne_t (tgt := 41) dm_Re_closed_31 rfl (by unfold ir; omega) (by unfold ir; omega) (by decide)) ?_
      refine rx (xs_iload dm_Re_closed_41 rfl) ?_
      refine rx (xs_iconst dm_Re_closed_43) ?_
      refine rx (xs_iadd dm_Re_closed_44) ?_
      refine rx (xs_istore dm_Re_closed_45 (by decide)) ?_
      show rX E _ 47 [some (.inr (some E.1.length)), some (.inl f), some (.inl g), some (.inl tf), some (.inl te), some (.inl pp), some (.inl 13), some (.inl (pp + 1)), o8] [] _ _
      refine rx (xs_iload dm_Re_closed_47 rfl) ?_
      refine rx (xs_bipush dm_Re_closed_49 (by decide)) ?_
      refine rx (xs_icmp_eq_f (tgt := 61) dm_Re_closed_51 rfl (by unfold ir; omega) (by unfold ir; omega) (by decide)) ?_
      refine rx (xs_iload dm_Re_closed_54 rfl) ?_
      refine rx (xs_bipush dm_Re_closed_56 (by decide)) ?_
      refine rx (xs_icmp_ne_f (tgt := 70) dm_Re_closed_58 rfl (by unfold ir; omega) (by unfold ir; omega) (by decide)) ?_
      refine rx (xs_aload_n dm_Re_closed_61 rfl) ?_
      refine rx (xs_iload dm_Re_closed_62 rfl) ?_
      have hs2 := sg_tl hs
      rw [sg_app] at hs2
      refine rcV (as := [.inl (pp + 1)]) (rest := []) dm_Re_closed_64 lc_Re_skipType lm_Re_36 li_Re_skipType (nr rfl rfl) rfl rfl rfl (nl rfl) (re_skipType (p := k + 1) hs2.1 hs1 (by omega) (by omega)) ?_
      rintro _ q1 ⟨rfl, hq1⟩
      have hq1 := hq1.symm
      subst hq1
      show rX E _ 67 [some (.inr (some E.1.length)), some (.inl f), some (.inl g), some (.inl tf), some (.inl te), some (.inl pp), some (.inl 13), some (.inl (pp + 1)), o8] [.inl (((k + 1 : Nat) : Int) + (s.length : Int))] _ _
      refine rx (xs_goto (tgt := 74) dm_Re_closed_67 rfl) ?_
      refine rx (xs_istore dm_Re_closed_74 (by decide)) ?_
      show rX E _ 76 [some (.inr (some E.1.length)), some (.inl f), some (.inl g), some (.inl tf), some (.inl te), some (.inl (((k + 1 : Nat) : Int) + (s.length : Int))), some (.inl 13), some (.inl (pp + 1)), o8] [] _ _
      refine rx (xs_iload dm_Re_closed_76 rfl) ?_
      refine rx (xs_istore dm_Re_closed_78 (by decide)) ?_
      show rX E _ 80 [some (.inr (some E.1.length)), some (.inl f), some (.inl g), some (.inl tf), some (.inl te), some (.inl (((k + 1 : Nat) : Int) + (s.length : Int))), some (.inl 13), some (.inl (pp + 1)), some (.inl (pp + 1))] [] _ _
      refine re_closed_i E hT htf hte hT1 hTi s (k + 1) _ (by omega) hs2.1 (by omega) (by omega) (isTy_ir hs1) (fun h => hR0 (fun h2 => h h2.1)) (fun h kk' => ?_)
      refine rx (xs_goto (tgt := 3) dm_Re_closed_123 rfl) ?_
      exact ih (u ++ r) (n + 1) (k + 1 + s.length) _ _ _ _ (by simp; omega) (by omega) hs2.2 ⟨_, _, _, _, hu, rfl, hr⟩ (by simp; omega) (by simp; omega) (fun z hz => hi z (List.mem_cons_of_mem _ (List.mem_append_right _ hz))) (fun h2 => hR1 ⟨h, h2⟩) (fun h2 => hR0 (fun h3 => h2 h3.2))
set_option maxHeartbeats 4000000 in
set_option maxRecDepth 100000 in
theorem re_closed {q : rS} {f g tf te : Int} {pt pT : Nat} {t a T : List Int} {R : Int} (hs : sg q pt t) (hT : sg q pT T) (ht : isTm [] t a) (hTi : ∀ s ∈ T, ir s) (hf : f = pt) (hg : g = (pt : Int) + (t.length : Int)) (htf : tf = pT) (hte : te = (pT : Int) + (T.length : Int)) (hT1 : pT + T.length ≤ 10000) (h1 : pt + t.length ≤ 10000) (hR1 : clC T t → R = 1) (hR0 : ¬ clC T t → R = 0) : rM mm_Re_closed [.inl f, .inl g, .inl tf, .inl te] q (fun r q' => r = some (.inl R) ∧ q' = q) := by
  refine rm rfl (nl rfl) (fun E => ?_)
  show rX E _ 0 [some (.inr (some E.1.length)), some (.inl f), some (.inl g), some (.inl tf), some (.inl te), none, none, none, none] [] _ _
  refine rx (xs_iload_n dm_Re_closed_0 rfl) ?_
  refine rx (xs_istore dm_Re_closed_1 (by decide)) ?_
  show rX E _ 3 [some (.inr (some E.1.length)), some (.inl f), some (.inl g), some (.inl tf), some (.inl te), some (.inl f), none, none, none] [] _ _
  exact re_closed_l E hT htf hte hT1 hTi (t.length + 1) t 1 pt _ _ _ _ (by omega) hf hs ⟨_, _, _, [], ht, by simp, rfl⟩ hg h1 (isTm_ir ht (by simp; omega)) hR1 hR0
end

section
-- ===== PART A: goes FIRST, ahead of the names: the tables' words, and 'selects' of the private methods out of them =====
/-- a private method of a class that the tables say can be made, by its rows of tables_1 -/
def lw_okq (q : MethodName × Nat) : Prop := (q.1.cls ≠ "java/lang/invoke/MethodHandle" ∧ q.1.cls ≠ "java/lang/invoke/VarHandle") ∧ Cond.instantiable q.1.cls q.2 ∈ tables_1 ∧ Cond.privateMethod q.1 ∈ tables_1 ∧ Cond.instanceMethod q.1 ∈ tables_1
theorem lw_p0 : lw_okq (⟨"SequentMachine$Scribe", "put", "(I)V"⟩, 4) := ⟨⟨by decide +kernel, by decide +kernel⟩, List.mem_of_getElem? (i := 22) (by decide +kernel), List.mem_of_getElem? (i := 131) (by decide +kernel), List.mem_of_getElem? (i := 132) (by decide +kernel)⟩
theorem lw_p1 : lw_okq (⟨"SequentMachine$Scribe", "finishedRow", "()LSequentMachine$Row;"⟩, 4) := ⟨⟨by decide +kernel, by decide +kernel⟩, List.mem_of_getElem? (i := 22) (by decide +kernel), List.mem_of_getElem? (i := 135) (by decide +kernel), List.mem_of_getElem? (i := 136) (by decide +kernel)⟩
theorem lw_p2 : lw_okq (⟨"SequentMachine", "finishType", "(ILSequentMachine$Row;)I"⟩, 9) := ⟨⟨by decide +kernel, by decide +kernel⟩, List.mem_of_getElem? (i := 14) (by decide +kernel), List.mem_of_getElem? (i := 175) (by decide +kernel), List.mem_of_getElem? (i := 176) (by decide +kernel)⟩
theorem lw_p3 : lw_okq (⟨"SequentMachine", "finish", "(ILSequentMachine$Item;)I"⟩, 9) := ⟨⟨by decide +kernel, by decide +kernel⟩, List.mem_of_getElem? (i := 14) (by decide +kernel), List.mem_of_getElem? (i := 197) (by decide +kernel), List.mem_of_getElem? (i := 198) (by decide +kernel)⟩
theorem lw_p4 : lw_okq (⟨"SequentMachine", "finishEmptyHanded", "(I)I"⟩, 9) := ⟨⟨by decide +kernel, by decide +kernel⟩, List.mem_of_getElem? (i := 14) (by decide +kernel), List.mem_of_getElem? (i := 209) (by decide +kernel), List.mem_of_getElem? (i := 210) (by decide +kernel)⟩
theorem lw_p5 : lw_okq (⟨"SequentMachine", "rowBelow", "(II)LSequentMachine$Row;"⟩, 9) := ⟨⟨by decide +kernel, by decide +kernel⟩, List.mem_of_getElem? (i := 14) (by decide +kernel), List.mem_of_getElem? (i := 224) (by decide +kernel), List.mem_of_getElem? (i := 225) (by decide +kernel)⟩
theorem lw_p6 : lw_okq (⟨"SequentMachine", "itemBelow", "(II)LSequentMachine$Item;"⟩, 9) := ⟨⟨by decide +kernel, by decide +kernel⟩, List.mem_of_getElem? (i := 14) (by decide +kernel), List.mem_of_getElem? (i := 228) (by decide +kernel), List.mem_of_getElem? (i := 229) (by decide +kernel)⟩
theorem lw_p7 : lw_okq (⟨"SequentMachine$Scribe", "putRow", "(LSequentMachine$Row;)V"⟩, 4) := ⟨⟨by decide +kernel, by decide +kernel⟩, List.mem_of_getElem? (i := 22) (by decide +kernel), List.mem_of_getElem? (i := 240) (by decide +kernel), List.mem_of_getElem? (i := 241) (by decide +kernel)⟩
theorem lw_p8 : lw_okq (⟨"SequentMachine", "finishTerm", "(ILSequentMachine$Row;)I"⟩, 9) := ⟨⟨by decide +kernel, by decide +kernel⟩, List.mem_of_getElem? (i := 14) (by decide +kernel), List.mem_of_getElem? (i := 256) (by decide +kernel), List.mem_of_getElem? (i := 257) (by decide +kernel)⟩
theorem lw_p9 : lw_okq (⟨"SequentMachine$Scribe", "putLeafType", "(LSequentMachine$Row;III)V"⟩, 4) := ⟨⟨by decide +kernel, by decide +kernel⟩, List.mem_of_getElem? (i := 22) (by decide +kernel), List.mem_of_getElem? (i := 283) (by decide +kernel), List.mem_of_getElem? (i := 284) (by decide +kernel)⟩
theorem lw_p10 : lw_okq (⟨"SequentMachine$Scribe", "putEqualType", "(LSequentMachine$Row;I)V"⟩, 4) := ⟨⟨by decide +kernel, by decide +kernel⟩, List.mem_of_getElem? (i := 22) (by decide +kernel), List.mem_of_getElem? (i := 287) (by decide +kernel), List.mem_of_getElem? (i := 288) (by decide +kernel)⟩
theorem lw_p11 : lw_okq (⟨"SequentMachine", "takesArgument", "(LSequentMachine$Row;LSequentMachine$Row;)Z"⟩, 9) := ⟨⟨by decide +kernel, by decide +kernel⟩, List.mem_of_getElem? (i := 14) (by decide +kernel), List.mem_of_getElem? (i := 295) (by decide +kernel), List.mem_of_getElem? (i := 296) (by decide +kernel)⟩
theorem lw_p12 : lw_okq (⟨"SequentMachine", "variableBelow", "(I)LSequentMachine$Row;"⟩, 9) := ⟨⟨by decide +kernel, by decide +kernel⟩, List.mem_of_getElem? (i := 14) (by decide +kernel), List.mem_of_getElem? (i := 321) (by decide +kernel), List.mem_of_getElem? (i := 322) (by decide +kernel)⟩
theorem lw_p13 : lw_okq (⟨"SequentMachine", "finishTheorem", "(ILSequentMachine$Hypotheses;LSequentMachine$Row;)I"⟩, 9) := ⟨⟨by decide +kernel, by decide +kernel⟩, List.mem_of_getElem? (i := 14) (by decide +kernel), List.mem_of_getElem? (i := 349) (by decide +kernel), List.mem_of_getElem? (i := 350) (by decide +kernel)⟩
theorem lw_p14 : lw_okq (⟨"SequentMachine", "assume", "(LSequentMachine$Row;)I"⟩, 9) := ⟨⟨by decide +kernel, by decide +kernel⟩, List.mem_of_getElem? (i := 14) (by decide +kernel), List.mem_of_getElem? (i := 353) (by decide +kernel), List.mem_of_getElem? (i := 354) (by decide +kernel)⟩
theorem lw_p15 : lw_okq (⟨"SequentMachine", "reduce", "(LSequentMachine$Row;)I"⟩, 9) := ⟨⟨by decide +kernel, by decide +kernel⟩, List.mem_of_getElem? (i := 14) (by decide +kernel), List.mem_of_getElem? (i := 366) (by decide +kernel), List.mem_of_getElem? (i := 367) (by decide +kernel)⟩
def lw_privs_1 : List (MethodName × Nat) := [(⟨"SequentMachine$Scribe", "put", "(I)V"⟩, 4), (⟨"SequentMachine$Scribe", "finishedRow", "()LSequentMachine$Row;"⟩, 4), (⟨"SequentMachine", "finishType", "(ILSequentMachine$Row;)I"⟩, 9), (⟨"SequentMachine", "finish", "(ILSequentMachine$Item;)I"⟩, 9), (⟨"SequentMachine", "finishEmptyHanded", "(I)I"⟩, 9), (⟨"SequentMachine", "rowBelow", "(II)LSequentMachine$Row;"⟩, 9), (⟨"SequentMachine", "itemBelow", "(II)LSequentMachine$Item;"⟩, 9), (⟨"SequentMachine$Scribe", "putRow", "(LSequentMachine$Row;)V"⟩, 4), (⟨"SequentMachine", "finishTerm", "(ILSequentMachine$Row;)I"⟩, 9), (⟨"SequentMachine$Scribe", "putLeafType", "(LSequentMachine$Row;III)V"⟩, 4), (⟨"SequentMachine$Scribe", "putEqualType", "(LSequentMachine$Row;I)V"⟩, 4), (⟨"SequentMachine", "takesArgument", "(LSequentMachine$Row;LSequentMachine$Row;)Z"⟩, 9), (⟨"SequentMachine", "variableBelow", "(I)LSequentMachine$Row;"⟩, 9), (⟨"SequentMachine", "finishTheorem", "(ILSequentMachine$Hypotheses;LSequentMachine$Row;)I"⟩, 9), (⟨"SequentMachine", "assume", "(LSequentMachine$Row;)I"⟩, 9), (⟨"SequentMachine", "reduce", "(LSequentMachine$Row;)I"⟩, 9)]
theorem lw_r1 : ∀ q ∈ lw_privs_1, lw_okq q := List.forall_mem_cons.mpr ⟨lw_p0, List.forall_mem_cons.mpr ⟨lw_p1, List.forall_mem_cons.mpr ⟨lw_p2, List.forall_mem_cons.mpr ⟨lw_p3, List.forall_mem_cons.mpr ⟨lw_p4, List.forall_mem_cons.mpr ⟨lw_p5, List.forall_mem_cons.mpr ⟨lw_p6, List.forall_mem_cons.mpr ⟨lw_p7, List.forall_mem_cons.mpr ⟨lw_p8, List.forall_mem_cons.mpr ⟨lw_p9, List.forall_mem_cons.mpr ⟨lw_p10, List.forall_mem_cons.mpr ⟨lw_p11, List.forall_mem_cons.mpr ⟨lw_p12, List.forall_mem_cons.mpr ⟨lw_p13, List.forall_mem_cons.mpr ⟨lw_p14, List.forall_mem_cons.mpr ⟨lw_p15, fun _ h => absurd h List.not_mem_nil⟩⟩⟩⟩⟩⟩⟩⟩⟩⟩⟩⟩⟩⟩⟩⟩
theorem lw_p16 : lw_okq (⟨"SequentMachine", "addAxiom", "(LSequentMachine$Row;)I"⟩, 9) := ⟨⟨by decide +kernel, by decide +kernel⟩, List.mem_of_getElem? (i := 14) (by decide +kernel), List.mem_of_getElem? (i := 384) (by decide +kernel), List.mem_of_getElem? (i := 385) (by decide +kernel)⟩
theorem lw_p17 : lw_okq (⟨"SequentMachine", "define", "(LSequentMachine$Row;)I"⟩, 9) := ⟨⟨by decide +kernel, by decide +kernel⟩, List.mem_of_getElem? (i := 14) (by decide +kernel), List.mem_of_getElem? (i := 392) (by decide +kernel), List.mem_of_getElem? (i := 393) (by decide +kernel)⟩
theorem lw_p18 : lw_okq (⟨"SequentMachine", "followEquation", "(LSequentMachine$Item;LSequentMachine$Item;)I"⟩, 9) := ⟨⟨by decide +kernel, by decide +kernel⟩, List.mem_of_getElem? (i := 14) (by decide +kernel), List.mem_of_getElem? (i := 416) (by decide +kernel), List.mem_of_getElem? (i := 417) (by decide +kernel)⟩
theorem lw_p19 : lw_okq (⟨"SequentMachine", "equationIn", "(LSequentMachine$Row;)LSequentMachine$Equation;"⟩, 9) := ⟨⟨by decide +kernel, by decide +kernel⟩, List.mem_of_getElem? (i := 14) (by decide +kernel), List.mem_of_getElem? (i := 420) (by decide +kernel), List.mem_of_getElem? (i := 421) (by decide +kernel)⟩
theorem lw_p20 : lw_okq (⟨"SequentMachine", "hypothesesOfBoth", "(LSequentMachine$Item;LSequentMachine$Item;)LSequentMachine$Hypotheses;"⟩, 9) := ⟨⟨by decide +kernel, by decide +kernel⟩, List.mem_of_getElem? (i := 14) (by decide +kernel), List.mem_of_getElem? (i := 446) (by decide +kernel), List.mem_of_getElem? (i := 447) (by decide +kernel)⟩
theorem lw_p21 : lw_okq (⟨"SequentMachine", "applyEquations", "(LSequentMachine$Item;LSequentMachine$Item;)I"⟩, 9) := ⟨⟨by decide +kernel, by decide +kernel⟩, List.mem_of_getElem? (i := 14) (by decide +kernel), List.mem_of_getElem? (i := 455) (by decide +kernel), List.mem_of_getElem? (i := 456) (by decide +kernel)⟩
theorem lw_p22 : lw_okq (⟨"SequentMachine", "deduct", "(LSequentMachine$Item;LSequentMachine$Item;)I"⟩, 9) := ⟨⟨by decide +kernel, by decide +kernel⟩, List.mem_of_getElem? (i := 14) (by decide +kernel), List.mem_of_getElem? (i := 460) (by decide +kernel), List.mem_of_getElem? (i := 461) (by decide +kernel)⟩
theorem lw_p23 : lw_okq (⟨"SequentMachine", "keptFor", "(I)LSequentMachine$Item;"⟩, 9) := ⟨⟨by decide +kernel, by decide +kernel⟩, List.mem_of_getElem? (i := 14) (by decide +kernel), List.mem_of_getElem? (i := 505) (by decide +kernel), List.mem_of_getElem? (i := 506) (by decide +kernel)⟩
theorem lw_p24 : lw_okq (⟨"SequentMachine", "itemAt", "(I)LSequentMachine$Item;"⟩, 9) := ⟨⟨by decide +kernel, by decide +kernel⟩, List.mem_of_getElem? (i := 14) (by decide +kernel), List.mem_of_getElem? (i := 525) (by decide +kernel), List.mem_of_getElem? (i := 526) (by decide +kernel)⟩
theorem lw_p25 : lw_okq (⟨"SequentMachine", "partAt", "(II)LSequentMachine$Row;"⟩, 9) := ⟨⟨by decide +kernel, by decide +kernel⟩, List.mem_of_getElem? (i := 14) (by decide +kernel), List.mem_of_getElem? (i := 541) (by decide +kernel), List.mem_of_getElem? (i := 542) (by decide +kernel)⟩
theorem lw_p26 : lw_okq (⟨"SequentMachineModel", "top", "(I)I"⟩, 15) := ⟨⟨by decide +kernel, by decide +kernel⟩, List.mem_of_getElem? (i := 553) (by decide +kernel), List.mem_of_getElem? (i := 609) (by decide +kernel), List.mem_of_getElem? (i := 610) (by decide +kernel)⟩
theorem lw_p27 : lw_okq (⟨"SequentMachineModel", "begin", "()V"⟩, 15) := ⟨⟨by decide +kernel, by decide +kernel⟩, List.mem_of_getElem? (i := 553) (by decide +kernel), List.mem_of_getElem? (i := 613) (by decide +kernel), List.mem_of_getElem? (i := 614) (by decide +kernel)⟩
theorem lw_p28 : lw_okq (⟨"SequentMachineModel", "emit", "(I)V"⟩, 15) := ⟨⟨by decide +kernel, by decide +kernel⟩, List.mem_of_getElem? (i := 553) (by decide +kernel), List.mem_of_getElem? (i := 617) (by decide +kernel), List.mem_of_getElem? (i := 618) (by decide +kernel)⟩
theorem lw_p29 : lw_okq (⟨"SequentMachineModel", "part", "(II)V"⟩, 15) := ⟨⟨by decide +kernel, by decide +kernel⟩, List.mem_of_getElem? (i := 553) (by decide +kernel), List.mem_of_getElem? (i := 621) (by decide +kernel), List.mem_of_getElem? (i := 622) (by decide +kernel)⟩
theorem lw_p30 : lw_okq (⟨"SequentMachineModel", "done", "(I)I"⟩, 15) := ⟨⟨by decide +kernel, by decide +kernel⟩, List.mem_of_getElem? (i := 553) (by decide +kernel), List.mem_of_getElem? (i := 628) (by decide +kernel), List.mem_of_getElem? (i := 629) (by decide +kernel)⟩
theorem lw_p31 : lw_okq (⟨"SequentMachineModel", "copyObject", "(II)V"⟩, 15) := ⟨⟨by decide +kernel, by decide +kernel⟩, List.mem_of_getElem? (i := 553) (by decide +kernel), List.mem_of_getElem? (i := 632) (by decide +kernel), List.mem_of_getElem? (i := 633) (by decide +kernel)⟩
def lw_privs_2 : List (MethodName × Nat) := [(⟨"SequentMachine", "addAxiom", "(LSequentMachine$Row;)I"⟩, 9), (⟨"SequentMachine", "define", "(LSequentMachine$Row;)I"⟩, 9), (⟨"SequentMachine", "followEquation", "(LSequentMachine$Item;LSequentMachine$Item;)I"⟩, 9), (⟨"SequentMachine", "equationIn", "(LSequentMachine$Row;)LSequentMachine$Equation;"⟩, 9), (⟨"SequentMachine", "hypothesesOfBoth", "(LSequentMachine$Item;LSequentMachine$Item;)LSequentMachine$Hypotheses;"⟩, 9), (⟨"SequentMachine", "applyEquations", "(LSequentMachine$Item;LSequentMachine$Item;)I"⟩, 9), (⟨"SequentMachine", "deduct", "(LSequentMachine$Item;LSequentMachine$Item;)I"⟩, 9), (⟨"SequentMachine", "keptFor", "(I)LSequentMachine$Item;"⟩, 9), (⟨"SequentMachine", "itemAt", "(I)LSequentMachine$Item;"⟩, 9), (⟨"SequentMachine", "partAt", "(II)LSequentMachine$Row;"⟩, 9), (⟨"SequentMachineModel", "top", "(I)I"⟩, 15), (⟨"SequentMachineModel", "begin", "()V"⟩, 15), (⟨"SequentMachineModel", "emit", "(I)V"⟩, 15), (⟨"SequentMachineModel", "part", "(II)V"⟩, 15), (⟨"SequentMachineModel", "done", "(I)I"⟩, 15), (⟨"SequentMachineModel", "copyObject", "(II)V"⟩, 15)]
theorem lw_r2 : ∀ q ∈ lw_privs_2, lw_okq q := List.forall_mem_cons.mpr ⟨lw_p16, List.forall_mem_cons.mpr ⟨lw_p17, List.forall_mem_cons.mpr ⟨lw_p18, List.forall_mem_cons.mpr ⟨lw_p19, List.forall_mem_cons.mpr ⟨lw_p20, List.forall_mem_cons.mpr ⟨lw_p21, List.forall_mem_cons.mpr ⟨lw_p22, List.forall_mem_cons.mpr ⟨lw_p23, List.forall_mem_cons.mpr ⟨lw_p24, List.forall_mem_cons.mpr ⟨lw_p25, List.forall_mem_cons.mpr ⟨lw_p26, List.forall_mem_cons.mpr ⟨lw_p27, List.forall_mem_cons.mpr ⟨lw_p28, List.forall_mem_cons.mpr ⟨lw_p29, List.forall_mem_cons.mpr ⟨lw_p30, List.forall_mem_cons.mpr ⟨lw_p31, fun _ h => absurd h List.not_mem_nil⟩⟩⟩⟩⟩⟩⟩⟩⟩⟩⟩⟩⟩⟩⟩⟩
theorem lw_p32 : lw_okq (⟨"SequentMachineModel", "movePart", "(IIII)V"⟩, 15) := ⟨⟨by decide +kernel, by decide +kernel⟩, List.mem_of_getElem? (i := 553) (by decide +kernel), List.mem_of_getElem? (i := 636) (by decide +kernel), List.mem_of_getElem? (i := 637) (by decide +kernel)⟩
theorem lw_p33 : lw_okq (⟨"SequentMachineModel", "rowOf", "(I)I"⟩, 15) := ⟨⟨by decide +kernel, by decide +kernel⟩, List.mem_of_getElem? (i := 553) (by decide +kernel), List.mem_of_getElem? (i := 640) (by decide +kernel), List.mem_of_getElem? (i := 641) (by decide +kernel)⟩
theorem lw_p34 : lw_okq (⟨"SequentMachineModel", "rowEnd", "(I)I"⟩, 15) := ⟨⟨by decide +kernel, by decide +kernel⟩, List.mem_of_getElem? (i := 553) (by decide +kernel), List.mem_of_getElem? (i := 644) (by decide +kernel), List.mem_of_getElem? (i := 645) (by decide +kernel)⟩
theorem lw_p35 : lw_okq (⟨"SequentMachineModel", "emitRow", "(II)V"⟩, 15) := ⟨⟨by decide +kernel, by decide +kernel⟩, List.mem_of_getElem? (i := 553) (by decide +kernel), List.mem_of_getElem? (i := 648) (by decide +kernel), List.mem_of_getElem? (i := 649) (by decide +kernel)⟩
theorem lw_p36 : lw_okq (⟨"SequentMachineModel", "leaf", "(II)I"⟩, 15) := ⟨⟨by decide +kernel, by decide +kernel⟩, List.mem_of_getElem? (i := 553) (by decide +kernel), List.mem_of_getElem? (i := 656) (by decide +kernel), List.mem_of_getElem? (i := 657) (by decide +kernel)⟩
theorem lw_p37 : lw_okq (⟨"SequentMachineModel", "fits", "(II)Z"⟩, 15) := ⟨⟨by decide +kernel, by decide +kernel⟩, List.mem_of_getElem? (i := 553) (by decide +kernel), List.mem_of_getElem? (i := 668) (by decide +kernel), List.mem_of_getElem? (i := 669) (by decide +kernel)⟩
theorem lw_p38 : lw_okq (⟨"SequentMachineModel", "typeOf", "(I)I"⟩, 15) := ⟨⟨by decide +kernel, by decide +kernel⟩, List.mem_of_getElem? (i := 553) (by decide +kernel), List.mem_of_getElem? (i := 672) (by decide +kernel), List.mem_of_getElem? (i := 673) (by decide +kernel)⟩
theorem lw_p39 : lw_okq (⟨"SequentMachineModel", "skipType", "(I)I"⟩, 15) := ⟨⟨by decide +kernel, by decide +kernel⟩, List.mem_of_getElem? (i := 553) (by decide +kernel), List.mem_of_getElem? (i := 676) (by decide +kernel), List.mem_of_getElem? (i := 677) (by decide +kernel)⟩
theorem lw_p40 : lw_okq (⟨"SequentMachineModel", "equalAt", "(II)V"⟩, 15) := ⟨⟨by decide +kernel, by decide +kernel⟩, List.mem_of_getElem? (i := 553) (by decide +kernel), List.mem_of_getElem? (i := 680) (by decide +kernel), List.mem_of_getElem? (i := 681) (by decide +kernel)⟩
theorem lw_p41 : lw_okq (⟨"SequentMachineModel", "sameRow", "(IIII)Z"⟩, 15) := ⟨⟨by decide +kernel, by decide +kernel⟩, List.mem_of_getElem? (i := 553) (by decide +kernel), List.mem_of_getElem? (i := 684) (by decide +kernel), List.mem_of_getElem? (i := 685) (by decide +kernel)⟩
theorem lw_p42 : lw_okq (⟨"SequentMachineModel", "variable", "(I)Z"⟩, 15) := ⟨⟨by decide +kernel, by decide +kernel⟩, List.mem_of_getElem? (i := 553) (by decide +kernel), List.mem_of_getElem? (i := 692) (by decide +kernel), List.mem_of_getElem? (i := 693) (by decide +kernel)⟩
theorem lw_p43 : lw_okq (⟨"SequentMachineModel", "emitAbs", "(IIII)V"⟩, 15) := ⟨⟨by decide +kernel, by decide +kernel⟩, List.mem_of_getElem? (i := 553) (by decide +kernel), List.mem_of_getElem? (i := 696) (by decide +kernel), List.mem_of_getElem? (i := 697) (by decide +kernel)⟩
theorem lw_p44 : lw_okq (⟨"SequentMachineModel", "stands", "(III)Z"⟩, 15) := ⟨⟨by decide +kernel, by decide +kernel⟩, List.mem_of_getElem? (i := 553) (by decide +kernel), List.mem_of_getElem? (i := 700) (by decide +kernel), List.mem_of_getElem? (i := 701) (by decide +kernel)⟩
theorem lw_p45 : lw_okq (⟨"SequentMachineModel", "depth", "(II)I"⟩, 15) := ⟨⟨by decide +kernel, by decide +kernel⟩, List.mem_of_getElem? (i := 553) (by decide +kernel), List.mem_of_getElem? (i := 704) (by decide +kernel), List.mem_of_getElem? (i := 705) (by decide +kernel)⟩
theorem lw_p46 : lw_okq (⟨"SequentMachineModel", "skipTerm", "(I)I"⟩, 15) := ⟨⟨by decide +kernel, by decide +kernel⟩, List.mem_of_getElem? (i := 553) (by decide +kernel), List.mem_of_getElem? (i := 708) (by decide +kernel), List.mem_of_getElem? (i := 709) (by decide +kernel)⟩
theorem lw_p47 : lw_okq (⟨"SequentMachineModel", "isBool", "(II)Z"⟩, 15) := ⟨⟨by decide +kernel, by decide +kernel⟩, List.mem_of_getElem? (i := 553) (by decide +kernel), List.mem_of_getElem? (i := 716) (by decide +kernel), List.mem_of_getElem? (i := 717) (by decide +kernel)⟩
def lw_privs_3 : List (MethodName × Nat) := [(⟨"SequentMachineModel", "movePart", "(IIII)V"⟩, 15), (⟨"SequentMachineModel", "rowOf", "(I)I"⟩, 15), (⟨"SequentMachineModel", "rowEnd", "(I)I"⟩, 15), (⟨"SequentMachineModel", "emitRow", "(II)V"⟩, 15), (⟨"SequentMachineModel", "leaf", "(II)I"⟩, 15), (⟨"SequentMachineModel", "fits", "(II)Z"⟩, 15), (⟨"SequentMachineModel", "typeOf", "(I)I"⟩, 15), (⟨"SequentMachineModel", "skipType", "(I)I"⟩, 15), (⟨"SequentMachineModel", "equalAt", "(II)V"⟩, 15), (⟨"SequentMachineModel", "sameRow", "(IIII)Z"⟩, 15), (⟨"SequentMachineModel", "variable", "(I)Z"⟩, 15), (⟨"SequentMachineModel", "emitAbs", "(IIII)V"⟩, 15), (⟨"SequentMachineModel", "stands", "(III)Z"⟩, 15), (⟨"SequentMachineModel", "depth", "(II)I"⟩, 15), (⟨"SequentMachineModel", "skipTerm", "(I)I"⟩, 15), (⟨"SequentMachineModel", "isBool", "(II)Z"⟩, 15)]
theorem lw_r3 : ∀ q ∈ lw_privs_3, lw_okq q := List.forall_mem_cons.mpr ⟨lw_p32, List.forall_mem_cons.mpr ⟨lw_p33, List.forall_mem_cons.mpr ⟨lw_p34, List.forall_mem_cons.mpr ⟨lw_p35, List.forall_mem_cons.mpr ⟨lw_p36, List.forall_mem_cons.mpr ⟨lw_p37, List.forall_mem_cons.mpr ⟨lw_p38, List.forall_mem_cons.mpr ⟨lw_p39, List.forall_mem_cons.mpr ⟨lw_p40, List.forall_mem_cons.mpr ⟨lw_p41, List.forall_mem_cons.mpr ⟨lw_p42, List.forall_mem_cons.mpr ⟨lw_p43, List.forall_mem_cons.mpr ⟨lw_p44, List.forall_mem_cons.mpr ⟨lw_p45, List.forall_mem_cons.mpr ⟨lw_p46, List.forall_mem_cons.mpr ⟨lw_p47, fun _ h => absurd h List.not_mem_nil⟩⟩⟩⟩⟩⟩⟩⟩⟩⟩⟩⟩⟩⟩⟩⟩
theorem lw_p48 : lw_okq (⟨"SequentMachineModel", "claim", "(III)I"⟩, 15) := ⟨⟨by decide +kernel, by decide +kernel⟩, List.mem_of_getElem? (i := 553) (by decide +kernel), List.mem_of_getElem? (i := 720) (by decide +kernel), List.mem_of_getElem? (i := 721) (by decide +kernel)⟩
theorem lw_p49 : lw_okq (⟨"SequentMachineModel", "hypothesis", "(I)V"⟩, 15) := ⟨⟨by decide +kernel, by decide +kernel⟩, List.mem_of_getElem? (i := 553) (by decide +kernel), List.mem_of_getElem? (i := 724) (by decide +kernel), List.mem_of_getElem? (i := 725) (by decide +kernel)⟩
theorem lw_p50 : lw_okq (⟨"SequentMachineModel", "compare", "(IIII)I"⟩, 15) := ⟨⟨by decide +kernel, by decide +kernel⟩, List.mem_of_getElem? (i := 553) (by decide +kernel), List.mem_of_getElem? (i := 728) (by decide +kernel), List.mem_of_getElem? (i := 729) (by decide +kernel)⟩
theorem lw_p51 : lw_okq (⟨"SequentMachineModel", "closed", "(IIII)Z"⟩, 15) := ⟨⟨by decide +kernel, by decide +kernel⟩, List.mem_of_getElem? (i := 553) (by decide +kernel), List.mem_of_getElem? (i := 732) (by decide +kernel), List.mem_of_getElem? (i := 733) (by decide +kernel)⟩
theorem lw_p52 : lw_okq (⟨"SequentMachineModel", "occurs", "(III)Z"⟩, 15) := ⟨⟨by decide +kernel, by decide +kernel⟩, List.mem_of_getElem? (i := 553) (by decide +kernel), List.mem_of_getElem? (i := 736) (by decide +kernel), List.mem_of_getElem? (i := 737) (by decide +kernel)⟩
theorem lw_p53 : lw_okq (⟨"SequentMachineModel", "beginEquation", "(II)V"⟩, 15) := ⟨⟨by decide +kernel, by decide +kernel⟩, List.mem_of_getElem? (i := 553) (by decide +kernel), List.mem_of_getElem? (i := 740) (by decide +kernel), List.mem_of_getElem? (i := 741) (by decide +kernel)⟩
theorem lw_p54 : lw_okq (⟨"SequentMachineModel", "reduce", "(II)V"⟩, 15) := ⟨⟨by decide +kernel, by decide +kernel⟩, List.mem_of_getElem? (i := 553) (by decide +kernel), List.mem_of_getElem? (i := 744) (by decide +kernel), List.mem_of_getElem? (i := 745) (by decide +kernel)⟩
theorem lw_p55 : lw_okq (⟨"SequentMachineModel", "define", "(II)I"⟩, 15) := ⟨⟨by decide +kernel, by decide +kernel⟩, List.mem_of_getElem? (i := 553) (by decide +kernel), List.mem_of_getElem? (i := 748) (by decide +kernel), List.mem_of_getElem? (i := 749) (by decide +kernel)⟩
theorem lw_p56 : lw_okq (⟨"SequentMachineModel", "bring", "(III)V"⟩, 15) := ⟨⟨by decide +kernel, by decide +kernel⟩, List.mem_of_getElem? (i := 553) (by decide +kernel), List.mem_of_getElem? (i := 756) (by decide +kernel), List.mem_of_getElem? (i := 757) (by decide +kernel)⟩
theorem lw_p57 : lw_okq (⟨"SequentMachineModel", "isEquation", "(I)Z"⟩, 15) := ⟨⟨by decide +kernel, by decide +kernel⟩, List.mem_of_getElem? (i := 553) (by decide +kernel), List.mem_of_getElem? (i := 760) (by decide +kernel), List.mem_of_getElem? (i := 761) (by decide +kernel)⟩
theorem lw_p58 : lw_okq (⟨"SequentMachineModel", "left", "(I)I"⟩, 15) := ⟨⟨by decide +kernel, by decide +kernel⟩, List.mem_of_getElem? (i := 553) (by decide +kernel), List.mem_of_getElem? (i := 764) (by decide +kernel), List.mem_of_getElem? (i := 765) (by decide +kernel)⟩
theorem lw_p59 : lw_okq (⟨"SequentMachineModel", "applied", "(IIIII)V"⟩, 15) := ⟨⟨by decide +kernel, by decide +kernel⟩, List.mem_of_getElem? (i := 553) (by decide +kernel), List.mem_of_getElem? (i := 768) (by decide +kernel), List.mem_of_getElem? (i := 769) (by decide +kernel)⟩
theorem lw_p60 : lw_okq (⟨"SequentMachineModel", "free", "(IIII)Z"⟩, 15) := ⟨⟨by decide +kernel, by decide +kernel⟩, List.mem_of_getElem? (i := 553) (by decide +kernel), List.mem_of_getElem? (i := 776) (by decide +kernel), List.mem_of_getElem? (i := 777) (by decide +kernel)⟩
theorem lw_p61 : lw_okq (⟨"SequentMachineModel", "replaced", "(IIIIII)V"⟩, 15) := ⟨⟨by decide +kernel, by decide +kernel⟩, List.mem_of_getElem? (i := 553) (by decide +kernel), List.mem_of_getElem? (i := 784) (by decide +kernel), List.mem_of_getElem? (i := 785) (by decide +kernel)⟩
theorem lw_p62 : lw_okq (⟨"SequentMachineModel", "retyped", "(IIIII)V"⟩, 15) := ⟨⟨by decide +kernel, by decide +kernel⟩, List.mem_of_getElem? (i := 553) (by decide +kernel), List.mem_of_getElem? (i := 792) (by decide +kernel), List.mem_of_getElem? (i := 793) (by decide +kernel)⟩
theorem lw_p63 : lw_okq (⟨"SequentMachineModel", "at", "(I)I"⟩, 15) := ⟨⟨by decide +kernel, by decide +kernel⟩, List.mem_of_getElem? (i := 553) (by decide +kernel), List.mem_of_getElem? (i := 820) (by decide +kernel), List.mem_of_getElem? (i := 821) (by decide +kernel)⟩
def lw_privs_4 : List (MethodName × Nat) := [(⟨"SequentMachineModel", "claim", "(III)I"⟩, 15), (⟨"SequentMachineModel", "hypothesis", "(I)V"⟩, 15), (⟨"SequentMachineModel", "compare", "(IIII)I"⟩, 15), (⟨"SequentMachineModel", "closed", "(IIII)Z"⟩, 15), (⟨"SequentMachineModel", "occurs", "(III)Z"⟩, 15), (⟨"SequentMachineModel", "beginEquation", "(II)V"⟩, 15), (⟨"SequentMachineModel", "reduce", "(II)V"⟩, 15), (⟨"SequentMachineModel", "define", "(II)I"⟩, 15), (⟨"SequentMachineModel", "bring", "(III)V"⟩, 15), (⟨"SequentMachineModel", "isEquation", "(I)Z"⟩, 15), (⟨"SequentMachineModel", "left", "(I)I"⟩, 15), (⟨"SequentMachineModel", "applied", "(IIIII)V"⟩, 15), (⟨"SequentMachineModel", "free", "(IIII)Z"⟩, 15), (⟨"SequentMachineModel", "replaced", "(IIIIII)V"⟩, 15), (⟨"SequentMachineModel", "retyped", "(IIIII)V"⟩, 15), (⟨"SequentMachineModel", "at", "(I)I"⟩, 15)]
theorem lw_r4 : ∀ q ∈ lw_privs_4, lw_okq q := List.forall_mem_cons.mpr ⟨lw_p48, List.forall_mem_cons.mpr ⟨lw_p49, List.forall_mem_cons.mpr ⟨lw_p50, List.forall_mem_cons.mpr ⟨lw_p51, List.forall_mem_cons.mpr ⟨lw_p52, List.forall_mem_cons.mpr ⟨lw_p53, List.forall_mem_cons.mpr ⟨lw_p54, List.forall_mem_cons.mpr ⟨lw_p55, List.forall_mem_cons.mpr ⟨lw_p56, List.forall_mem_cons.mpr ⟨lw_p57, List.forall_mem_cons.mpr ⟨lw_p58, List.forall_mem_cons.mpr ⟨lw_p59, List.forall_mem_cons.mpr ⟨lw_p60, List.forall_mem_cons.mpr ⟨lw_p61, List.forall_mem_cons.mpr ⟨lw_p62, List.forall_mem_cons.mpr ⟨lw_p63, fun _ h => absurd h List.not_mem_nil⟩⟩⟩⟩⟩⟩⟩⟩⟩⟩⟩⟩⟩⟩⟩⟩
def lw_privs : List (MethodName × Nat) := lw_privs_1 ++ (lw_privs_2 ++ (lw_privs_3 ++ (lw_privs_4)))
def lw_tbl : List Cond := k2_sels lw_privs ++ tables_1
theorem lw_privs_ok : ∀ q ∈ lw_privs, lw_okq q := by
  show ∀ q ∈ lw_privs_1 ++ (lw_privs_2 ++ (lw_privs_3 ++ (lw_privs_4))), lw_okq q
  exact List.forall_mem_append.mpr ⟨lw_r1, List.forall_mem_append.mpr ⟨lw_r2, List.forall_mem_append.mpr ⟨lw_r3, lw_r4⟩⟩⟩
-- ===== end of PART A; then your names; then what follows =====
/-! THE CLAIM OUT OF ONE WALK OF THE LAW'S BODY. Your part is whole_start (and what it stands on); all else here is the same for every law, but numbers. -/
end
section
/-! names: classes, their fields in the order of their slots, the tables' words -/
def ct_0 : u_T := fun k => match k with
  | 0 => ("SequentMachine$Depth", "restAfter", "[I", true)
  | 1 => ("SequentMachine$Depth", "around", "I", false)
  | _ => ("SequentMachine$Depth", "missing", "I", false)
def cy_0 : Nat → FieldType := fun k => match k with
  | 0 => .array .int
  | 1 => .int
  | _ => .int
theorem cq_0 : ∀ a, a < 3 → ∀ b, b < 3 → a ≠ b → (ct_0 a).2.1 ≠ (ct_0 b).2.1 := by decide +kernel
theorem cp_0 : ∀ k, k < 3 → parseFieldDescriptor (ct_0 k).2.2.1 = some (cy_0 k) := by decide +kernel
def ct_1 : u_T := fun k => match k with
  | 0 => ("SequentMachine$Equation", "type", "LSequentMachine$Row;", true)
  | 1 => ("SequentMachine$Equation", "left", "LSequentMachine$Row;", true)
  | _ => ("SequentMachine$Equation", "right", "LSequentMachine$Row;", true)
def cy_1 : Nat → FieldType := fun k => match k with
  | 0 => .object "SequentMachine$Row"
  | 1 => .object "SequentMachine$Row"
  | _ => .object "SequentMachine$Row"
theorem cq_1 : ∀ a, a < 3 → ∀ b, b < 3 → a ≠ b → (ct_1 a).2.1 ≠ (ct_1 b).2.1 := by decide +kernel
theorem cp_1 : ∀ k, k < 3 → parseFieldDescriptor (ct_1 k).2.2.1 = some (cy_1 k) := by decide +kernel
def ct_2 : u_T := fun k => match k with
  | 0 => ("SequentMachine$Hypotheses", "rows", "[LSequentMachine$Row;", true)
  | _ => ("SequentMachine$Hypotheses", "size", "I", false)
def cy_2 : Nat → FieldType := fun k => match k with
  | 0 => .array (.object "SequentMachine$Row")
  | _ => .int
theorem cq_2 : ∀ a, a < 2 → ∀ b, b < 2 → a ≠ b → (ct_2 a).2.1 ≠ (ct_2 b).2.1 := by decide +kernel
theorem cp_2 : ∀ k, k < 2 → parseFieldDescriptor (ct_2 k).2.2.1 = some (cy_2 k) := by decide +kernel
def ct_3 : u_T := fun k => match k with
  | 0 => ("SequentMachine$Item", "sort", "I", true)
  | 1 => ("SequentMachine$Item", "main", "LSequentMachine$Row;", true)
  | _ => ("SequentMachine$Item", "hypotheses", "LSequentMachine$Hypotheses;", true)
def cy_3 : Nat → FieldType := fun k => match k with
  | 0 => .int
  | 1 => .object "SequentMachine$Row"
  | _ => .object "SequentMachine$Hypotheses"
theorem cq_3 : ∀ a, a < 3 → ∀ b, b < 3 → a ≠ b → (ct_3 a).2.1 ≠ (ct_3 b).2.1 := by decide +kernel
theorem cp_3 : ∀ k, k < 3 → parseFieldDescriptor (ct_3 k).2.2.1 = some (cy_3 k) := by decide +kernel
def ct_4 : u_T := fun k => match k with
  | 0 => ("SequentMachine$Row", "symbols", "[I", true)
  | 1 => ("SequentMachine$Row", "from", "I", true)
  | _ => ("SequentMachine$Row", "size", "I", true)
def cy_4 : Nat → FieldType := fun k => match k with
  | 0 => .array .int
  | 1 => .int
  | _ => .int
theorem cq_4 : ∀ a, a < 3 → ∀ b, b < 3 → a ≠ b → (ct_4 a).2.1 ≠ (ct_4 b).2.1 := by decide +kernel
theorem cp_4 : ∀ k, k < 3 → parseFieldDescriptor (ct_4 k).2.2.1 = some (cy_4 k) := by decide +kernel
def ct_5 : u_T := fun k => match k with
  | 0 => ("SequentMachine$Scribe", "page", "[I", true)
  | 1 => ("SequentMachine$Scribe", "used", "I", false)
  | 2 => ("SequentMachine$Scribe", "depth", "LSequentMachine$Depth;", true)
  | _ => ("SequentMachine$Scribe", "binders", "[LSequentMachine$Row;", true)
def cy_5 : Nat → FieldType := fun k => match k with
  | 0 => .array .int
  | 1 => .int
  | 2 => .object "SequentMachine$Depth"
  | _ => .array (.object "SequentMachine$Row")
theorem cq_5 : ∀ a, a < 4 → ∀ b, b < 4 → a ≠ b → (ct_5 a).2.1 ≠ (ct_5 b).2.1 := by decide +kernel
theorem cp_5 : ∀ k, k < 4 → parseFieldDescriptor (ct_5 k).2.2.1 = some (cy_5 k) := by decide +kernel
def ct_6 : u_T := fun k => match k with
  | 0 => ("SequentMachine$Shelf", "items", "[LSequentMachine$Item;", true)
  | _ => ("SequentMachine$Shelf", "size", "I", false)
def cy_6 : Nat → FieldType := fun k => match k with
  | 0 => .array (.object "SequentMachine$Item")
  | _ => .int
theorem cq_6 : ∀ a, a < 2 → ∀ b, b < 2 → a ≠ b → (ct_6 a).2.1 ≠ (ct_6 b).2.1 := by decide +kernel
theorem cp_6 : ∀ k, k < 2 → parseFieldDescriptor (ct_6 k).2.2.1 = some (cy_6 k) := by decide +kernel
def ct_7 : u_T := fun k => match k with
  | 0 => ("SequentMachine", "scribe", "LSequentMachine$Scribe;", true)
  | 1 => ("SequentMachine", "stack", "LSequentMachine$Shelf;", true)
  | 2 => ("SequentMachine", "assumed", "LSequentMachine$Shelf;", true)
  | 3 => ("SequentMachine", "exported", "LSequentMachine$Shelf;", true)
  | 4 => ("SequentMachine", "dictionary", "[LSequentMachine$Item;", true)
  | 5 => ("SequentMachine", "definedTypes", "[LSequentMachine$Row;", true)
  | 6 => ("SequentMachine", "noHypotheses", "LSequentMachine$Hypotheses;", true)
  | 7 => ("SequentMachine", "constants", "I", false)
  | _ => ("SequentMachine", "commands", "I", false)
def cy_7 : Nat → FieldType := fun k => match k with
  | 0 => .object "SequentMachine$Scribe"
  | 1 => .object "SequentMachine$Shelf"
  | 2 => .object "SequentMachine$Shelf"
  | 3 => .object "SequentMachine$Shelf"
  | 4 => .array (.object "SequentMachine$Item")
  | 5 => .array (.object "SequentMachine$Row")
  | 6 => .object "SequentMachine$Hypotheses"
  | 7 => .int
  | _ => .int
theorem cq_7 : ∀ a, a < 9 → ∀ b, b < 9 → a ≠ b → (ct_7 a).2.1 ≠ (ct_7 b).2.1 := by decide +kernel
theorem cp_7 : ∀ k, k < 9 → parseFieldDescriptor (ct_7 k).2.2.1 = some (cy_7 k) := by decide +kernel
def ct_8 : u_T := fun k => match k with
  | 0 => ("SequentMachineModel", "mem", "[I", true)
  | 1 => ("SequentMachineModel", "len", "[I", true)
  | 2 => ("SequentMachineModel", "kinds", "[I", true)
  | 3 => ("SequentMachineModel", "hyps", "[I", true)
  | 4 => ("SequentMachineModel", "size", "I", false)
  | 5 => ("SequentMachineModel", "assumed", "I", false)
  | 6 => ("SequentMachineModel", "exported", "I", false)
  | 7 => ("SequentMachineModel", "constants", "I", false)
  | 8 => ("SequentMachineModel", "commands", "I", false)
  | 9 => ("SequentMachineModel", "constLen", "[I", true)
  | 10 => ("SequentMachineModel", "binder", "[I", true)
  | 11 => ("SequentMachineModel", "out", "I", false)
  | 12 => ("SequentMachineModel", "big", "Z", false)
  | 13 => ("SequentMachineModel", "typeFrom", "I", false)
  | _ => ("SequentMachineModel", "typeEnd", "I", false)
def cy_8 : Nat → FieldType := fun k => match k with
  | 0 => .array .int
  | 1 => .array .int
  | 2 => .array .int
  | 3 => .array .int
  | 4 => .int
  | 5 => .int
  | 6 => .int
  | 7 => .int
  | 8 => .int
  | 9 => .array .int
  | 10 => .array .int
  | 11 => .int
  | 12 => .boolean
  | 13 => .int
  | _ => .int
theorem cq_8 : ∀ a, a < 15 → ∀ b, b < 15 → a ≠ b → (ct_8 a).2.1 ≠ (ct_8 b).2.1 := by decide +kernel
theorem cp_8 : ∀ k, k < 15 → parseFieldDescriptor (ct_8 k).2.2.1 = some (cy_8 k) := by decide +kernel
abbrev cl_s : List vw_C := [("SequentMachine$Depth", ct_0, 3), ("SequentMachine$Equation", ct_1, 3), ("SequentMachine$Hypotheses", ct_2, 2), ("SequentMachine$Item", ct_3, 3), ("SequentMachine$Row", ct_4, 3), ("SequentMachine$Scribe", ct_5, 4), ("SequentMachine$Shelf", ct_6, 2), ("SequentMachine", ct_7, 9), ("SequentMachineModel", ct_8, 15)]
def x_ws : List Cond := lw_tbl.filter goodWord
theorem x_good : ∀ w ∈ x_ws, (w.onTables && w.keeps) = true ∨ ∃ ty, w = .arrayClass ty := fun w h => good_of_word (List.mem_filter.mp h).2
theorem x_at {w : Cond} (i : Nat) (h : tables_1[i]? = some w) (hg : goodWord w = true) : w ∈ x_ws := List.mem_filter.mpr ⟨List.mem_append_right _ (List.mem_of_getElem? h), hg⟩
theorem x_sel {q : MethodName × Nat} (i : Nat) (h : lw_privs[i]? = some q) : Cond.selects q.1.cls q.1 q.1 ∈ x_ws := List.mem_filter.mpr ⟨List.mem_append_left _ (List.mem_map.mpr ⟨q, List.mem_of_getElem? h, rfl⟩), rfl⟩
def x_NF : List (String × Nat × String × String × String × String) := [("SequentMachine$Scribe", 62, "SequentMachine$Depth", "around", "I", "SequentMachine"), ("SequentMachine", 200, "SequentMachine$Shelf", "size", "I", "SequentMachine"), ("SequentMachine", 164, "SequentMachine$Hypotheses", "rows", "[LSequentMachine$Row;", "SequentMachine"), ("SequentMachine", 161, "SequentMachine$Hypotheses", "size", "I", "SequentMachine"), ("SequentMachine$Equation", 29, "SequentMachine$Row", "size", "I", "SequentMachine"), ("SequentMachine$Item", 23, "SequentMachine$Row", "size", "I", "SequentMachine"), ("SequentMachine$Hypotheses", 35, "SequentMachine$Row", "size", "I", "SequentMachine"), ("SequentMachine$Scribe", 47, "SequentMachine$Row", "size", "I", "SequentMachine"), ("SequentMachine", 210, "SequentMachine$Row", "size", "I", "SequentMachine"), ("SequentMachine", 204, "SequentMachine$Item", "sort", "I", "SequentMachine"), ("SequentMachine", 132, "SequentMachine$Item", "main", "LSequentMachine$Row;", "SequentMachine"), ("SequentMachine", 140, "SequentMachine$Item", "hypotheses", "LSequentMachine$Hypotheses;", "SequentMachine"), ("SequentMachine", 155, "SequentMachine$Equation", "type", "LSequentMachine$Row;", "SequentMachine"), ("SequentMachine", 147, "SequentMachine$Equation", "left", "LSequentMachine$Row;", "SequentMachine"), ("SequentMachine", 152, "SequentMachine$Equation", "right", "LSequentMachine$Row;", "SequentMachine")]
def x_NM : List (String × Nat × MethodName × String) := [("SequentMachine", 9, ⟨"SequentMachine$Scribe", "<init>", "()V"⟩, "SequentMachine"), ("SequentMachine$Scribe", 17, ⟨"SequentMachine$Depth", "<init>", "()V"⟩, "SequentMachine"), ("SequentMachine", 45, ⟨"SequentMachine$Hypotheses", "<init>", "()V"⟩, "SequentMachine")]
def x_N : List Cond := x_NF.map (fun q => Cond.fieldLinkNest q.1 q.2.1 q.2.2.1 q.2.2.2.1 q.2.2.2.2.1 q.2.2.2.2.2) ++ x_NM.map (fun q => Cond.methodLinkNest q.1 q.2.1 q.2.2.1 q.2.2.2)
theorem ck_0 : ∀ w ∈ u_ws "SequentMachine$Depth" ct_0 3, w ∈ x_ws := by
  intro w hw
  obtain ⟨k, hk, rfl⟩ := List.mem_map.mp hw
  have hk := List.mem_range.mp hk
  rcases (show k = 0 ∨ k = 1 ∨ k = 2 by omega) with rfl | rfl | rfl
  · exact x_at 37 (by decide +kernel) rfl
  · exact x_at 39 (by decide +kernel) rfl
  · exact x_at 41 (by decide +kernel) rfl
theorem ck_1 : ∀ w ∈ u_ws "SequentMachine$Equation" ct_1 3, w ∈ x_ws := by
  intro w hw
  obtain ⟨k, hk, rfl⟩ := List.mem_map.mp hw
  have hk := List.mem_range.mp hk
  rcases (show k = 0 ∨ k = 1 ∨ k = 2 by omega) with rfl | rfl | rfl
  · exact x_at 438 (by decide +kernel) rfl
  · exact x_at 440 (by decide +kernel) rfl
  · exact x_at 442 (by decide +kernel) rfl
theorem ck_2 : ∀ w ∈ u_ws "SequentMachine$Hypotheses" ct_2 2, w ∈ x_ws := by
  intro w hw
  obtain ⟨k, hk, rfl⟩ := List.mem_map.mp hw
  have hk := List.mem_range.mp hk
  rcases (show k = 0 ∨ k = 1 by omega) with rfl | rfl
  · exact x_at 89 (by decide +kernel) rfl
  · exact x_at 91 (by decide +kernel) rfl
theorem ck_3 : ∀ w ∈ u_ws "SequentMachine$Item" ct_3 3, w ∈ x_ws := by
  intro w hw
  obtain ⟨k, hk, rfl⟩ := List.mem_map.mp hw
  have hk := List.mem_range.mp hk
  rcases (show k = 0 ∨ k = 1 ∨ k = 2 by omega) with rfl | rfl | rfl
  · exact x_at 189 (by decide +kernel) rfl
  · exact x_at 191 (by decide +kernel) rfl
  · exact x_at 193 (by decide +kernel) rfl
theorem ck_4 : ∀ w ∈ u_ws "SequentMachine$Row" ct_4 3, w ∈ x_ws := by
  intro w hw
  obtain ⟨k, hk, rfl⟩ := List.mem_map.mp hw
  have hk := List.mem_range.mp hk
  rcases (show k = 0 ∨ k = 1 ∨ k = 2 by omega) with rfl | rfl | rfl
  · exact x_at 167 (by decide +kernel) rfl
  · exact x_at 169 (by decide +kernel) rfl
  · exact x_at 171 (by decide +kernel) rfl
theorem ck_5 : ∀ w ∈ u_ws "SequentMachine$Scribe" ct_5 4, w ∈ x_ws := by
  intro w hw
  obtain ⟨k, hk, rfl⟩ := List.mem_map.mp hw
  have hk := List.mem_range.mp hk
  rcases (show k = 0 ∨ k = 1 ∨ k = 2 ∨ k = 3 by omega) with rfl | rfl | rfl | rfl
  · exact x_at 51 (by decide +kernel) rfl
  · exact x_at 53 (by decide +kernel) rfl
  · exact x_at 55 (by decide +kernel) rfl
  · exact x_at 57 (by decide +kernel) rfl
theorem ck_6 : ∀ w ∈ u_ws "SequentMachine$Shelf" ct_6 2, w ∈ x_ws := by
  intro w hw
  obtain ⟨k, hk, rfl⟩ := List.mem_map.mp hw
  have hk := List.mem_range.mp hk
  rcases (show k = 0 ∨ k = 1 by omega) with rfl | rfl
  · exact x_at 71 (by decide +kernel) rfl
  · exact x_at 73 (by decide +kernel) rfl
theorem ck_7 : ∀ w ∈ u_ws "SequentMachine" ct_7 9, w ∈ x_ws := by
  intro w hw
  obtain ⟨k, hk, rfl⟩ := List.mem_map.mp hw
  have hk := List.mem_range.mp hk
  rcases (show k = 0 ∨ k = 1 ∨ k = 2 ∨ k = 3 ∨ k = 4 ∨ k = 5 ∨ k = 6 ∨ k = 7 ∨ k = 8 by omega) with rfl | rfl | rfl | rfl | rfl | rfl | rfl | rfl | rfl
  · exact x_at 103 (by decide +kernel) rfl
  · exact x_at 105 (by decide +kernel) rfl
  · exact x_at 107 (by decide +kernel) rfl
  · exact x_at 109 (by decide +kernel) rfl
  · exact x_at 111 (by decide +kernel) rfl
  · exact x_at 113 (by decide +kernel) rfl
  · exact x_at 115 (by decide +kernel) rfl
  · exact x_at 117 (by decide +kernel) rfl
  · exact x_at 119 (by decide +kernel) rfl
theorem ck_8 : ∀ w ∈ u_ws "SequentMachineModel" ct_8 15, w ∈ x_ws := by
  intro w hw
  obtain ⟨k, hk, rfl⟩ := List.mem_map.mp hw
  have hk := List.mem_range.mp hk
  rcases (show k = 0 ∨ k = 1 ∨ k = 2 ∨ k = 3 ∨ k = 4 ∨ k = 5 ∨ k = 6 ∨ k = 7 ∨ k = 8 ∨ k = 9 ∨ k = 10 ∨ k = 11 ∨ k = 12 ∨ k = 13 ∨ k = 14 by omega) with rfl | rfl | rfl | rfl | rfl | rfl | rfl | rfl | rfl | rfl | rfl | rfl | rfl | rfl | rfl
  · exact x_at 573 (by decide +kernel) rfl
  · exact x_at 575 (by decide +kernel) rfl
  · exact x_at 577 (by decide +kernel) rfl
  · exact x_at 579 (by decide +kernel) rfl
  · exact x_at 581 (by decide +kernel) rfl
  · exact x_at 583 (by decide +kernel) rfl
  · exact x_at 585 (by decide +kernel) rfl
  · exact x_at 587 (by decide +kernel) rfl
  · exact x_at 589 (by decide +kernel) rfl
  · exact x_at 591 (by decide +kernel) rfl
  · exact x_at 593 (by decide +kernel) rfl
  · exact x_at 595 (by decide +kernel) rfl
  · exact x_at 597 (by decide +kernel) rfl
  · exact x_at 599 (by decide +kernel) rfl
  · exact x_at 601 (by decide +kernel) rfl
end
section
/-! The plain machine: ints are whole numbers, references are places in one list of cells; a step of it is a step of the real one -/
abbrev xV : Type := Int ⊕ Option Nat
abbrev xC : Type := List Int ⊕ ((Nat × List (Option Nat)) ⊕ (Nat × List xV))
abbrev xH : Type := List xC × Nat
abbrev xD : Type := Nat × va_G × (Nat → ClassId)
abbrev xM : Type := MethodName × ByteArray × Nat × Option FieldType × Nat × Nat
def x_r (b : Nat) (r : Option Nat) : Option Nat := r.map (fun a => b + a)
def x_v (b : Nat) : xV → Value
  | .inl i => .int (Int32.ofInt i)
  | .inr r => va_rf (x_r b r)
def x_e (d : xD) : xC → va_E
  | .inl l => .inl (d.2.2 0, l.length, .inl (fun j => Int32.ofInt (l.getD j 0)))
  | .inr (.inl q) => .inl (d.2.2 (q.1 + 1), q.2.length, .inr (.inr (.inr (.inr (fun j => x_r d.1 (q.2.getD j none))))))
  | .inr (.inr o) => .inr (o.1, o.2.map (x_v d.1))
def x_R (d : xD) (h : xH) (H : Heap) : Prop := H.size = d.1 + h.1.length ∧ ∀ (i : Nat) (c : xC), h.1[i]? = some c → va_at d.2.1 cl_s (d.1 + i, x_e d c) H
theorem x_R.sing {d : xD} {h : xH} {H : Heap} {i : Nat} {c : xC} (hR : x_R d h H) (hi : h.1[i]? = some c) : va_P d.2.1 cl_s [(d.1 + i, x_e d c)] H := by
  intro k q hk
  cases k with
  | zero => cases hk; exact hR.2 i c hi
  | succ k => simp at hk
theorem x_R.set {d : xD} {h : xH} {H H1 : Heap} {i : Nat} {c' : xC} (hR : x_R d h H) (hi : i < h.1.length) (hz : H1.size = H.size) (ho : ∀ q : Nat, q ≠ d.1 + i → H1[q]? = H[q]?) (hc : va_at d.2.1 cl_s (d.1 + i, x_e d c') H1) : x_R d (h.1.set i c', h.2) H1 := by
  refine ⟨by rw [hz, hR.1]; simp, fun j c hj => ?_⟩
  by_cases hij : j = i
  · subst hij
    rw [List.getElem?_set_self hi] at hj
    cases hj
    exact hc
  · rw [List.getElem?_set_ne (Ne.symm hij)] at hj
    exact (hR.2 j c hj).kept (ho _ (fun e => hij (Nat.add_left_cancel e)))
theorem x_R.push {d : xD} {h : xH} {H H1 : Heap} {c' : xC} {n : Nat} (hR : x_R d h H) (hz : H1.size = H.size + 1) (ho : ∀ q : Nat, q < H.size → H1[q]? = H[q]?) (hc : va_at d.2.1 cl_s (H.size, x_e d c') H1) : x_R d (h.1 ++ [c'], n) H1 := by
  refine ⟨by rw [hz, hR.1]; simp; omega, fun j c hj => ?_⟩
  by_cases hlt : j < h.1.length
  · rw [List.getElem?_append_left hlt] at hj
    exact (hR.2 j c hj).kept (ho _ (by rw [hR.1]; exact Nat.add_lt_add_left hlt _))
  · rw [List.getElem?_append_right (by omega)] at hj
    have hz : j - h.1.length < 1 := (List.getElem?_eq_some_iff.mp hj).1
    have e : j = h.1.length := by omega
    subst e
    simp at hj
    subst hj
    rw [← hR.1]
    exact hc
/-! ints -/
def wr (x : Int) : Int := (x + 2147483648) % 4294967296 - 2147483648
def ir (x : Int) : Prop := -2147483648 ≤ x ∧ x < 2147483648
theorem wr_toInt (x : Int) : (Int32.ofInt x).toInt = wr x := by
  rw [Int32.toInt_ofInt]
  show Int.bmod x 4294967296 = wr x
  unfold Int.bmod wr
  simp only
  split <;> omega
theorem wr_id {x : Int} (h : ir x) : wr x = x := by
  unfold ir at h
  unfold wr
  omega
theorem wr_ir (x : Int) : ir (wr x) := by
  unfold ir wr
  omega
theorem x_i32 (x : Int32) : ir x.toInt := ⟨Int32.le_toInt x, Int32.toInt_lt x⟩
theorem x_wr (x : Int) : Int32.ofInt (wr x) = Int32.ofInt x := Int32.toInt_inj.mp (by rw [wr_toInt, wr_toInt, wr_id (wr_ir x)])
theorem x_le {a b : Int} (ha : ir a) (hb : ir b) : Int32.ofInt a ≤ Int32.ofInt b ↔ a ≤ b := by rw [Int32.le_iff_toInt_le, wr_toInt, wr_toInt, wr_id ha, wr_id hb]
theorem x_lt {a b : Int} (ha : ir a) (hb : ir b) : Int32.ofInt a < Int32.ofInt b ↔ a < b := by rw [Int32.lt_iff_toInt_lt, wr_toInt, wr_toInt, wr_id ha, wr_id hb]
theorem x_eq {a b : Int} (ha : ir a) (hb : ir b) : Int32.ofInt a = Int32.ofInt b ↔ a = b := by rw [← Int32.toInt_inj, wr_toInt, wr_toInt, wr_id ha, wr_id hb]
theorem ir_0 : ir 0 := by unfold ir; decide
theorem x_z : (0 : Int32) = Int32.ofInt 0 := by decide +kernel
theorem x_eq0 {a : Int} (ha : ir a) : Int32.ofInt a = 0 ↔ a = 0 := by rw [x_z, x_eq ha ir_0]
theorem x_lt0 {a : Int} (ha : ir a) : Int32.ofInt a < 0 ↔ a < 0 := by rw [x_z, x_lt ha ir_0]
theorem x_0lt {a : Int} (ha : ir a) : 0 < Int32.ofInt a ↔ 0 < a := by rw [x_z, x_lt ir_0 ha]
theorem x_le0 {a : Int} (ha : ir a) : Int32.ofInt a ≤ 0 ↔ a ≤ 0 := by rw [x_z, x_le ha ir_0]
theorem x_0le {a : Int} (ha : ir a) : 0 ≤ Int32.ofInt a ↔ 0 ≤ a := by rw [x_z, x_le ir_0 ha]
theorem x_cl {j : Int} (h0 : 0 ≤ j) (h1 : j < 2147483648) : (Int32.ofInt j).toNatClampNeg = j.toNat := by
  show (Int32.ofInt j).toInt.toNat = j.toNat
  rw [wr_toInt, wr_id ⟨by omega, h1⟩]
theorem x_n0 {j : Int} (h0 : 0 ≤ j) (h1 : j < 2147483648) : ¬ Int32.ofInt j < 0 := by
  rw [x_z, x_lt ⟨by omega, h1⟩ ir_0]
  omega
theorem x_in {j : Int} {n : Nat} (h0 : 0 ≤ j) (h1 : j.toNat < n) (hn : n < 2147483648) : vp_in (Int32.ofInt j) n := by
  intro q
  rcases q with q | q
  · exact x_n0 h0 (by omega) q
  · rw [x_cl h0 (by omega)] at q
    omega
/-! locals -/
def x_ll (b : Nat) (L : List (Option xV)) : List (Nat × Value) := (List.range L.length).filterMap (fun i => (L.getD i none).map (fun v => (i, x_v b v)))
theorem x_ll_mem {b : Nat} {L : List (Option xV)} {q : Nat × Value} : q ∈ x_ll b L ↔ ∃ v, L[q.1]? = some (some v) ∧ q.2 = x_v b v := by
  unfold x_ll
  rw [List.mem_filterMap]
  constructor
  · rintro ⟨i, hi, e⟩
    rw [List.mem_range] at hi
    rw [List.getD_eq_getElem?_getD] at e
    cases hL : L[i]? with
    | none => rw [hL] at e; simp at e
    | some o =>
      rw [hL] at e
      cases o with
      | none => simp at e
      | some v =>
        simp at e
        subst e
        exact ⟨v, hL, rfl⟩
  · rintro ⟨v, h1, h2⟩
    refine ⟨q.1, List.mem_range.mpr (List.getElem?_eq_some_iff.mp h1).1, ?_⟩
    rw [List.getD_eq_getElem?_getD, h1]
    simp
    rw [← h2]
theorem x_cat (b : Nat) (v : xV) : (x_v b v).category = 1 := by
  cases v with
  | inl i => rfl
  | inr r => cases r <;> rfl
abbrev x_L (b : Nat) (ls : Array Slot) (n : Nat) (L : List (Option xV)) : Prop := lv_has ls n (x_ll b L)
theorem x_L_get {b : Nat} {ls : Array Slot} {n : Nat} {L : List (Option xV)} {i : Nat} {v : xV} (h : x_L b ls n L) (hi : L[i]? = some (some v)) : ls[i]? = some (.val (x_v b v)) :=
  h.2.2 (i, x_v b v) (x_ll_mem.mpr ⟨v, hi, rfl⟩)
theorem x_L_set {b : Nat} {ls : Array Slot} {n : Nat} {L : List (Option xV)} {i : Nat} {v : xV} (h : lv_has ls n ((i, x_v b v) :: (x_ll b L).filter (fun q => !(q.1 == i) && !(q.1 + 1 == i && q.2.category == 2)))) : x_L b ls n (L.set i (some v)) := by
  refine ⟨h.1, h.2.1, fun q hq => h.2.2 q ?_⟩
  obtain ⟨u, h1, h2⟩ := x_ll_mem.mp hq
  obtain ⟨j, w0⟩ := q
  dsimp only at h1 h2
  subst h2
  by_cases hij : j = i
  · subst hij
    have hl : j < L.length := by
      have := (List.getElem?_eq_some_iff.mp h1).1
      simpa using this
    rw [List.getElem?_set_self hl] at h1
    cases h1
    exact List.mem_cons_self
  · rw [List.getElem?_set_ne (Ne.symm hij)] at h1
    refine List.mem_cons_of_mem _ (List.mem_filter.mpr ⟨x_ll_mem.mpr ⟨u, h1, rfl⟩, ?_⟩)
    simp [hij, x_cat]
/-! the judgements -/
def x_rm (M : xM) (mc ms : Nat) : Room := { frames := M.2.2.2.2.1, cells := mc, slots := ms, locals := M.2.2.2.2.2 }
def x_wM (M : xM) : List Cond := Cond.code M.1 M.2.1 M.2.2.1 M.2.2.2.1 :: x_ws
def x_tys (d : xD) : List (ClassId × FieldType) := [(d.2.2 0, .int), (d.2.2 1, .object "SequentMachine$Row"), (d.2.2 2, .object "SequentMachine$Item")]
def x_K (d : xD) (U : State) : Prop := va_K d.2.1 cl_s (x_tys d) U ∧ (∀ w ∈ x_N, va_Nw w U) ∧ va_AO "SequentMachine$Row" U ∧ va_AO "SequentMachine$Item" U
def x_Cx (M : xM) (p : Program) (s : State) (m : MethodId) (args : Array Value) (meth : Method) (c : Code) (d : xD) : Prop :=
  p.tables.exec = Jvm.exec ∧ c.code = M.2.1 ∧ c.maxLocals = M.2.2.1 ∧ s.vm.findClass M.1.cls = some m.cls ∧ (∀ w ∈ x_wM M, w.before args s = true) ∧ meth.sig.returnType = M.2.2.2.1 ∧ meth.locks = false ∧ meth.name = M.1.name ∧ x_K d s
def x_Q (d : xD) (r : Option xV) (hf : xH) : Array Value → State → Outcome → State → Prop := fun _ _ o t => o = .returned (r.map (x_v d.1)) ∧ x_R d hf t.heap
def x_B (M : xM) (pc : Nat) (L : List (Option xV)) (st : List xV) (h : xH) (r : Option xV) (hf : xH) : Prop :=
  (h.1.length ≤ hf.1.length ∧ h.2 ≤ hf.2) ∧ ∀ (p : Program) (l : Launch) (e : Env) (s : State) (m : MethodId) (args : Array Value) (below : List Frame) (meth : Method) (c : Code) (H : Heap) (locs : List Loc) (ls : Array Slot) (d : xD) (k0 n0 : Nat),
    x_Cx M p s m args meth c d → x_R d h H → x_L d.1 ls M.2.2.1 L → k0 ≤ h.1.length → n0 ≤ h.2 → (∀ q ∈ locs, d.1 ≤ q.base) →
    W p l e (x_rm M (hf.1.length - k0) (hf.2 - n0)) s m args below meth c H locs (h.1.length - k0) (h.2 - n0) (MQ below (x_Q d r hf) args s (hf.1.length - k0) (hf.2 - n0) (fun q => d.1 ≤ q)) (F0 m pc ls (st.map (x_v d.1)))
def x_S (M : xM) (pc : Nat) (L : List (Option xV)) (st : List xV) (h : xH) (pc' : Nat) (L' : List (Option xV)) (st' : List xV) (h' : xH) : Prop := ∀ (r : Option xV) (hf : xH), x_B M pc' L' st' h' r hf → x_B M pc L st h r hf
def x_X (M : xM) (pc : Nat) (L : List (Option xV)) (st : List xV) (h : xH) (Q : Option xV → xH → Prop) : Prop := ∃ r hf, x_B M pc L st h r hf ∧ Q r hf
def x_M (M : xM) (as : List xV) (h : xH) (r : Option xV) (hf : xH) : Prop := (h.1.length ≤ hf.1.length ∧ h.2 ≤ hf.2) ∧ ∀ (l : Launch) (d : xD), Met l M.1 (x_wM M) (x_rm M (hf.1.length - h.1.length) (hf.2 - h.2)) (va_Pc (as.map (x_v d.1)) (fun U => x_R d h U.heap ∧ x_K d U)) (x_Q d r hf) (hf.1.length - h.1.length) (hf.2 - h.2) (fun q => d.1 ≤ q)
theorem xx {M : xM} {pc : Nat} {L : List (Option xV)} {st : List xV} {h : xH} {pc' : Nat} {L' : List (Option xV)} {st' : List xV} {h' : xH} {Q : Option xV → xH → Prop} (hs : x_S M pc L st h pc' L' st' h') (hx : x_X M pc' L' st' h' Q) : x_X M pc L st h Q := by
  obtain ⟨r, hf, hb, hq⟩ := hx
  exact ⟨r, hf, hs r hf hb, hq⟩

section XS
variable {M : xM} {pc : Nat} {L : List (Option xV)} {st : List xV} {h : xH}
theorem xs_iconst {n : Int} (hd : decode M.2.1 pc = .ok (.iconst n, 1)) : x_S M pc L st h (pc + 1) L (.inl n :: st) h := by
  intro r hf hb
  obtain ⟨hle, hw⟩ := hb
  refine ⟨hle, fun p l e s m args below meth c H locs ls d k0 n0 hC hR hL h1 h2 hq => ?_⟩
  exact lv_iconst hC.1 hC.2.1 hd rfl (hw p l e s m args below meth c H locs ls d k0 n0 hC hR hL h1 h2 hq)
theorem xs_bipush {n : Int} (hd : decode M.2.1 pc = .ok (.bipush n, 2)) (hn : -128 ≤ n ∧ n < 128) : x_S M pc L st h (pc + 2) L (.inl n :: st) h := by
  intro r hf hb
  obtain ⟨hle, hw⟩ := hb
  refine ⟨hle, fun p l e s m args below meth c H locs ls d k0 n0 hC hR hL h1 h2 hq => ?_⟩
  have hv : (Int8.ofInt n).toInt32 = Int32.ofInt n := Int32.toInt_inj.mp (by rw [Int8.toInt_toInt32, Int8.toInt_ofInt_of_le (by omega) (by omega), Int32.toInt_ofInt_of_le (by omega) (by omega)])
  exact lv_bipush hC.1 hC.2.1 hd hv (hw p l e s m args below meth c H locs ls d k0 n0 hC hR hL h1 h2 hq)
theorem xs_sipush {n : Int} (hd : decode M.2.1 pc = .ok (.sipush n, 3)) (hn : -32768 ≤ n ∧ n < 32768) : x_S M pc L st h (pc + 3) L (.inl n :: st) h := by
  intro r hf hb
  obtain ⟨hle, hw⟩ := hb
  refine ⟨hle, fun p l e s m args below meth c H locs ls d k0 n0 hC hR hL h1 h2 hq => ?_⟩
  have hv : (Int16.ofInt n).toInt32 = Int32.ofInt n := Int32.toInt_inj.mp (by rw [Int16.toInt_toInt32, Int16.toInt_ofInt_of_le (by omega) (by omega), Int32.toInt_ofInt_of_le (by omega) (by omega)])
  exact lv_sipush hC.1 hC.2.1 hd hv (hw p l e s m args below meth c H locs ls d k0 n0 hC hR hL h1 h2 hq)
theorem xs_null (hd : decode M.2.1 pc = .ok (.aconst_null, 1)) : x_S M pc L st h (pc + 1) L (.inr none :: st) h := by
  intro r hf hb
  obtain ⟨hle, hw⟩ := hb
  refine ⟨hle, fun p l e s m args below meth c H locs ls d k0 n0 hC hR hL h1 h2 hq => ?_⟩
  exact lv_null hC.1 hC.2.1 hd (hw p l e s m args below meth c H locs ls d k0 n0 hC hR hL h1 h2 hq)
theorem xs_iload_n {k : Fin 4} {x : Int} (hd : decode M.2.1 pc = .ok (.iload_n k, 1)) (hl : L[(k : Nat)]? = some (some (.inl x))) : x_S M pc L st h (pc + 1) L (.inl x :: st) h := by
  intro r hf hb
  obtain ⟨hle, hw⟩ := hb
  refine ⟨hle, fun p l e s m args below meth c H locs ls d k0 n0 hC hR hL h1 h2 hq => ?_⟩
  exact lv_iload_n hC.1 hC.2.1 hd rfl (x_L_get hL hl) (hw p l e s m args below meth c H locs ls d k0 n0 hC hR hL h1 h2 hq)
theorem xs_iload {k : Nat} {x : Int} (hd : decode M.2.1 pc = .ok (.iload k, 2)) (hl : L[k]? = some (some (.inl x))) : x_S M pc L st h (pc + 2) L (.inl x :: st) h := by
  intro r hf hb
  obtain ⟨hle, hw⟩ := hb
  refine ⟨hle, fun p l e s m args below meth c H locs ls d k0 n0 hC hR hL h1 h2 hq => ?_⟩
  exact lv_iload hC.1 hC.2.1 hd (x_L_get hL hl) (hw p l e s m args below meth c H locs ls d k0 n0 hC hR hL h1 h2 hq)
theorem xs_aload_n {k : Fin 4} {x : Option Nat} (hd : decode M.2.1 pc = .ok (.aload_n k, 1)) (hl : L[(k : Nat)]? = some (some (.inr x))) : x_S M pc L st h (pc + 1) L (.inr x :: st) h := by
  intro r hf hb
  obtain ⟨hle, hw⟩ := hb
  refine ⟨hle, fun p l e s m args below meth c H locs ls d k0 n0 hC hR hL h1 h2 hq => ?_⟩
  cases x with
  | none => exact lv_aload_nN hC.1 hC.2.1 hd rfl (x_L_get hL hl) (hw p l e s m args below meth c H locs ls d k0 n0 hC hR hL h1 h2 hq)
  | some x => exact lv_aload_n hC.1 hC.2.1 hd rfl (x_L_get hL hl) (hw p l e s m args below meth c H locs ls d k0 n0 hC hR hL h1 h2 hq)
theorem xs_aload {k : Nat} {x : Option Nat} (hd : decode M.2.1 pc = .ok (.aload k, 2)) (hl : L[k]? = some (some (.inr x))) : x_S M pc L st h (pc + 2) L (.inr x :: st) h := by
  intro r hf hb
  obtain ⟨hle, hw⟩ := hb
  refine ⟨hle, fun p l e s m args below meth c H locs ls d k0 n0 hC hR hL h1 h2 hq => ?_⟩
  cases x with
  | none => exact lv_aloadN hC.1 hC.2.1 hd (x_L_get hL hl) (hw p l e s m args below meth c H locs ls d k0 n0 hC hR hL h1 h2 hq)
  | some x => exact lv_aload hC.1 hC.2.1 hd (x_L_get hL hl) (hw p l e s m args below meth c H locs ls d k0 n0 hC hR hL h1 h2 hq)
theorem xs_istore_n {k : Fin 4} {x : Int} (hd : decode M.2.1 pc = .ok (.istore_n k, 1)) (hn : (k : Nat) < M.2.2.1) : x_S M pc L (.inl x :: st) h (pc + 1) (L.set k (some (.inl x))) st h := by
  intro r hf hb
  obtain ⟨hle, hw⟩ := hb
  refine ⟨hle, fun p l e s m args below meth c H locs ls d k0 n0 hC hR hL h1 h2 hq => ?_⟩
  exact lv_istore_n hC.1 hC.2.1 hd rfl hL hn rfl (fun ls' hl' => hw p l e s m args below meth c H locs ls' d k0 n0 hC hR (x_L_set hl') h1 h2 hq)
theorem xs_istore {k : Nat} {x : Int} (hd : decode M.2.1 pc = .ok (.istore k, 2)) (hn : k < M.2.2.1) : x_S M pc L (.inl x :: st) h (pc + 2) (L.set k (some (.inl x))) st h := by
  intro r hf hb
  obtain ⟨hle, hw⟩ := hb
  refine ⟨hle, fun p l e s m args below meth c H locs ls d k0 n0 hC hR hL h1 h2 hq => ?_⟩
  exact lv_istore hC.1 hC.2.1 hd hL hn rfl (fun ls' hl' => hw p l e s m args below meth c H locs ls' d k0 n0 hC hR (x_L_set hl') h1 h2 hq)
theorem xs_astore_n {k : Fin 4} {x : Option Nat} (hd : decode M.2.1 pc = .ok (.astore_n k, 1)) (hn : (k : Nat) < M.2.2.1) : x_S M pc L (.inr x :: st) h (pc + 1) (L.set k (some (.inr x))) st h := by
  intro r hf hb
  obtain ⟨hle, hw⟩ := hb
  refine ⟨hle, fun p l e s m args below meth c H locs ls d k0 n0 hC hR hL h1 h2 hq => ?_⟩
  cases x with
  | none => exact lv_astore_nN hC.1 hC.2.1 hd rfl hL hn rfl (fun ls' hl' => hw p l e s m args below meth c H locs ls' d k0 n0 hC hR (x_L_set hl') h1 h2 hq)
  | some x => exact lv_astore_n hC.1 hC.2.1 hd rfl hL hn rfl (fun ls' hl' => hw p l e s m args below meth c H locs ls' d k0 n0 hC hR (x_L_set hl') h1 h2 hq)
theorem xs_astore {k : Nat} {x : Option Nat} (hd : decode M.2.1 pc = .ok (.astore k, 2)) (hn : k < M.2.2.1) : x_S M pc L (.inr x :: st) h (pc + 2) (L.set k (some (.inr x))) st h := by
  intro r hf hb
  obtain ⟨hle, hw⟩ := hb
  refine ⟨hle, fun p l e s m args below meth c H locs ls d k0 n0 hC hR hL h1 h2 hq => ?_⟩
  cases x with
  | none => exact lv_astoreN hC.1 hC.2.1 hd hL hn rfl (fun ls' hl' => hw p l e s m args below meth c H locs ls' d k0 n0 hC hR (x_L_set hl') h1 h2 hq)
  | some x => exact lv_astore hC.1 hC.2.1 hd hL hn rfl (fun ls' hl' => hw p l e s m args below meth c H locs ls' d k0 n0 hC hR (x_L_set hl') h1 h2 hq)
theorem xs_iinc {k : Nat} {x n : Int} (hd : decode M.2.1 pc = .ok (.iinc k n, 3)) (hl : L[k]? = some (some (.inl x))) (hn : k < M.2.2.1) : x_S M pc L st h (pc + 3) (L.set k (some (.inl (x + n)))) st h := by
  intro r hf hb
  obtain ⟨hle, hw⟩ := hb
  refine ⟨hle, fun p l e s m args below meth c H locs ls d k0 n0 hC hR hL h1 h2 hq => ?_⟩
  obtain ⟨i, hi⟩ := List.getElem?_of_mem (x_ll_mem (b := d.1) (q := (k, x_v d.1 (.inl x))).mpr ⟨_, hl, rfl⟩)
  exact lv_iinc hC.1 hC.2.1 hd hL hi (Int32.ofInt_add x n).symm hn rfl (fun ls' hl' => hw p l e s m args below meth c H locs ls' d k0 n0 hC hR (x_L_set hl') h1 h2 hq)
theorem xs_iadd {x y : Int} (hd : decode M.2.1 pc = .ok (.iadd, 1)) : x_S M pc L (.inl y :: .inl x :: st) h (pc + 1) L (.inl (x + y) :: st) h := by
  intro r hf hb
  obtain ⟨hle, hw⟩ := hb
  refine ⟨hle, fun p l e s m args below meth c H locs ls d k0 n0 hC hR hL h1 h2 hq => ?_⟩
  refine lv_iadd hC.1 hC.2.1 hd ?_
  rw [← Int32.ofInt_add]
  exact hw p l e s m args below meth c H locs ls d k0 n0 hC hR hL h1 h2 hq
theorem xs_isub {x y : Int} (hd : decode M.2.1 pc = .ok (.isub, 1)) : x_S M pc L (.inl y :: .inl x :: st) h (pc + 1) L (.inl (x - y) :: st) h := by
  intro r hf hb
  obtain ⟨hle, hw⟩ := hb
  refine ⟨hle, fun p l e s m args below meth c H locs ls d k0 n0 hC hR hL h1 h2 hq => ?_⟩
  refine lv_isub hC.1 hC.2.1 hd ?_
  rw [← Int32.ofInt_sub]
  exact hw p l e s m args below meth c H locs ls d k0 n0 hC hR hL h1 h2 hq
theorem xs_imul {x y : Int} (hd : decode M.2.1 pc = .ok (.imul, 1)) : x_S M pc L (.inl y :: .inl x :: st) h (pc + 1) L (.inl (x * y) :: st) h := by
  intro r hf hb
  obtain ⟨hle, hw⟩ := hb
  refine ⟨hle, fun p l e s m args below meth c H locs ls d k0 n0 hC hR hL h1 h2 hq => ?_⟩
  refine lv_imul hC.1 hC.2.1 hd ?_
  rw [← Int32.ofInt_mul]
  exact hw p l e s m args below meth c H locs ls d k0 n0 hC hR hL h1 h2 hq
theorem xs_dup {v : xV} (hd : decode M.2.1 pc = .ok (.dup, 1)) : x_S M pc L (v :: st) h (pc + 1) L (v :: v :: st) h := by
  intro r hf hb
  obtain ⟨hle, hw⟩ := hb
  refine ⟨hle, fun p l e s m args below meth c H locs ls d k0 n0 hC hR hL h1 h2 hq => ?_⟩
  exact lv_dup hC.1 hC.2.1 hd (x_cat _ _) (hw p l e s m args below meth c H locs ls d k0 n0 hC hR hL h1 h2 hq)
theorem xs_pop {v : xV} (hd : decode M.2.1 pc = .ok (.pop, 1)) : x_S M pc L (v :: st) h (pc + 1) L st h := by
  intro r hf hb
  obtain ⟨hle, hw⟩ := hb
  refine ⟨hle, fun p l e s m args below meth c H locs ls d k0 n0 hC hR hL h1 h2 hq => ?_⟩
  exact lv_pop hC.1 hC.2.1 hd (x_cat _ _) (hw p l e s m args below meth c H locs ls d k0 n0 hC hR hL h1 h2 hq)
theorem xs_dup_x1 {v u : xV} (hd : decode M.2.1 pc = .ok (.dup_x1, 1)) : x_S M pc L (v :: u :: st) h (pc + 1) L (v :: u :: v :: st) h := by
  intro r hf hb
  obtain ⟨hle, hw⟩ := hb
  refine ⟨hle, fun p l e s m args below meth c H locs ls d k0 n0 hC hR hL h1 h2 hq => ?_⟩
  exact lv_dup_x1 hC.1 hC.2.1 hd (x_cat _ _) (x_cat _ _) (hw p l e s m args below meth c H locs ls d k0 n0 hC hR hL h1 h2 hq)
theorem xs_dup_x2 {v u t : xV} (hd : decode M.2.1 pc = .ok (.dup_x2, 1)) : x_S M pc L (v :: u :: t :: st) h (pc + 1) L (v :: u :: t :: v :: st) h := by
  intro r hf hb
  obtain ⟨hle, hw⟩ := hb
  refine ⟨hle, fun p l e s m args below meth c H locs ls d k0 n0 hC hR hL h1 h2 hq => ?_⟩
  exact lv_dup_x2 hC.1 hC.2.1 hd (x_cat _ _) (x_cat _ _) (x_cat _ _) (hw p l e s m args below meth c H locs ls d k0 n0 hC hR hL h1 h2 hq)
theorem xs_dup2 {v u : xV} (hd : decode M.2.1 pc = .ok (.dup2, 1)) : x_S M pc L (v :: u :: st) h (pc + 1) L (v :: u :: v :: u :: st) h := by
  intro r hf hb
  obtain ⟨hle, hw⟩ := hb
  refine ⟨hle, fun p l e s m args below meth c H locs ls d k0 n0 hC hR hL h1 h2 hq => ?_⟩
  exact lv_dup2_11 hC.1 hC.2.1 hd (x_cat _ _) (x_cat _ _) (hw p l e s m args below meth c H locs ls d k0 n0 hC hR hL h1 h2 hq)
theorem xs_goto {off : Int} {tgt : Nat} (hd : decode M.2.1 pc = .ok (.goto off, 3)) (ht : (pc : Int) + off = (tgt : Int)) : x_S M pc L st h tgt L st h := by
  intro r hf hb
  obtain ⟨hle, hw⟩ := hb
  refine ⟨hle, fun p l e s m args below meth c H locs ls d k0 n0 hC hR hL h1 h2 hq => ?_⟩
  exact lv_goto hC.1 hC.2.1 hd ht (hw p l e s m args below meth c H locs ls d k0 n0 hC hR hL h1 h2 hq)
theorem xs_norm {x : Int} : x_S M pc L (.inl x :: st) h pc L (.inl (wr x) :: st) h := by
  intro r hf hb
  obtain ⟨hle, hw⟩ := hb
  refine ⟨hle, fun p l e s m args below meth c H locs ls d k0 n0 hC hR hL h1 h2 hq => ?_⟩
  have k := hw p l e s m args below meth c H locs ls d k0 n0 hC hR hL h1 h2 hq
  simp only [List.map_cons, x_v, x_wr] at k ⊢
  exact k
theorem xs_icmp_eq_t {x y : Int} {off : Int} {tgt : Nat} (hd : decode M.2.1 pc = .ok (.if_icmp .eq off, 3)) (ht : (pc : Int) + off = (tgt : Int)) (hx : ir x) (hy : ir y) (hc : x = y) : x_S M pc L (.inl y :: .inl x :: st) h tgt L st h := by
  intro r hf hb
  obtain ⟨hle, hw⟩ := hb
  refine ⟨hle, fun p l e s m args below meth c H locs ls d k0 n0 hC hR hL h1 h2 hq => ?_⟩
  exact lv_icmp_eq hC.1 hC.2.1 hd ht (fun _ => hw p l e s m args below meth c H locs ls d k0 n0 hC hR hL h1 h2 hq) (fun q => absurd ((x_eq hx hy).mpr hc) q)
theorem xs_icmp_eq_f {x y : Int} {off : Int} {tgt : Nat} (hd : decode M.2.1 pc = .ok (.if_icmp .eq off, 3)) (ht : (pc : Int) + off = (tgt : Int)) (hx : ir x) (hy : ir y) (hc : ¬ x = y) : x_S M pc L (.inl y :: .inl x :: st) h (pc + 3) L st h := by
  intro r hf hb
  obtain ⟨hle, hw⟩ := hb
  refine ⟨hle, fun p l e s m args below meth c H locs ls d k0 n0 hC hR hL h1 h2 hq => ?_⟩
  exact lv_icmp_eq hC.1 hC.2.1 hd ht (fun q => absurd ((x_eq hx hy).mp q) hc) (fun _ => hw p l e s m args below meth c H locs ls d k0 n0 hC hR hL h1 h2 hq)
theorem xx_icmp_eq {x y : Int} {off : Int} {tgt : Nat} (hd : decode M.2.1 pc = .ok (.if_icmp .eq off, 3)) (ht : (pc : Int) + off = (tgt : Int)) (hx : ir x) (hy : ir y) {Q : Option xV → xH → Prop} (kt : x = y → x_X M tgt L st h Q) (kf : ¬ x = y → x_X M (pc + 3) L st h Q) : x_X M pc L (.inl y :: .inl x :: st) h Q := by
  by_cases hc : x = y
  · exact xx (xs_icmp_eq_t hd ht hx hy hc) (kt hc)
  · exact xx (xs_icmp_eq_f hd ht hx hy hc) (kf hc)
theorem xs_if_eq_t {x : Int} {off : Int} {tgt : Nat} (hd : decode M.2.1 pc = .ok (.ifCond .eq off, 3)) (ht : (pc : Int) + off = (tgt : Int)) (hx : ir x) (hc : x = 0) : x_S M pc L (.inl x :: st) h tgt L st h := by
  intro r hf hb
  obtain ⟨hle, hw⟩ := hb
  refine ⟨hle, fun p l e s m args below meth c H locs ls d k0 n0 hC hR hL h1 h2 hq => ?_⟩
  exact lv_if_eq hC.1 hC.2.1 hd ht (fun _ => hw p l e s m args below meth c H locs ls d k0 n0 hC hR hL h1 h2 hq) (fun q => absurd ((x_eq0 hx).mpr hc) q)
theorem xs_if_eq_f {x : Int} {off : Int} {tgt : Nat} (hd : decode M.2.1 pc = .ok (.ifCond .eq off, 3)) (ht : (pc : Int) + off = (tgt : Int)) (hx : ir x) (hc : ¬ x = 0) : x_S M pc L (.inl x :: st) h (pc + 3) L st h := by
  intro r hf hb
  obtain ⟨hle, hw⟩ := hb
  refine ⟨hle, fun p l e s m args below meth c H locs ls d k0 n0 hC hR hL h1 h2 hq => ?_⟩
  exact lv_if_eq hC.1 hC.2.1 hd ht (fun q => absurd ((x_eq0 hx).mp q) hc) (fun _ => hw p l e s m args below meth c H locs ls d k0 n0 hC hR hL h1 h2 hq)
theorem xx_if_eq {x : Int} {off : Int} {tgt : Nat} (hd : decode M.2.1 pc = .ok (.ifCond .eq off, 3)) (ht : (pc : Int) + off = (tgt : Int)) (hx : ir x) {Q : Option xV → xH → Prop} (kt : x = 0 → x_X M tgt L st h Q) (kf : ¬ x = 0 → x_X M (pc + 3) L st h Q) : x_X M pc L (.inl x :: st) h Q := by
  by_cases hc : x = 0
  · exact xx (xs_if_eq_t hd ht hx hc) (kt hc)
  · exact xx (xs_if_eq_f hd ht hx hc) (kf hc)
theorem xs_icmp_ne_t {x y : Int} {off : Int} {tgt : Nat} (hd : decode M.2.1 pc = .ok (.if_icmp .ne off, 3)) (ht : (pc : Int) + off = (tgt : Int)) (hx : ir x) (hy : ir y) (hc : ¬ x = y) : x_S M pc L (.inl y :: .inl x :: st) h tgt L st h := by
  intro r hf hb
  obtain ⟨hle, hw⟩ := hb
  refine ⟨hle, fun p l e s m args below meth c H locs ls d k0 n0 hC hR hL h1 h2 hq => ?_⟩
  exact lv_icmp_ne hC.1 hC.2.1 hd ht (fun _ => hw p l e s m args below meth c H locs ls d k0 n0 hC hR hL h1 h2 hq) (fun q => absurd ((x_eq hx hy).mp q) hc)
theorem xs_icmp_ne_f {x y : Int} {off : Int} {tgt : Nat} (hd : decode M.2.1 pc = .ok (.if_icmp .ne off, 3)) (ht : (pc : Int) + off = (tgt : Int)) (hx : ir x) (hy : ir y) (hc : x = y) : x_S M pc L (.inl y :: .inl x :: st) h (pc + 3) L st h := by
  intro r hf hb
  obtain ⟨hle, hw⟩ := hb
  refine ⟨hle, fun p l e s m args below meth c H locs ls d k0 n0 hC hR hL h1 h2 hq => ?_⟩
  exact lv_icmp_ne hC.1 hC.2.1 hd ht (fun q => absurd ((x_eq hx hy).mpr hc) q) (fun _ => hw p l e s m args below meth c H locs ls d k0 n0 hC hR hL h1 h2 hq)
theorem xx_icmp_ne {x y : Int} {off : Int} {tgt : Nat} (hd : decode M.2.1 pc = .ok (.if_icmp .ne off, 3)) (ht : (pc : Int) + off = (tgt : Int)) (hx : ir x) (hy : ir y) {Q : Option xV → xH → Prop} (kt : ¬ x = y → x_X M tgt L st h Q) (kf : x = y → x_X M (pc + 3) L st h Q) : x_X M pc L (.inl y :: .inl x :: st) h Q := by
  by_cases hc : x = y
  · exact xx (xs_icmp_ne_f hd ht hx hy hc) (kf hc)
  · exact xx (xs_icmp_ne_t hd ht hx hy hc) (kt hc)
theorem xs_if_ne_t {x : Int} {off : Int} {tgt : Nat} (hd : decode M.2.1 pc = .ok (.ifCond .ne off, 3)) (ht : (pc : Int) + off = (tgt : Int)) (hx : ir x) (hc : ¬ x = 0) : x_S M pc L (.inl x :: st) h tgt L st h := by
  intro r hf hb
  obtain ⟨hle, hw⟩ := hb
  refine ⟨hle, fun p l e s m args below meth c H locs ls d k0 n0 hC hR hL h1 h2 hq => ?_⟩
  exact lv_if_ne hC.1 hC.2.1 hd ht (fun _ => hw p l e s m args below meth c H locs ls d k0 n0 hC hR hL h1 h2 hq) (fun q => absurd ((x_eq0 hx).mp q) hc)
theorem xs_if_ne_f {x : Int} {off : Int} {tgt : Nat} (hd : decode M.2.1 pc = .ok (.ifCond .ne off, 3)) (ht : (pc : Int) + off = (tgt : Int)) (hx : ir x) (hc : x = 0) : x_S M pc L (.inl x :: st) h (pc + 3) L st h := by
  intro r hf hb
  obtain ⟨hle, hw⟩ := hb
  refine ⟨hle, fun p l e s m args below meth c H locs ls d k0 n0 hC hR hL h1 h2 hq => ?_⟩
  exact lv_if_ne hC.1 hC.2.1 hd ht (fun q => absurd ((x_eq0 hx).mpr hc) q) (fun _ => hw p l e s m args below meth c H locs ls d k0 n0 hC hR hL h1 h2 hq)
theorem xx_if_ne {x : Int} {off : Int} {tgt : Nat} (hd : decode M.2.1 pc = .ok (.ifCond .ne off, 3)) (ht : (pc : Int) + off = (tgt : Int)) (hx : ir x) {Q : Option xV → xH → Prop} (kt : ¬ x = 0 → x_X M tgt L st h Q) (kf : x = 0 → x_X M (pc + 3) L st h Q) : x_X M pc L (.inl x :: st) h Q := by
  by_cases hc : x = 0
  · exact xx (xs_if_ne_f hd ht hx hc) (kf hc)
  · exact xx (xs_if_ne_t hd ht hx hc) (kt hc)
theorem xs_icmp_lt_t {x y : Int} {off : Int} {tgt : Nat} (hd : decode M.2.1 pc = .ok (.if_icmp .lt off, 3)) (ht : (pc : Int) + off = (tgt : Int)) (hx : ir x) (hy : ir y) (hc : x < y) : x_S M pc L (.inl y :: .inl x :: st) h tgt L st h := by
  intro r hf hb
  obtain ⟨hle, hw⟩ := hb
  refine ⟨hle, fun p l e s m args below meth c H locs ls d k0 n0 hC hR hL h1 h2 hq => ?_⟩
  exact lv_icmp_lt hC.1 hC.2.1 hd ht (fun _ => hw p l e s m args below meth c H locs ls d k0 n0 hC hR hL h1 h2 hq) (fun q => absurd ((x_lt hx hy).mpr hc) q)
theorem xs_icmp_lt_f {x y : Int} {off : Int} {tgt : Nat} (hd : decode M.2.1 pc = .ok (.if_icmp .lt off, 3)) (ht : (pc : Int) + off = (tgt : Int)) (hx : ir x) (hy : ir y) (hc : ¬ x < y) : x_S M pc L (.inl y :: .inl x :: st) h (pc + 3) L st h := by
  intro r hf hb
  obtain ⟨hle, hw⟩ := hb
  refine ⟨hle, fun p l e s m args below meth c H locs ls d k0 n0 hC hR hL h1 h2 hq => ?_⟩
  exact lv_icmp_lt hC.1 hC.2.1 hd ht (fun q => absurd ((x_lt hx hy).mp q) hc) (fun _ => hw p l e s m args below meth c H locs ls d k0 n0 hC hR hL h1 h2 hq)
theorem xx_icmp_lt {x y : Int} {off : Int} {tgt : Nat} (hd : decode M.2.1 pc = .ok (.if_icmp .lt off, 3)) (ht : (pc : Int) + off = (tgt : Int)) (hx : ir x) (hy : ir y) {Q : Option xV → xH → Prop} (kt : x < y → x_X M tgt L st h Q) (kf : ¬ x < y → x_X M (pc + 3) L st h Q) : x_X M pc L (.inl y :: .inl x :: st) h Q := by
  by_cases hc : x < y
  · exact xx (xs_icmp_lt_t hd ht hx hy hc) (kt hc)
  · exact xx (xs_icmp_lt_f hd ht hx hy hc) (kf hc)
theorem xs_if_lt_t {x : Int} {off : Int} {tgt : Nat} (hd : decode M.2.1 pc = .ok (.ifCond .lt off, 3)) (ht : (pc : Int) + off = (tgt : Int)) (hx : ir x) (hc : x < 0) : x_S M pc L (.inl x :: st) h tgt L st h := by
  intro r hf hb
  obtain ⟨hle, hw⟩ := hb
  refine ⟨hle, fun p l e s m args below meth c H locs ls d k0 n0 hC hR hL h1 h2 hq => ?_⟩
  exact lv_if_lt hC.1 hC.2.1 hd ht (fun _ => hw p l e s m args below meth c H locs ls d k0 n0 hC hR hL h1 h2 hq) (fun q => absurd ((x_lt0 hx).mpr hc) q)
theorem xs_if_lt_f {x : Int} {off : Int} {tgt : Nat} (hd : decode M.2.1 pc = .ok (.ifCond .lt off, 3)) (ht : (pc : Int) + off = (tgt : Int)) (hx : ir x) (hc : ¬ x < 0) : x_S M pc L (.inl x :: st) h (pc + 3) L st h := by
  intro r hf hb
  obtain ⟨hle, hw⟩ := hb
  refine ⟨hle, fun p l e s m args below meth c H locs ls d k0 n0 hC hR hL h1 h2 hq => ?_⟩
  exact lv_if_lt hC.1 hC.2.1 hd ht (fun q => absurd ((x_lt0 hx).mp q) hc) (fun _ => hw p l e s m args below meth c H locs ls d k0 n0 hC hR hL h1 h2 hq)
theorem xx_if_lt {x : Int} {off : Int} {tgt : Nat} (hd : decode M.2.1 pc = .ok (.ifCond .lt off, 3)) (ht : (pc : Int) + off = (tgt : Int)) (hx : ir x) {Q : Option xV → xH → Prop} (kt : x < 0 → x_X M tgt L st h Q) (kf : ¬ x < 0 → x_X M (pc + 3) L st h Q) : x_X M pc L (.inl x :: st) h Q := by
  by_cases hc : x < 0
  · exact xx (xs_if_lt_t hd ht hx hc) (kt hc)
  · exact xx (xs_if_lt_f hd ht hx hc) (kf hc)
theorem xs_icmp_ge_t {x y : Int} {off : Int} {tgt : Nat} (hd : decode M.2.1 pc = .ok (.if_icmp .ge off, 3)) (ht : (pc : Int) + off = (tgt : Int)) (hx : ir x) (hy : ir y) (hc : y ≤ x) : x_S M pc L (.inl y :: .inl x :: st) h tgt L st h := by
  intro r hf hb
  obtain ⟨hle, hw⟩ := hb
  refine ⟨hle, fun p l e s m args below meth c H locs ls d k0 n0 hC hR hL h1 h2 hq => ?_⟩
  exact lv_icmp_ge hC.1 hC.2.1 hd ht (fun _ => hw p l e s m args below meth c H locs ls d k0 n0 hC hR hL h1 h2 hq) (fun q => absurd ((x_le hy hx).mpr hc) q)
theorem xs_icmp_ge_f {x y : Int} {off : Int} {tgt : Nat} (hd : decode M.2.1 pc = .ok (.if_icmp .ge off, 3)) (ht : (pc : Int) + off = (tgt : Int)) (hx : ir x) (hy : ir y) (hc : ¬ y ≤ x) : x_S M pc L (.inl y :: .inl x :: st) h (pc + 3) L st h := by
  intro r hf hb
  obtain ⟨hle, hw⟩ := hb
  refine ⟨hle, fun p l e s m args below meth c H locs ls d k0 n0 hC hR hL h1 h2 hq => ?_⟩
  exact lv_icmp_ge hC.1 hC.2.1 hd ht (fun q => absurd ((x_le hy hx).mp q) hc) (fun _ => hw p l e s m args below meth c H locs ls d k0 n0 hC hR hL h1 h2 hq)
theorem xx_icmp_ge {x y : Int} {off : Int} {tgt : Nat} (hd : decode M.2.1 pc = .ok (.if_icmp .ge off, 3)) (ht : (pc : Int) + off = (tgt : Int)) (hx : ir x) (hy : ir y) {Q : Option xV → xH → Prop} (kt : y ≤ x → x_X M tgt L st h Q) (kf : ¬ y ≤ x → x_X M (pc + 3) L st h Q) : x_X M pc L (.inl y :: .inl x :: st) h Q := by
  by_cases hc : y ≤ x
  · exact xx (xs_icmp_ge_t hd ht hx hy hc) (kt hc)
  · exact xx (xs_icmp_ge_f hd ht hx hy hc) (kf hc)
theorem xs_if_ge_t {x : Int} {off : Int} {tgt : Nat} (hd : decode M.2.1 pc = .ok (.ifCond .ge off, 3)) (ht : (pc : Int) + off = (tgt : Int)) (hx : ir x) (hc : 0 ≤ x) : x_S M pc L (.inl x :: st) h tgt L st h := by
  intro r hf hb
  obtain ⟨hle, hw⟩ := hb
  refine ⟨hle, fun p l e s m args below meth c H locs ls d k0 n0 hC hR hL h1 h2 hq => ?_⟩
  exact lv_if_ge hC.1 hC.2.1 hd ht (fun _ => hw p l e s m args below meth c H locs ls d k0 n0 hC hR hL h1 h2 hq) (fun q => absurd ((x_0le hx).mpr hc) q)
theorem xs_if_ge_f {x : Int} {off : Int} {tgt : Nat} (hd : decode M.2.1 pc = .ok (.ifCond .ge off, 3)) (ht : (pc : Int) + off = (tgt : Int)) (hx : ir x) (hc : ¬ 0 ≤ x) : x_S M pc L (.inl x :: st) h (pc + 3) L st h := by
  intro r hf hb
  obtain ⟨hle, hw⟩ := hb
  refine ⟨hle, fun p l e s m args below meth c H locs ls d k0 n0 hC hR hL h1 h2 hq => ?_⟩
  exact lv_if_ge hC.1 hC.2.1 hd ht (fun q => absurd ((x_0le hx).mp q) hc) (fun _ => hw p l e s m args below meth c H locs ls d k0 n0 hC hR hL h1 h2 hq)
theorem xx_if_ge {x : Int} {off : Int} {tgt : Nat} (hd : decode M.2.1 pc = .ok (.ifCond .ge off, 3)) (ht : (pc : Int) + off = (tgt : Int)) (hx : ir x) {Q : Option xV → xH → Prop} (kt : 0 ≤ x → x_X M tgt L st h Q) (kf : ¬ 0 ≤ x → x_X M (pc + 3) L st h Q) : x_X M pc L (.inl x :: st) h Q := by
  by_cases hc : 0 ≤ x
  · exact xx (xs_if_ge_t hd ht hx hc) (kt hc)
  · exact xx (xs_if_ge_f hd ht hx hc) (kf hc)
theorem xs_icmp_gt_t {x y : Int} {off : Int} {tgt : Nat} (hd : decode M.2.1 pc = .ok (.if_icmp .gt off, 3)) (ht : (pc : Int) + off = (tgt : Int)) (hx : ir x) (hy : ir y) (hc : y < x) : x_S M pc L (.inl y :: .inl x :: st) h tgt L st h := by
  intro r hf hb
  obtain ⟨hle, hw⟩ := hb
  refine ⟨hle, fun p l e s m args below meth c H locs ls d k0 n0 hC hR hL h1 h2 hq => ?_⟩
  exact lv_icmp_gt hC.1 hC.2.1 hd ht (fun _ => hw p l e s m args below meth c H locs ls d k0 n0 hC hR hL h1 h2 hq) (fun q => absurd ((x_lt hy hx).mpr hc) q)
theorem xs_icmp_gt_f {x y : Int} {off : Int} {tgt : Nat} (hd : decode M.2.1 pc = .ok (.if_icmp .gt off, 3)) (ht : (pc : Int) + off = (tgt : Int)) (hx : ir x) (hy : ir y) (hc : ¬ y < x) : x_S M pc L (.inl y :: .inl x :: st) h (pc + 3) L st h := by
  intro r hf hb
  obtain ⟨hle, hw⟩ := hb
  refine ⟨hle, fun p l e s m args below meth c H locs ls d k0 n0 hC hR hL h1 h2 hq => ?_⟩
  exact lv_icmp_gt hC.1 hC.2.1 hd ht (fun q => absurd ((x_lt hy hx).mp q) hc) (fun _ => hw p l e s m args below meth c H locs ls d k0 n0 hC hR hL h1 h2 hq)
theorem xx_icmp_gt {x y : Int} {off : Int} {tgt : Nat} (hd : decode M.2.1 pc = .ok (.if_icmp .gt off, 3)) (ht : (pc : Int) + off = (tgt : Int)) (hx : ir x) (hy : ir y) {Q : Option xV → xH → Prop} (kt : y < x → x_X M tgt L st h Q) (kf : ¬ y < x → x_X M (pc + 3) L st h Q) : x_X M pc L (.inl y :: .inl x :: st) h Q := by
  by_cases hc : y < x
  · exact xx (xs_icmp_gt_t hd ht hx hy hc) (kt hc)
  · exact xx (xs_icmp_gt_f hd ht hx hy hc) (kf hc)
theorem xs_if_gt_t {x : Int} {off : Int} {tgt : Nat} (hd : decode M.2.1 pc = .ok (.ifCond .gt off, 3)) (ht : (pc : Int) + off = (tgt : Int)) (hx : ir x) (hc : 0 < x) : x_S M pc L (.inl x :: st) h tgt L st h := by
  intro r hf hb
  obtain ⟨hle, hw⟩ := hb
  refine ⟨hle, fun p l e s m args below meth c H locs ls d k0 n0 hC hR hL h1 h2 hq => ?_⟩
  exact lv_if_gt hC.1 hC.2.1 hd ht (fun _ => hw p l e s m args below meth c H locs ls d k0 n0 hC hR hL h1 h2 hq) (fun q => absurd ((x_0lt hx).mpr hc) q)
theorem xs_if_gt_f {x : Int} {off : Int} {tgt : Nat} (hd : decode M.2.1 pc = .ok (.ifCond .gt off, 3)) (ht : (pc : Int) + off = (tgt : Int)) (hx : ir x) (hc : ¬ 0 < x) : x_S M pc L (.inl x :: st) h (pc + 3) L st h := by
  intro r hf hb
  obtain ⟨hle, hw⟩ := hb
  refine ⟨hle, fun p l e s m args below meth c H locs ls d k0 n0 hC hR hL h1 h2 hq => ?_⟩
  exact lv_if_gt hC.1 hC.2.1 hd ht (fun q => absurd ((x_0lt hx).mp q) hc) (fun _ => hw p l e s m args below meth c H locs ls d k0 n0 hC hR hL h1 h2 hq)
theorem xx_if_gt {x : Int} {off : Int} {tgt : Nat} (hd : decode M.2.1 pc = .ok (.ifCond .gt off, 3)) (ht : (pc : Int) + off = (tgt : Int)) (hx : ir x) {Q : Option xV → xH → Prop} (kt : 0 < x → x_X M tgt L st h Q) (kf : ¬ 0 < x → x_X M (pc + 3) L st h Q) : x_X M pc L (.inl x :: st) h Q := by
  by_cases hc : 0 < x
  · exact xx (xs_if_gt_t hd ht hx hc) (kt hc)
  · exact xx (xs_if_gt_f hd ht hx hc) (kf hc)
theorem xs_icmp_le_t {x y : Int} {off : Int} {tgt : Nat} (hd : decode M.2.1 pc = .ok (.if_icmp .le off, 3)) (ht : (pc : Int) + off = (tgt : Int)) (hx : ir x) (hy : ir y) (hc : x ≤ y) : x_S M pc L (.inl y :: .inl x :: st) h tgt L st h := by
  intro r hf hb
  obtain ⟨hle, hw⟩ := hb
  refine ⟨hle, fun p l e s m args below meth c H locs ls d k0 n0 hC hR hL h1 h2 hq => ?_⟩
  exact lv_icmp_le hC.1 hC.2.1 hd ht (fun _ => hw p l e s m args below meth c H locs ls d k0 n0 hC hR hL h1 h2 hq) (fun q => absurd ((x_le hx hy).mpr hc) q)
theorem xs_icmp_le_f {x y : Int} {off : Int} {tgt : Nat} (hd : decode M.2.1 pc = .ok (.if_icmp .le off, 3)) (ht : (pc : Int) + off = (tgt : Int)) (hx : ir x) (hy : ir y) (hc : ¬ x ≤ y) : x_S M pc L (.inl y :: .inl x :: st) h (pc + 3) L st h := by
  intro r hf hb
  obtain ⟨hle, hw⟩ := hb
  refine ⟨hle, fun p l e s m args below meth c H locs ls d k0 n0 hC hR hL h1 h2 hq => ?_⟩
  exact lv_icmp_le hC.1 hC.2.1 hd ht (fun q => absurd ((x_le hx hy).mp q) hc) (fun _ => hw p l e s m args below meth c H locs ls d k0 n0 hC hR hL h1 h2 hq)
theorem xx_icmp_le {x y : Int} {off : Int} {tgt : Nat} (hd : decode M.2.1 pc = .ok (.if_icmp .le off, 3)) (ht : (pc : Int) + off = (tgt : Int)) (hx : ir x) (hy : ir y) {Q : Option xV → xH → Prop} (kt : x ≤ y → x_X M tgt L st h Q) (kf : ¬ x ≤ y → x_X M (pc + 3) L st h Q) : x_X M pc L (.inl y :: .inl x :: st) h Q := by
  by_cases hc : x ≤ y
  · exact xx (xs_icmp_le_t hd ht hx hy hc) (kt hc)
  · exact xx (xs_icmp_le_f hd ht hx hy hc) (kf hc)
theorem xs_if_le_t {x : Int} {off : Int} {tgt : Nat} (hd : decode M.2.1 pc = .ok (.ifCond .le off, 3)) (ht : (pc : Int) + off = (tgt : Int)) (hx : ir x) (hc : x ≤ 0) : x_S M pc L (.inl x :: st) h tgt L st h := by
  intro r hf hb
  obtain ⟨hle, hw⟩ := hb
  refine ⟨hle, fun p l e s m args below meth c H locs ls d k0 n0 hC hR hL h1 h2 hq => ?_⟩
  exact lv_if_le hC.1 hC.2.1 hd ht (fun _ => hw p l e s m args below meth c H locs ls d k0 n0 hC hR hL h1 h2 hq) (fun q => absurd ((x_le0 hx).mpr hc) q)
theorem xs_if_le_f {x : Int} {off : Int} {tgt : Nat} (hd : decode M.2.1 pc = .ok (.ifCond .le off, 3)) (ht : (pc : Int) + off = (tgt : Int)) (hx : ir x) (hc : ¬ x ≤ 0) : x_S M pc L (.inl x :: st) h (pc + 3) L st h := by
  intro r hf hb
  obtain ⟨hle, hw⟩ := hb
  refine ⟨hle, fun p l e s m args below meth c H locs ls d k0 n0 hC hR hL h1 h2 hq => ?_⟩
  exact lv_if_le hC.1 hC.2.1 hd ht (fun q => absurd ((x_le0 hx).mp q) hc) (fun _ => hw p l e s m args below meth c H locs ls d k0 n0 hC hR hL h1 h2 hq)
theorem xx_if_le {x : Int} {off : Int} {tgt : Nat} (hd : decode M.2.1 pc = .ok (.ifCond .le off, 3)) (ht : (pc : Int) + off = (tgt : Int)) (hx : ir x) {Q : Option xV → xH → Prop} (kt : x ≤ 0 → x_X M tgt L st h Q) (kf : ¬ x ≤ 0 → x_X M (pc + 3) L st h Q) : x_X M pc L (.inl x :: st) h Q := by
  by_cases hc : x ≤ 0
  · exact xx (xs_if_le_t hd ht hx hc) (kt hc)
  · exact xx (xs_if_le_f hd ht hx hc) (kf hc)
theorem xs_ifnull_t {off : Int} {tgt : Nat} (hd : decode M.2.1 pc = .ok (.ifnull off, 3)) (ht : (pc : Int) + off = (tgt : Int)) : x_S M pc L (.inr none :: st) h tgt L st h := by
  intro r hf hb
  obtain ⟨hle, hw⟩ := hb
  refine ⟨hle, fun p l e s m args below meth c H locs ls d k0 n0 hC hR hL h1 h2 hq => ?_⟩
  exact lv_ifnullN hC.1 hC.2.1 hd ht (hw p l e s m args below meth c H locs ls d k0 n0 hC hR hL h1 h2 hq)
theorem xs_ifnull_f {off : Int} {a : Nat} (hd : decode M.2.1 pc = .ok (.ifnull off, 3)) : x_S M pc L (.inr (some a) :: st) h (pc + 3) L st h := by
  intro r hf hb
  obtain ⟨hle, hw⟩ := hb
  refine ⟨hle, fun p l e s m args below meth c H locs ls d k0 n0 hC hR hL h1 h2 hq => ?_⟩
  exact lv_ifnull hC.1 hC.2.1 hd (hw p l e s m args below meth c H locs ls d k0 n0 hC hR hL h1 h2 hq)
theorem xs_ifnonnull_t {a : Nat} {off : Int} {tgt : Nat} (hd : decode M.2.1 pc = .ok (.ifnonnull off, 3)) (ht : (pc : Int) + off = (tgt : Int)) : x_S M pc L (.inr (some a) :: st) h tgt L st h := by
  intro r hf hb
  obtain ⟨hle, hw⟩ := hb
  refine ⟨hle, fun p l e s m args below meth c H locs ls d k0 n0 hC hR hL h1 h2 hq => ?_⟩
  exact lv_ifnonnull hC.1 hC.2.1 hd ht (hw p l e s m args below meth c H locs ls d k0 n0 hC hR hL h1 h2 hq)
theorem xs_ifnonnull_f {off : Int} (hd : decode M.2.1 pc = .ok (.ifnonnull off, 3)) : x_S M pc L (.inr none :: st) h (pc + 3) L st h := by
  intro r hf hb
  obtain ⟨hle, hw⟩ := hb
  refine ⟨hle, fun p l e s m args below meth c H locs ls d k0 n0 hC hR hL h1 h2 hq => ?_⟩
  exact lv_ifnonnullN hC.1 hC.2.1 hd (hw p l e s m args below meth c H locs ls d k0 n0 hC hR hL h1 h2 hq)
theorem xs_tableIn {dflt lo hi : Int} {offs : Array Int} {len : Nat} {x : Int} {off : Int} {tgt : Nat} (hd : decode M.2.1 pc = .ok (.tableswitch dflt lo hi offs, len)) (hx : ir x) (hlo : lo ≤ x) (hhi : x ≤ hi) (ho : offs[(x - lo).toNat]? = some off) (ht : (pc : Int) + off = (tgt : Int)) : x_S M pc L (.inl x :: st) h tgt L st h := by
  intro r hf hb
  obtain ⟨hle, hw⟩ := hb
  refine ⟨hle, fun p l e s m args below meth c H locs ls d k0 n0 hC hR hL h1 h2 hq => ?_⟩
  have e0 : (Int32.ofInt x).toInt = x := by rw [wr_toInt, wr_id hx]
  exact lv_tableIn hC.1 hC.2.1 hd (by rw [e0]; omega) (by rw [e0]; omega) (by rw [e0]; exact ho) ht (hw p l e s m args below meth c H locs ls d k0 n0 hC hR hL h1 h2 hq)
theorem xs_tableOut {dflt lo hi : Int} {offs : Array Int} {len : Nat} {x : Int} {tgt : Nat} (hd : decode M.2.1 pc = .ok (.tableswitch dflt lo hi offs, len)) (hx : ir x) (ho : x < lo ∨ hi < x) (ht : (pc : Int) + dflt = (tgt : Int)) : x_S M pc L (.inl x :: st) h tgt L st h := by
  intro r hf hb
  obtain ⟨hle, hw⟩ := hb
  refine ⟨hle, fun p l e s m args below meth c H locs ls d k0 n0 hC hR hL h1 h2 hq => ?_⟩
  have e0 : (Int32.ofInt x).toInt = x := by rw [wr_toInt, wr_id hx]
  exact lv_tableOut hC.1 hC.2.1 hd (by rw [e0]; exact ho) ht (hw p l e s m args below meth c H locs ls d k0 n0 hC hR hL h1 h2 hq)
end XS
end
section
/-! cells -/
def x_fl (own : String) (idx ci k : Nat) : Prop := ∃ (C : String) (T : u_T) (N : Nat), cl_s[ci]? = some (C, T, N) ∧ k < N ∧ (∀ w ∈ u_ws C T N, w ∈ x_ws) ∧ (T k).1 = C ∧ (Cond.fieldLink own idx C (T k).2.1 (T k).2.2.1 ∈ x_ws ∨ ∃ host, Cond.fieldLinkNest own idx C (T k).2.1 (T k).2.2.1 host ∈ x_N)
def x_pl (own nm : String) (idx ci k : Nat) (ty : FieldType) : Prop := ∃ (C : String) (T : u_T) (N : Nat) (ty0 : Nat → FieldType), cl_s[ci]? = some (C, T, N) ∧ k < N ∧ (∀ w ∈ u_ws C T N, w ∈ x_ws) ∧ (T k).1 = C ∧ (∀ j, j < N → parseFieldDescriptor (T j).2.2.1 = some (ty0 j)) ∧ ty0 k = ty ∧ (∀ a, a < N → ∀ b, b < N → a ≠ b → (T a).2.1 ≠ (T b).2.1) ∧ Cond.fieldLink own idx C (T k).2.1 (T k).2.2.1 ∈ x_ws ∧ ((T k).2.2.2 = false ∨ ((T k).2.2.2 = true ∧ nm = "<init>" ∧ C = own))
def x_nl (own : String) (idx ci : Nat) (dv : List xV) : Prop := ∃ (C : String) (T : u_T) (N : Nat) (ty0 : Nat → FieldType), cl_s[ci]? = some (C, T, N) ∧ dv.length = N ∧ (∀ w ∈ u_ws C T N, w ∈ x_ws) ∧ (∀ j, j < N → parseFieldDescriptor (T j).2.2.1 = some (ty0 j)) ∧ (∀ b j, j < N → defaultValue (ty0 j) = vp_V (dv.map (x_v b)) j) ∧ Cond.classLink own idx C ∈ x_ws ∧ Cond.instantiable C N ∈ x_ws ∧ Cond.initialized C ∈ x_ws
def x_cn (t : Nat) : String := if t = 0 then "SequentMachine$Row" else "SequentMachine$Item"
def x_al (own : String) (idx t : Nat) : Prop := t < 2 ∧ Cond.classLink own idx (x_cn t) ∈ x_ws
theorem x_tt (d : xD) {t : Nat} (ht : t < 2) : (x_tys d)[t + 1]? = some (d.2.2 (t + 1), .object (x_cn t)) := by
  rcases (show t = 0 ∨ t = 1 by omega) with rfl | rfl <;> rfl
def x_ft (ty : FieldType) (v : xV) : Prop := ∀ b, narrow ty (x_v b v) = x_v b v ∧ fits ty (x_v b v) = true
theorem x_ft_i (x : Int) : x_ft .int (.inl x) := fun b => ⟨rfl, rfl⟩
theorem x_ft_z0 : x_ft .boolean (.inl 0) := fun b => ⟨by show narrow .boolean (.int (Int32.ofInt 0)) = .int (Int32.ofInt 0); decide +kernel, by show fits .boolean (.int (Int32.ofInt 0)) = true; decide +kernel⟩
theorem x_ft_z1 : x_ft .boolean (.inl 1) := fun b => ⟨by show narrow .boolean (.int (Int32.ofInt 1)) = .int (Int32.ofInt 1); decide +kernel, by show fits .boolean (.int (Int32.ofInt 1)) = true; decide +kernel⟩
theorem x_ft_o (n : String) (r : Option Nat) : x_ft (.object n) (.inr r) := fun b => by cases r <;> exact ⟨rfl, rfl⟩
theorem x_ft_a (t : FieldType) (r : Option Nat) : x_ft (.array t) (.inr r) := fun b => by cases r <;> exact ⟨rfl, rfl⟩
section XC
variable {M : xM} {pc : Nat} {L : List (Option xV)} {st : List xV} {h : xH}
theorem xs_getf {a ci k idx : Nat} {fs : List xV} {v : xV} (hd : decode M.2.1 pc = .ok (.getfield idx, 3)) (hfl : x_fl M.1.cls idx ci k) (ha : h.1[a]? = some (.inr (.inr (ci, fs)))) (hv : fs[k]? = some v) : x_S M pc L (.inr (some a) :: st) h (pc + 3) L (v :: st) h := by
  intro r hf hb
  obtain ⟨hle, hw⟩ := hb
  refine ⟨hle, fun p l e s m args below meth c H locs ls d k0 n0 hC hR hL h1 h2 hq => ?_⟩
  have hC' := hC
  obtain ⟨hx, hbt, hml, hown, hts, hret, hlk, hnm, hK⟩ := hC'
  obtain ⟨C, T, N, hc, hk, hin, hT, hl⟩ := hfl
  rcases hl with hl | ⟨host, hl⟩
  · exact va_get hx hbt hts (fun w hw' => List.mem_cons_of_mem _ (hin w hw')) hown hK.1 (hR.sing ha) 0 rfl hc k hk (hts _ (List.mem_cons_of_mem _ hl)) (fun x hx' => by rw [← hT]; exact hx') (v := x_v d.1 v) (by rw [List.getElem?_map, hv]; rfl) hd (hw p l e s m args below meth c H locs ls d k0 n0 hC hR hL h1 h2 hq)
  · exact va_getN hx hbt hts (fun w hw' => List.mem_cons_of_mem _ (hin w hw')) hown hK.1 (hR.sing ha) 0 rfl hc k hk (va_Nw.use rfl (hK.2.1 _ hl)) (fun x hx' => by rw [← hT]; exact hx') (v := x_v d.1 v) (by rw [List.getElem?_map, hv]; rfl) hd (hw p l e s m args below meth c H locs ls d k0 n0 hC hR hL h1 h2 hq)
theorem xs_putf {a ci k idx : Nat} {fs : List xV} {v : xV} {ty : FieldType} (hd : decode M.2.1 pc = .ok (.putfield idx, 3)) (hp : x_pl M.1.cls M.1.name idx ci k ty) (ha : h.1[a]? = some (.inr (.inr (ci, fs)))) (hkl : k < fs.length) (hfit : x_ft ty v) : x_S M pc L (v :: .inr (some a) :: st) h (pc + 3) L st (h.1.set a (.inr (.inr (ci, fs.set k v))), h.2) := by
  intro r hf hb
  obtain ⟨hle, hw⟩ := hb
  refine ⟨by simpa using hle, fun p l e s m args below meth c H locs ls d k0 n0 hC hR hL h1 h2 hq => ?_⟩
  have hC' := hC
  obtain ⟨hx, hbt, hml, hown, hts, hret, hlk, hnm, hK⟩ := hC'
  obtain ⟨C, T, N, ty0, hc, hk, hin, hT, hty, hte, hnn, hl, hfin⟩ := hp
  subst hte
  have hin' : ∀ w ∈ u_ws C T N, w ∈ x_wM M := fun w hw' => List.mem_cons_of_mem _ (hin w hw')
  have hap := va_apart (own := M.1.cls) hts hin' ty0 hty hnn hK.1 hc
  obtain ⟨r0, g1, cell, q1, q2, q3, q4⟩ := hR.2 a _ ha
  have hr : r0 = (C, T, N) := Option.some.inj (g1.symm.trans hc)
  subst hr
  obtain ⟨hS, hfc, kC, hkC, hkind⟩ := hK.1.1 ci _ hc
  obtain ⟨cf, kf, fi, f, hi, hsl⟩ := hS k hk
  have hst := (u_facts hfc hkC (u_lays hts hin' hk) hi).1
  have hlay := hts _ (hin' _ (u_in_lay hk))
  unfold u_lay at hlay
  have hla : a < h.1.length := (List.getElem?_eq_some_iff.mp ha).1
  have hkk : ∀ H' : Heap, H'[d.1 + a]? = some (cell.setSlot f.slot (x_v d.1 v)) → H'.size = H.size → (∀ q : Nat, q ≠ d.1 + a → H'[q]? = H[q]?) → W p l e (x_rm M (hf.1.length - k0) (hf.2 - n0)) s m args below meth c H' (locs ++ [⟨d.1 + a, f.slot⟩]) (h.1.length - k0) (h.2 - n0) (MQ below (x_Q d r hf) args s (hf.1.length - k0) (hf.2 - n0) (fun q => d.1 ≤ q)) (F0 m (pc + 3) ls (st.map (x_v d.1))) := by
    intro H' e1 e2 e3
    rw [hsl] at e1
    refine W.cs (by rw [List.length_set]) rfl (hw p l e s m args below meth c H' (locs ++ [⟨d.1 + a, f.slot⟩]) ls d k0 n0 hC (hR.set hla e2 e3 ?_) hL (by rw [List.length_set]; exact h1) h2 (t_lc hq (Nat.le_add_right _ _)))
    exact ⟨_, hc, t_OB.to (V := updV (vp_V (fs.map (x_v d.1))) k (x_v d.1 v)) ⟨_, e1, q2, q3, t_set q4 hap hk _⟩ (fun j _ => by rw [vp_updV_set (by rw [List.length_map]; exact hkl), ← List.map_set])⟩
  rcases hfin with hfin | ⟨hfin, hn, hCo⟩
  · rw [if_neg (by rw [hfin]; decide)] at hlay
    have h6 := u_store hfc hkC hkind hlay hi (hty k hk) (hfit d.1).1 (hfit d.1).2
    exact W.putK hx hbt (f := f) ⟨hown, hts _ (List.mem_cons_of_mem _ hl), ⟨_, _, _, by rw [← hT]; exact hi⟩, hst⟩ (by rw [q2]; exact h6) q1 q3 (by rw [hsl]; exact k2_hasslot (q4 k hk)) rfl rfl hd hkk
  · rw [if_pos hfin] at hlay
    have hcf : m.cls = cf := by
      obtain ⟨_, _, c', _, _, _, -, -, hf', -, -, -, hown2, -⟩ := Cond.laysFinal_spec hlay
      have e1 : c' = cf := by have := hi.symm.trans hf'; simp at this; exact this.1.symm
      rw [hT, hCo] at hown2
      rw [← e1]
      exact Option.some.inj (hown.symm.trans hown2)
    have h6 := u_fits hfc hkC hkind (Or.inr hlay) hi (hty k hk) (hfit d.1).1 (hfit d.1).2
    exact W.putFinK hx hbt hown (hts _ (List.mem_cons_of_mem _ hl)) (by rw [← hT]; exact hi) hst hcf (hnm.trans hn) (by rw [q2]; exact h6) q1 q3 (by rw [hsl]; exact k2_hasslot (q4 k hk)) rfl rfl hd hkk
theorem xs_new {ci idx : Nat} {dv : List xV} (hd : decode M.2.1 pc = .ok (.new idx, 3)) (hn : x_nl M.1.cls idx ci dv) : x_S M pc L st h (pc + 3) L (.inr (some h.1.length) :: st) (h.1 ++ [.inr (.inr (ci, dv))], h.2 + dv.length) := by
  intro r hf hb
  obtain ⟨hle, hw⟩ := hb
  simp only [List.length_append, List.length_cons, List.length_nil] at hle
  refine ⟨by omega, fun p l e s m args below meth c H locs ls d k0 n0 hC hR hL h1 h2 hq => ?_⟩
  have hC' := hC
  obtain ⟨hx, hbt, hml, hown, hts, hret, hlk, hnm, hK⟩ := hC'
  obtain ⟨C, T, N, ty0, hc, hN, hin, hty, hdv, hcl, hins, hini⟩ := hn
  have hin' : ∀ w ∈ u_ws C T N, w ∈ x_wM M := fun w hw' => List.mem_cons_of_mem _ (hin w hw')
  have hKn := hK.1.1 ci _ hc
  subst hN
  refine W.newcK hx hbt hown (hts _ (List.mem_cons_of_mem _ hcl)) (hts _ (List.mem_cons_of_mem _ hins)) (hts _ (List.mem_cons_of_mem _ hini)) rfl hd (by show _ ≤ hf.1.length - k0; omega) (by show _ ≤ hf.2 - n0; omega) hKn.2.1 rfl fun H1 kC hkC e1 z1 o1 => ?_
  have k := hw p l e s m args below meth c H1 locs ls d k0 n0 hC (hR.push z1 o1 ⟨_, hc, (u_born ty0 hts hin' hKn hkC e1 hty).to (fun j hj => hdv d.1 j hj)⟩) hL (by simp; omega) (by simp; omega) hq
  refine W.cs (cells' := (h.1 ++ ([Sum.inr (Sum.inr (ci, dv))] : List xC)).length - k0) (slots' := h.2 + dv.length - n0) (by simp; omega) (by omega) ?_
  rw [hR.1]
  exact k
theorem xs_newarr {idx : Nat} {n : Int} (hd : decode M.2.1 pc = .ok (.newarray .int, 2)) (hA : Cond.arrayClass .int ∈ x_ws) (h0 : 0 ≤ n) (hn1 : n ≤ 100000) : x_S M pc L (.inl n :: st) h (pc + 2) L (.inr (some h.1.length) :: st) (h.1 ++ [.inl (List.replicate n.toNat 0)], h.2 + n.toNat) := by
  intro r hf hb
  obtain ⟨hle, hw⟩ := hb
  simp only [List.length_append, List.length_cons, List.length_nil] at hle
  refine ⟨by omega, fun p l e s m args below meth c H locs ls d k0 n0 hC hR hL h1 h2 hq => ?_⟩
  have hC' := hC
  obtain ⟨hx, hbt, hml, hown, hts, hret, hlk, hnm, hK⟩ := hC'
  have hcl := x_cl h0 (by omega)
  refine va_newaK (atype := .int) (N := n.toNat) hx hbt (hts _ (List.mem_cons_of_mem _ hA)) rfl hd rfl (x_n0 h0 (by omega)) hcl (by show n.toNat * 4 ≤ _; omega) (by show _ ≤ hf.1.length - k0; omega) (by show _ ≤ hf.2 - n0; omega) rfl fun H1 cA e1 z1 o1 hAr hNm => ?_
  have hcA : cA = d.2.2 0 := Option.some.inj (hNm.symm.trans (hK.1.2 0 _ rfl).2)
  subst hcA
  have k := hw p l e s m args below meth c H1 locs ls d k0 n0 hC (hR.push (c' := .inl (List.replicate n.toNat 0)) z1 o1 (by
    show H1[H.size]? = some (vp_cell _ _)
    rw [e1, vp_cell_i, List.length_replicate]
    congr 2
    funext j
    rw [List.getD_eq_getElem?_getD, List.getElem?_replicate]
    split <;> rfl)) hL (by simp; omega) (by simp; omega) hq
  refine W.cs (cells' := (h.1 ++ ([Sum.inl (List.replicate n.toNat 0)] : List xC)).length - k0) (slots' := h.2 + n.toNat - n0) (by simp; omega) (by omega) ?_
  rw [hR.1]
  exact k
theorem xs_anew {idx t : Nat} {n : Int} (hd : decode M.2.1 pc = .ok (.anewarray idx, 3)) (hA : x_al M.1.cls idx t) (h0 : 0 ≤ n) (hn1 : n ≤ 100000) : x_S M pc L (.inl n :: st) h (pc + 3) L (.inr (some h.1.length) :: st) (h.1 ++ [.inr (.inl (t, List.replicate n.toNat none))], h.2 + n.toNat) := by
  intro r hf hb
  obtain ⟨hle, hw⟩ := hb
  simp only [List.length_append, List.length_cons, List.length_nil] at hle
  refine ⟨by omega, fun p l e s m args below meth c H locs ls d k0 n0 hC hR hL h1 h2 hq => ?_⟩
  have hC' := hC
  obtain ⟨hx, hbt, hml, hown, hts, hret, hlk, hnm, hK⟩ := hC'
  obtain ⟨ht, hcl⟩ := hA
  have hcn := x_cl h0 (by omega)
  have hov : va_AO (x_cn t) s := by
    rcases (show t = 0 ∨ t = 1 by omega) with rfl | rfl
    · exact hK.2.2.1
    · exact hK.2.2.2
  refine W.anew hx hbt hown (hts _ (List.mem_cons_of_mem _ hcl)) (va_AO.use hov) rfl hd rfl (x_n0 h0 (by omega)) (by rw [hcn]; omega) (by show _ ≤ hf.1.length - k0; omega) (by show _ ≤ hf.2 - n0; rw [hcn]; omega) fun cA kA comp f1 f2 f3 f4 => ?_
  obtain ⟨-, kA', comp', -, -, -, g4⟩ := hK.1.2 (t + 1) _ (x_tt d ht)
  have hcA : cA = d.2.2 (t + 1) := Option.some.inj (f1.symm.trans g4)
  subst hcA
  rw [hcn]
  generalize hH1 : H.push ({ cls := d.2.2 (t + 1), slots := Array.replicate n.toNat .null, vm := .none } : Cell) = H1
  have z1 : H1.size = H.size + 1 := by rw [← hH1, Array.size_push]
  have e1 : H1[H.size]? = some (arrV (d.2.2 (t + 1)) n.toNat (fun _ => .null)) := by rw [← hH1, Array.getElem?_push_size, ← arrV_new]
  have o1 : ∀ q : Nat, q < H.size → H1[q]? = H[q]? := fun q hq => by rw [← hH1, Array.getElem?_push, if_neg (Nat.ne_of_lt hq)]
  have k := hw p l e s m args below meth c H1 locs ls d k0 n0 hC (hR.push (c' := .inr (.inl (t, List.replicate n.toNat none))) z1 o1 (by
    show H1[H.size]? = some (vp_cell _ _)
    rw [e1, vp_cell_q, List.length_replicate]
    congr 2
    funext j
    rw [List.getD_eq_getElem?_getD, List.getElem?_replicate]
    split <;> rfl)) hL (by simp; omega) (by simp; omega) hq
  refine W.cs (cells' := (h.1 ++ ([Sum.inr (Sum.inl (t, List.replicate n.toNat none))] : List xC)).length - k0) (slots' := h.2 + n.toNat - n0) (by simp; omega) (by omega) ?_
  rw [hR.1]
  exact k
theorem xs_alenI {a : Nat} {q : List Int} (hd : decode M.2.1 pc = .ok (.arraylength, 1)) (ha : h.1[a]? = some (.inl q)) : x_S M pc L (.inr (some a) :: st) h (pc + 1) L (.inl (q.length : Int) :: st) h := by
  intro r hf hb
  obtain ⟨hle, hw⟩ := hb
  refine ⟨hle, fun p l e s m args below meth c H locs ls d k0 n0 hC hR hL h1 h2 hq => ?_⟩
  have hC' := hC
  obtain ⟨hx, hbt, hml, hown, hts, hret, hlk, hnm, hK⟩ := hC'
  exact va_alen hx hbt hK.1 (hR.sing ha) 0 0 rfl rfl (by rw [← Int32.ofInt_eq_ofNat]) hd (hw p l e s m args below meth c H locs ls d k0 n0 hC hR hL h1 h2 hq)
theorem xs_alenR {a t : Nat} {q : List (Option Nat)} (hd : decode M.2.1 pc = .ok (.arraylength, 1)) (ht : t < 2) (ha : h.1[a]? = some (.inr (.inl (t, q)))) : x_S M pc L (.inr (some a) :: st) h (pc + 1) L (.inl (q.length : Int) :: st) h := by
  intro r hf hb
  obtain ⟨hle, hw⟩ := hb
  refine ⟨hle, fun p l e s m args below meth c H locs ls d k0 n0 hC hR hL h1 h2 hq => ?_⟩
  have hC' := hC
  obtain ⟨hx, hbt, hml, hown, hts, hret, hlk, hnm, hK⟩ := hC'
  exact va_alen hx hbt hK.1 (hR.sing ha) 0 (t + 1) rfl (x_tt d ht) (by rw [← Int32.ofInt_eq_ofNat]) hd (hw p l e s m args below meth c H locs ls d k0 n0 hC hR hL h1 h2 hq)
theorem xs_iald {a : Nat} {q : List Int} {j x : Int} (hd : decode M.2.1 pc = .ok (.iaload, 1)) (ha : h.1[a]? = some (.inl q)) (h0 : 0 ≤ j) (hj : q[j.toNat]? = some x) (hql : q.length < 2147483648) : x_S M pc L (.inl j :: .inr (some a) :: st) h (pc + 1) L (.inl x :: st) h := by
  intro r hf hb
  obtain ⟨hle, hw⟩ := hb
  refine ⟨hle, fun p l e s m args below meth c H locs ls d k0 n0 hC hR hL h1 h2 hq => ?_⟩
  have hC' := hC
  obtain ⟨hx, hbt, hml, hown, hts, hret, hlk, hnm, hK⟩ := hC'
  have hlt : j.toNat < q.length := (List.getElem?_eq_some_iff.mp hj).1
  refine va_iald hx hbt hK.1 (hR.sing ha) 0 0 rfl rfl (x_in h0 hlt hql) hd ?_
  have e1 : Int32.ofInt (q.getD (Int32.ofInt j).toNatClampNeg 0) = Int32.ofInt x := by rw [x_cl h0 (by omega), List.getD_eq_getElem?_getD, hj]; rfl
  rw [e1]
  exact hw p l e s m args below meth c H locs ls d k0 n0 hC hR hL h1 h2 hq
theorem xs_iast {a : Nat} {q : List Int} {j x : Int} (hd : decode M.2.1 pc = .ok (.iastore, 1)) (ha : h.1[a]? = some (.inl q)) (h0 : 0 ≤ j) (hlt : j.toNat < q.length) (hql : q.length < 2147483648) : x_S M pc L (.inl x :: .inl j :: .inr (some a) :: st) h (pc + 1) L st (h.1.set a (.inl (q.set j.toNat x)), h.2) := by
  intro r hf hb
  obtain ⟨hle, hw⟩ := hb
  refine ⟨by simpa using hle, fun p l e s m args below meth c H locs ls d k0 n0 hC hR hL h1 h2 hq => ?_⟩
  have hC' := hC
  obtain ⟨hx, hbt, hml, hown, hts, hret, hlk, hnm, hK⟩ := hC'
  have hla : a < h.1.length := (List.getElem?_eq_some_iff.mp ha).1
  refine W.iast hx hbt (hR.2 a _ ha) ((hK.1.2 0 _ rfl).1 q.length (fun i => .int (Int32.ofInt (q.getD i 0)))) (fun z => by cases z) (by show ¬ (_ < 0 ∨ (arrV _ _ _).slots.size ≤ _); rw [arrV_size]; exact x_in h0 hlt hql) rfl rfl hd fun H1 e1 z1 o1 => ?_
  refine W.cs (by rw [List.length_set]) rfl (hw p l e s m args below meth c H1 (locs ++ [⟨d.1 + a, (Int32.ofInt j).toNatClampNeg⟩]) ls d k0 n0 hC (hR.set hla z1 o1 ?_) hL (by rw [List.length_set]; exact h1) h2 (t_lc hq (Nat.le_add_right _ _)))
  show H1[d.1 + a]? = some (vp_cell _ _)
  rw [e1]
  rw [vp_cell_i, vp_cell_i, arrV_store, List.length_set, x_cl h0 (by omega)]
  congr 2
  funext i
  by_cases hi : i = j.toNat
  · subst hi
    simp [updV, List.getD_eq_getElem?_getD, List.getElem?_set_self hlt]
  · simp [updV, hi, List.getD_eq_getElem?_getD, List.getElem?_set_ne (Ne.symm hi)]
theorem xs_aald {a t : Nat} {q : List (Option Nat)} {j : Int} {x : Option Nat} (hd : decode M.2.1 pc = .ok (.aaload, 1)) (ht : t < 2) (ha : h.1[a]? = some (.inr (.inl (t, q)))) (h0 : 0 ≤ j) (hj : q[j.toNat]? = some x) (hql : q.length < 2147483648) : x_S M pc L (.inl j :: .inr (some a) :: st) h (pc + 1) L (.inr x :: st) h := by
  intro r hf hb
  obtain ⟨hle, hw⟩ := hb
  refine ⟨hle, fun p l e s m args below meth c H locs ls d k0 n0 hC hR hL h1 h2 hq => ?_⟩
  have hC' := hC
  obtain ⟨hx, hbt, hml, hown, hts, hret, hlk, hnm, hK⟩ := hC'
  have hlt : j.toNat < q.length := (List.getElem?_eq_some_iff.mp hj).1
  refine va_aldq hx hbt hK.1 (hR.sing ha) 0 (t + 1) rfl (x_tt d ht) (x_in h0 hlt hql) hd ?_
  have e1 : x_r d.1 (q.getD (Int32.ofInt j).toNatClampNeg none) = x_r d.1 x := by rw [x_cl h0 (by omega), List.getD_eq_getElem?_getD, hj]; rfl
  rw [e1]
  exact hw p l e s m args below meth c H locs ls d k0 n0 hC hR hL h1 h2 hq
theorem xs_aastN {a t : Nat} {q : List (Option Nat)} {j : Int} (hd : decode M.2.1 pc = .ok (.aastore, 1)) (ht : t < 2) (ha : h.1[a]? = some (.inr (.inl (t, q)))) (h0 : 0 ≤ j) (hlt : j.toNat < q.length) (hql : q.length < 2147483648) : x_S M pc L (.inr none :: .inl j :: .inr (some a) :: st) h (pc + 1) L st (h.1.set a (.inr (.inl (t, q.set j.toNat none))), h.2) := by
  intro r hf hb
  obtain ⟨hle, hw⟩ := hb
  refine ⟨by simpa using hle, fun p l e s m args below meth c H locs ls d k0 n0 hC hR hL h1 h2 hq => ?_⟩
  have hC' := hC
  obtain ⟨hx, hbt, hml, hown, hts, hret, hlk, hnm, hK⟩ := hC'
  have hla : a < h.1.length := (List.getElem?_eq_some_iff.mp ha).1
  refine va_WaastN (C := x_cn t) hx hbt (hR.2 a _ ha) ((hK.1.2 (t + 1) _ (x_tt d ht)).1 q.length (fun i => va_rf (x_r d.1 (q.getD i none)))) (fun z => by cases z) (by show ¬ (_ < 0 ∨ (arrV _ _ _).slots.size ≤ _); rw [arrV_size]; exact x_in h0 hlt hql) rfl rfl hd fun H1 e1 z1 o1 => ?_
  refine W.cs (by rw [List.length_set]) rfl (hw p l e s m args below meth c H1 (locs ++ [⟨d.1 + a, (Int32.ofInt j).toNatClampNeg⟩]) ls d k0 n0 hC (hR.set hla z1 o1 ?_) hL (by rw [List.length_set]; exact h1) h2 (t_lc hq (Nat.le_add_right _ _)))
  show H1[d.1 + a]? = some (vp_cell _ _)
  rw [e1]
  rw [vp_cell_q, vp_cell_q, arrV_store, List.length_set, x_cl h0 (by omega)]
  congr 2
  funext i
  by_cases hi : i = j.toNat
  · subst hi
    simp [updV, List.getD_eq_getElem?_getD, List.getElem?_set_self hlt, va_rf, x_r]
  · simp [updV, hi, List.getD_eq_getElem?_getD, List.getElem?_set_ne (Ne.symm hi)]
theorem xs_aast {a t v ci : Nat} {q : List (Option Nat)} {fs : List xV} {j : Int} (hd : decode M.2.1 pc = .ok (.aastore, 1)) (ht : t < 2) (ha : h.1[a]? = some (.inr (.inl (t, q)))) (hv : h.1[v]? = some (.inr (.inr (ci, fs)))) (hci : (cl_s[ci]?).map (fun z => z.1) = some (x_cn t)) (h0 : 0 ≤ j) (hlt : j.toNat < q.length) (hql : q.length < 2147483648) : x_S M pc L (.inr (some v) :: .inl j :: .inr (some a) :: st) h (pc + 1) L st (h.1.set a (.inr (.inl (t, q.set j.toNat (some v)))), h.2) := by
  intro r hf hb
  obtain ⟨hle, hw⟩ := hb
  refine ⟨by simpa using hle, fun p l e s m args below meth c H locs ls d k0 n0 hC hR hL h1 h2 hq => ?_⟩
  have hC' := hC
  obtain ⟨hx, hbt, hml, hown, hts, hret, hlk, hnm, hK⟩ := hC'
  have hla : a < h.1.length := (List.getElem?_eq_some_iff.mp ha).1
  obtain ⟨r0, g0, cellV, g1, g2, g3, -⟩ := hR.2 v _ hv
  rw [g0] at hci
  have hcn : r0.1 = x_cn t := Option.some.inj hci
  have hcls := (hK.1.1 ci r0 g0).2
  obtain ⟨kA, comp, k1, k2, k3, -⟩ := (hK.1.2 (t + 1) _ (x_tt d ht)).2
  have hcomp : comp = d.2.1.1 ci := Option.some.inj (k3.symm.trans (by rw [← hcn]; exact hcls.1))
  subst hcomp
  obtain ⟨kC, hkC, -⟩ := hcls.2
  have hin := x_in h0 hlt hql
  refine W.aast hx hbt (hR.2 a _ ha) (fun z hz => by cases hz) (fun hz => by cases hz) k1 k2 rfl hkC ⟨fun z => hin (Or.inl z), by show _ < (arrV _ _ _).slots.size; rw [arrV_size, x_cl h0 (by omega)]; exact hlt⟩ g1 (fun z hz => by rw [g3] at hz; cases hz) (by rw [g2]; exact hkC) (by rw [g2]; exact va_assign hcls) rfl rfl hd fun H1 e1 z1 o1 => ?_
  refine W.cs (by rw [List.length_set]) rfl (hw p l e s m args below meth c H1 (locs ++ [⟨d.1 + a, (Int32.ofInt j).toNatClampNeg⟩]) ls d k0 n0 hC (hR.set hla z1 o1 ?_) hL (by rw [List.length_set]; exact h1) h2 (t_lc hq (Nat.le_add_right _ _)))
  show H1[d.1 + a]? = some (vp_cell _ _)
  rw [e1]
  rw [vp_cell_q, vp_cell_q, arrV_store, List.length_set, x_cl h0 (by omega)]
  congr 2
  funext i
  by_cases hi : i = j.toNat
  · subst hi
    simp [updV, List.getD_eq_getElem?_getD, List.getElem?_set_self hlt, va_rf, x_r]
  · simp [updV, hi, List.getD_eq_getElem?_getD, List.getElem?_set_ne (Ne.symm hi)]
/-! ends -/
theorem xb_i {x : Int} (hd : decode M.2.1 pc = .ok (.ireturn, 1)) (hr : M.2.2.2.1 = some .int) : x_B M pc L [.inl x] h (some (.inl x)) h := by
  refine ⟨⟨Nat.le_refl _, Nat.le_refl _⟩, fun p l e s m args below meth c H locs ls d k0 n0 hC hR hL h1 h2 hq => ?_⟩
  obtain ⟨hx, hbt, hml, hown, hts, hret, hlk, hnm, hK⟩ := hC
  exact W.iret hx hbt (hret.trans hr) (fun t ht _ => ⟨rfl, by rw [ht]; exact hR⟩) hq hd hlk
theorem xb_z {x : Int} (hd : decode M.2.1 pc = .ok (.ireturn, 1)) (hr : M.2.2.2.1 = some .boolean) (hx01 : x = 0 ∨ x = 1) : x_B M pc L [.inl x] h (some (.inl x)) h := by
  refine ⟨⟨Nat.le_refl _, Nat.le_refl _⟩, fun p l e s m args below meth c H locs ls d k0 n0 hC hR hL h1 h2 hq => ?_⟩
  obtain ⟨hx, hbt, hml, hown, hts, hret, hlk, hnm, hK⟩ := hC
  exact W.zret hx hbt (hret.trans hr) (by rcases hx01 with rfl | rfl <;> decide +kernel) (fun t ht _ => ⟨rfl, by rw [ht]; exact hR⟩) hq hd hlk
theorem xb_v (hd : decode M.2.1 pc = .ok (.return_, 1)) (hr : M.2.2.2.1 = none) : x_B M pc L [] h none h := by
  refine ⟨⟨Nat.le_refl _, Nat.le_refl _⟩, fun p l e s m args below meth c H locs ls d k0 n0 hC hR hL h1 h2 hq => ?_⟩
  obtain ⟨hx, hbt, hml, hown, hts, hret, hlk, hnm, hK⟩ := hC
  exact W.vret hx hbt (hret.trans hr) (fun t ht _ => ⟨rfl, by rw [ht]; exact hR⟩) hq hd hlk
theorem xb_a {x : Option Nat} {ty : FieldType} (hd : decode M.2.1 pc = .ok (.areturn, 1)) (hr : M.2.2.2.1 = some ty) (hty : (∃ n, ty = .object n) ∨ ∃ t, ty = .array t) : x_B M pc L [.inr x] h (some (.inr x)) h := by
  refine ⟨⟨Nat.le_refl _, Nat.le_refl _⟩, fun p l e s m args below meth c H locs ls d k0 n0 hC hR hL h1 h2 hq => ?_⟩
  obtain ⟨hx, hbt, hml, hown, hts, hret, hlk, hnm, hK⟩ := hC
  exact W.aret hx hbt (hret.trans hr) hty (va_rf_or _) (fun t ht _ => ⟨rfl, by rw [ht]; exact hR⟩) hq hd hlk
end XC
end
section
/-! calls -/
theorem x_N_warm {s U : State} (hW : s.WarmedH U.vm) (h : ∀ w ∈ x_N, va_Nw w s) : ∀ w ∈ x_N, va_Nw w U := by
  intro w hw
  have hz := h w hw
  unfold x_N at hw
  rcases List.mem_append.mp hw with h1 | h1
  · obtain ⟨q, -, rfl⟩ := List.mem_map.mp h1
    exact va_Nw.warmF hW hz
  · obtain ⟨q, -, rfl⟩ := List.mem_map.mp h1
    exact va_Nw.warmM hW hz
theorem x_N_same {s U : State} (hv : s.vm = U.vm) (h : ∀ w ∈ x_N, va_Nw w s) : ∀ w ∈ x_N, va_Nw w U := by
  intro w hw
  have hz := h w hw
  unfold x_N at hw
  rcases List.mem_append.mp hw with h1 | h1
  · obtain ⟨q, -, rfl⟩ := List.mem_map.mp h1
    exact va_Nw.same rfl hv hz
  · obtain ⟨q, -, rfl⟩ := List.mem_map.mp h1
    exact va_Nw.same rfl hv hz
theorem x_K_warm {d : xD} {s U : State} (hW : s.WarmedH U.vm) (h : x_K d s) : x_K d U :=
  ⟨va_K.moved hW.alike h.1, x_N_warm hW h.2.1, va_AO.moved hW.alike h.2.2.1, va_AO.moved hW.alike h.2.2.2⟩
theorem x_K_same {d : xD} {s U : State} (hv : s.vm = U.vm) (h : x_K d s) : x_K d U := by
  have ha : s.vm.Alike U.vm := by rw [← hv]; exact Vm.Alike.refl _
  exact ⟨va_K.moved ha h.1, x_N_same hv h.2.1, va_AO.moved ha h.2.2.1, va_AO.moved ha h.2.2.2⟩
theorem x_sum (b : Nat) (l : List xV) : ((l.map (x_v b)).map (fun v => v.category)).sum = l.length := by
  induction l with
  | nil => rfl
  | cons v l ih => simp only [List.map_cons, List.sum_cons, List.length_cons, x_cat] at ih ⊢; omega
def x_cd (M' : xM) (n : Nat) : Prop := Cond.code M'.1 M'.2.1 M'.2.2.1 M'.2.2.2.1 ∈ x_ws ∧ Cond.initialized M'.1.cls ∈ x_ws ∧ (M'.1.cls ≠ "java/lang/invoke/MethodHandle" ∧ M'.1.cls ≠ "java/lang/invoke/VarHandle" ∧ (parseMethodDescriptor M'.1.desc).map (fun d => d.parameters.length) = some n)
def x_ml (own : String) (idx : Nat) (y : MethodName) : Prop := Cond.methodLink own idx y ∈ x_ws ∨ ∃ host, Cond.methodLinkNest own idx y host ∈ x_N
def x_rr (M M' : xM) : Prop := M'.2.2.2.2.1 + 1 ≤ M.2.2.2.2.1 ∧ 8 + (M'.2.2.1 + 11) + M'.2.2.2.2.2 ≤ M.2.2.2.2.2
theorem x_gi {M M' : xM} {n : Nat} (hc : x_cd M' n) : GoodIn (x_wM M) (x_wM M') := by
  intro w hw
  unfold x_wM at hw
  rcases List.mem_cons.mp hw with h | h
  · subst h
    exact ⟨List.mem_cons_of_mem _ hc.1, x_good _ hc.1⟩
  · exact ⟨List.mem_cons_of_mem _ h, x_good _ h⟩
section XA
variable {p : Program} {l : Launch} {e : Env} {R : Room} {s : State} {m : MethodId} {args : Array Value} {below : List Frame} {meth : Method} {c : Code} {H : Heap} {locs : List Loc} {cells slots : Nat} {Q : State → Prop}
theorem x_after {pc mc ms : Nat} {ls : Array Slot} {st0 rest : List Value} {d : xD} {r : Option xV} {h1 : xH} (hq : ∀ q ∈ locs, d.1 ≤ q.base)
    (hr : ∀ T : State, T.heap = H → Stand p l e R s m args below meth c T locs cells slots → ∃ (v : Option Value) (t T' : State) (L : List Loc), Stand p l e R s m args below meth c T' (locs ++ L) (cells + mc) (slots + ms) ∧ (∀ q ∈ L, d.1 ≤ q.base) ∧ T'.heap = t.heap ∧ (Outcome.returned v = .returned (r.map (x_v d.1)) ∧ x_R d h1 t.heap) ∧ Goes p e below T (F0 m pc ls st0) T' (F0 m (pc + 3) ls (v.toList ++ rest)))
    (kk : ∀ (H1 : Heap) (locs1 : List Loc), x_R d h1 H1 → (∀ q ∈ locs1, d.1 ≤ q.base) → W p l e R s m args below meth c H1 locs1 (cells + mc) (slots + ms) Q (F0 m (pc + 3) ls ((r.map (x_v d.1)).toList ++ rest))) : W p l e R s m args below meth c H locs cells slots Q (F0 m pc ls st0) := by
  intro T hT X
  obtain ⟨v, t, T', L, X', hL, e1, ⟨hv, hR1⟩, st1⟩ := hr T hT X
  have hv := Outcome.returned.inj hv
  subst hv
  obtain ⟨t2, a1, b1⟩ := kk T'.heap (locs ++ L) (by rw [e1]; exact hR1) (t_lL hq hL) T' rfl X'
  exact ⟨t2, st1 t2 a1, b1⟩
end XA
section XD
variable {M : xM} {pc : Nat} {L : List (Option xV)} {st : List xV} {h : xH}
theorem xs_callV {M' : xM} {idx n a ci : Nat} {as rest fs : List xV} {r : Option xV} {h1 : xH} (hd : decode M.2.1 pc = .ok (.invokevirtual idx, 3)) (hcd : x_cd M' n) (hml : x_ml M.1.cls idx M'.1) (hin : Cond.instanceMethod M'.1 ∈ x_ws ∧ Cond.selects M'.1.cls M'.1 M'.1 ∈ x_ws) (hrr : x_rr M M') (hn : as.length = n) (hst : st = as.reverse ++ .inr (some a) :: rest) (ha : h.1[a]? = some (.inr (.inr (ci, fs)))) (hci : (cl_s[ci]?).map (fun z => z.1) = some M'.1.cls) (hrest : rest.length ≤ 8) (hM : x_M M' (.inr (some a) :: as) h r h1) : x_S M pc L st h (pc + 3) L (r.toList ++ rest) h1 := by
  intro r' hf hb
  obtain ⟨hle, hw⟩ := hb
  obtain ⟨hle1, hm⟩ := hM
  refine ⟨by omega, fun p l e s m args below meth c H locs ls d k0 n0 hC hR hL h1' h2 hq => ?_⟩
  have hC' := hC
  obtain ⟨hx, hbt, hmx, hown, hts, hret, hlk, hnm, hK⟩ := hC'
  obtain ⟨r0, g0, -⟩ := hR.2 a _ ha
  have hcn : r0.1 = M'.1.cls := by
    have g0' : cl_s[ci]? = some r0 := g0
    rw [g0'] at hci
    exact Option.some.inj hci
  have hrec := va_recv hK.1 (hR.sing ha) g0 (q0 := 0) rfl
  rw [hcn] at hrec
  have hp : PreV s H M'.1.cls (d.1 + a) (va_Pc ((.inr (some a) :: as).map (x_v d.1)) (fun U => x_R d h U.heap ∧ x_K d U)) (as.map (x_v d.1)) :=
    ⟨fun aa U g mk q => ⟨q.1, q.2.1, x_K_same (s := U) (U := U.calling g mk aa) rfl q.2.2⟩, hrec, fun U hU hW => ⟨rfl, by rw [hU]; exact hR, x_K_warm hW hK⟩⟩
  have hstk : st.map (x_v d.1) = (as.map (x_v d.1)).reverse ++ .ref (d.1 + a) :: rest.map (x_v d.1) := by
    rw [hst]; simp [x_v, x_r, va_rf]
  have hroom : 2 * (F0 m pc ls (st.map (x_v d.1))).monitorRoom + ((rest.map (x_v d.1)).map fun v => v.category).sum ≤ 8 := lv_room (rest := st.map (x_v d.1)) (by rw [x_sum]; exact hrest)
  have hlen : (as.map (x_v d.1)).length = n := by rw [List.length_map]; exact hn
  have hcs : (h.1.length - k0) + (h1.1.length - h.1.length) ≤ (x_rm M (hf.1.length - k0) (hf.2 - n0)).cells ∧ (h.2 - n0) + (h1.2 - h.2) ≤ (x_rm M (hf.1.length - k0) (hf.2 - n0)).slots := ⟨by show _ ≤ hf.1.length - k0; omega, by show _ ≤ hf.2 - n0; omega⟩
  refine x_after (mc := h1.1.length - h.1.length) (ms := h1.2 - h.2) (rest := rest.map (x_v d.1)) (d := d) (r := r) (h1 := h1) hq ?_ (fun H1 locs1 hR1 hq1 => ?_)
  · rcases hml with hml | ⟨host, hml⟩
    · have cb := callB_of (R := x_rm M (hf.1.length - k0) (hf.2 - n0)) (rm := x_rm M' (h1.1.length - h.1.length) (h1.2 - h.2)) n hts (x_gi hcd) rfl rfl rfl (hts _ (List.mem_cons_of_mem _ hcd.2.1)) (hts _ (List.mem_cons_of_mem _ hml)) hcd.2.2 hrr
      have hr := va_runV (l := l) (e := e) (below := below) (meth := meth) (locs := locs) (cells := h.1.length - k0) (slots := h.2 - n0) (Ts := x_wM M) ⟨hx, hbt, hmx, hown, hts⟩ (hm l d) ⟨cb, hts _ (List.mem_cons_of_mem _ hin.1), hts _ (List.mem_cons_of_mem _ hin.2)⟩ hp (g := F0 m pc ls (st.map (x_v d.1))) rfl hlen hL.1 hstk hroom hd hcs
      intro T hT X
      obtain ⟨v, st₀, t, T', L', -, X', hL', e1, -, hq1, st1⟩ := hr T hT X
      exact ⟨v, t, T', L', X', hL', e1, hq1, st1⟩
    · have cb := va_cnB (R := x_rm M (hf.1.length - k0) (hf.2 - n0)) (rm := x_rm M' (h1.1.length - h.1.length) (h1.2 - h.2)) n hts (x_gi hcd) rfl rfl rfl (hK.2.1 _ hml) (hts _ (List.mem_cons_of_mem _ hcd.2.1)) hcd.2.2 hrr
      have hr := va_runVN (l := l) (e := e) (below := below) (meth := meth) (locs := locs) (cells := h.1.length - k0) (slots := h.2 - n0) (Ts := x_wM M) ⟨hx, hbt, hmx, hown, hts⟩ (hm l d) ⟨cb, hts _ (List.mem_cons_of_mem _ hin.1), hts _ (List.mem_cons_of_mem _ hin.2)⟩ hp (g := F0 m pc ls (st.map (x_v d.1))) rfl hlen hL.1 hstk hroom hd hcs
      intro T hT X
      obtain ⟨v, st₀, t, T', L', -, X', hL', e1, -, hq1, st1⟩ := hr T hT X
      exact ⟨v, t, T', L', X', hL', e1, hq1, st1⟩
  · have k := hw p l e s m args below meth c H1 locs1 ls d k0 n0 hC hR1 hL (by omega) (by omega) hq1
    refine W.cs (cells' := h1.1.length - k0) (slots' := h1.2 - n0) (by omega) (by omega) ?_
    cases r <;> exact k
theorem xs_callI {M' : xM} {idx n a : Nat} {as rest : List xV} {h1 : xH} (hd : decode M.2.1 pc = .ok (.invokespecial idx, 3)) (hcd : x_cd M' n) (hml : x_ml M.1.cls idx M'.1) (hin : Cond.instanceMethod M'.1 ∈ x_ws ∧ M'.1.name = "<init>" ∧ M'.2.2.2.1 = none) (hrr : x_rr M M') (hn : as.length = n) (hst : st = as.reverse ++ .inr (some a) :: rest) (hrest : rest.length ≤ 8) (hM : x_M M' (.inr (some a) :: as) h none h1) : x_S M pc L st h (pc + 3) L rest h1 := by
  intro r' hf hb
  obtain ⟨hle, hw⟩ := hb
  obtain ⟨hle1, hm⟩ := hM
  refine ⟨by omega, fun p l e s m args below meth c H locs ls d k0 n0 hC hR hL h1' h2 hq => ?_⟩
  have hC' := hC
  obtain ⟨hx, hbt, hmx, hown, hts, hret, hlk, hnm, hK⟩ := hC'
  have hp : PreS s H (va_Pc ((.inr (some a) :: as).map (x_v d.1)) (fun U => x_R d h U.heap ∧ x_K d U)) (.ref (d.1 + a) :: as.map (x_v d.1)) :=
    ⟨fun aa U g mk q => ⟨q.1, q.2.1, x_K_same (s := U) (U := U.calling g mk aa) rfl q.2.2⟩, fun U hU hW => ⟨rfl, by rw [hU]; exact hR, x_K_warm hW hK⟩⟩
  have hstk : st.map (x_v d.1) = (as.map (x_v d.1)).reverse ++ .ref (d.1 + a) :: rest.map (x_v d.1) := by
    rw [hst]; simp [x_v, x_r, va_rf]
  have hroom : 2 * (F0 m pc ls (st.map (x_v d.1))).monitorRoom + ((rest.map (x_v d.1)).map fun v => v.category).sum ≤ 8 := lv_room (rest := st.map (x_v d.1)) (by rw [x_sum]; exact hrest)
  have hlen : (as.map (x_v d.1)).length = n := by rw [List.length_map]; exact hn
  have hcs : (h.1.length - k0) + (h1.1.length - h.1.length) ≤ (x_rm M (hf.1.length - k0) (hf.2 - n0)).cells ∧ (h.2 - n0) + (h1.2 - h.2) ≤ (x_rm M (hf.1.length - k0) (hf.2 - n0)).slots := ⟨by show _ ≤ hf.1.length - k0; omega, by show _ ≤ hf.2 - n0; omega⟩
  have hwM : x_wM M' = Cond.code M'.1 M'.2.1 M'.2.2.1 none :: x_ws := by unfold x_wM; rw [hin.2.2]
  refine x_after (mc := h1.1.length - h.1.length) (ms := h1.2 - h.2) (rest := rest.map (x_v d.1)) (d := d) (r := none) (h1 := h1) hq ?_ (fun H1 locs1 hR1 hq1 => ?_)
  · rcases hml with hml | ⟨host, hml⟩
    · have cb := callB_of (R := x_rm M (hf.1.length - k0) (hf.2 - n0)) (rm := x_rm M' (h1.1.length - h.1.length) (h1.2 - h.2)) n hts (x_gi hcd) hwM rfl rfl (hts _ (List.mem_cons_of_mem _ hcd.2.1)) (hts _ (List.mem_cons_of_mem _ hml)) hcd.2.2 hrr
      have hr := va_runI (l := l) (e := e) (below := below) (meth := meth) (locs := locs) (cells := h.1.length - k0) (slots := h.2 - n0) (Ts := x_wM M) ⟨hx, hbt, hmx, hown, hts⟩ (hm l d) ⟨cb, hin.2.1, hts _ (List.mem_cons_of_mem _ hin.1)⟩ hp (g := F0 m pc ls (st.map (x_v d.1))) rfl hlen hL.1 hstk hroom hd hcs
      intro T hT X
      obtain ⟨v, st₀, t, T', L', -, X', hL', e1, -, hq1, st1⟩ := hr T hT X
      exact ⟨v, t, T', L', X', hL', e1, hq1, st1⟩
    · have cb := va_cnB (R := x_rm M (hf.1.length - k0) (hf.2 - n0)) (rm := x_rm M' (h1.1.length - h.1.length) (h1.2 - h.2)) n hts (x_gi hcd) hwM rfl rfl (hK.2.1 _ hml) (hts _ (List.mem_cons_of_mem _ hcd.2.1)) hcd.2.2 hrr
      have hr := va_runIN (l := l) (e := e) (below := below) (meth := meth) (locs := locs) (cells := h.1.length - k0) (slots := h.2 - n0) (Ts := x_wM M) ⟨hx, hbt, hmx, hown, hts⟩ (hm l d) ⟨cb, hin.2.1, hts _ (List.mem_cons_of_mem _ hin.1)⟩ hp (g := F0 m pc ls (st.map (x_v d.1))) rfl hlen hL.1 hstk hroom hd hcs
      intro T hT X
      obtain ⟨v, st₀, t, T', L', -, X', hL', e1, -, hq1, st1⟩ := hr T hT X
      exact ⟨v, t, T', L', X', hL', e1, hq1, st1⟩
  · have k := hw p l e s m args below meth c H1 locs1 ls d k0 n0 hC hR1 hL (by omega) (by omega) hq1
    exact W.cs (cells' := h1.1.length - k0) (slots' := h1.2 - n0) (by omega) (by omega) k
theorem xs_callS {M' : xM} {idx n : Nat} {as rest : List xV} {r : Option xV} {h1 : xH} (hd : decode M.2.1 pc = .ok (.invokestatic idx, 3)) (hcd : x_cd M' n) (hml : x_ml M.1.cls idx M'.1) (hin : Cond.static M'.1 ∈ x_ws) (hrr : x_rr M M') (hn : as.length = n) (hst : st = as.reverse ++ rest) (hrest : rest.length ≤ 8) (hM : x_M M' as h r h1) : x_S M pc L st h (pc + 3) L (r.toList ++ rest) h1 := by
  intro r' hf hb
  obtain ⟨hle, hw⟩ := hb
  obtain ⟨hle1, hm⟩ := hM
  refine ⟨by omega, fun p l e s m args below meth c H locs ls d k0 n0 hC hR hL h1' h2 hq => ?_⟩
  have hC' := hC
  obtain ⟨hx, hbt, hmx, hown, hts, hret, hlk, hnm, hK⟩ := hC'
  have hp : PreS s H (va_Pc (as.map (x_v d.1)) (fun U => x_R d h U.heap ∧ x_K d U)) (as.map (x_v d.1)) :=
    ⟨fun aa U g mk q => ⟨q.1, q.2.1, x_K_same (s := U) (U := U.calling g mk aa) rfl q.2.2⟩, fun U hU hW => ⟨rfl, by rw [hU]; exact hR, x_K_warm hW hK⟩⟩
  have hstk : st.map (x_v d.1) = (as.map (x_v d.1)).reverse ++ rest.map (x_v d.1) := by
    rw [hst]; simp
  have hroom : 2 * (F0 m pc ls (st.map (x_v d.1))).monitorRoom + ((rest.map (x_v d.1)).map fun v => v.category).sum ≤ 8 := lv_room (rest := st.map (x_v d.1)) (by rw [x_sum]; exact hrest)
  have hlen : (as.map (x_v d.1)).length = n := by rw [List.length_map]; exact hn
  have hcs : (h.1.length - k0) + (h1.1.length - h.1.length) ≤ (x_rm M (hf.1.length - k0) (hf.2 - n0)).cells ∧ (h.2 - n0) + (h1.2 - h.2) ≤ (x_rm M (hf.1.length - k0) (hf.2 - n0)).slots := ⟨by show _ ≤ hf.1.length - k0; omega, by show _ ≤ hf.2 - n0; omega⟩
  refine x_after (mc := h1.1.length - h.1.length) (ms := h1.2 - h.2) (rest := rest.map (x_v d.1)) (d := d) (r := r) (h1 := h1) hq ?_ (fun H1 locs1 hR1 hq1 => ?_)
  · rcases hml with hml | ⟨host, hml⟩
    · have cb := callB_of (R := x_rm M (hf.1.length - k0) (hf.2 - n0)) (rm := x_rm M' (h1.1.length - h.1.length) (h1.2 - h.2)) n hts (x_gi hcd) rfl rfl rfl (hts _ (List.mem_cons_of_mem _ hcd.2.1)) (hts _ (List.mem_cons_of_mem _ hml)) hcd.2.2 hrr
      have hr := va_runS (l := l) (e := e) (below := below) (meth := meth) (locs := locs) (cells := h.1.length - k0) (slots := h.2 - n0) (Ts := x_wM M) ⟨hx, hbt, hmx, hown, hts⟩ (hm l d) ⟨cb, hts _ (List.mem_cons_of_mem _ hin)⟩ hp (g := F0 m pc ls (st.map (x_v d.1))) rfl hlen hL.1 hstk hroom hd hcs
      intro T hT X
      obtain ⟨v, st₀, t, T', L', -, X', hL', e1, -, hq1, st1⟩ := hr T hT X
      exact ⟨v, t, T', L', X', hL', e1, hq1, st1⟩
    · have cb := va_cnB (R := x_rm M (hf.1.length - k0) (hf.2 - n0)) (rm := x_rm M' (h1.1.length - h.1.length) (h1.2 - h.2)) n hts (x_gi hcd) rfl rfl rfl (hK.2.1 _ hml) (hts _ (List.mem_cons_of_mem _ hcd.2.1)) hcd.2.2 hrr
      have hr := va_runSN (l := l) (e := e) (below := below) (meth := meth) (locs := locs) (cells := h.1.length - k0) (slots := h.2 - n0) (Ts := x_wM M) ⟨hx, hbt, hmx, hown, hts⟩ (hm l d) ⟨cb, hts _ (List.mem_cons_of_mem _ hin), trivial⟩ hp (g := F0 m pc ls (st.map (x_v d.1))) rfl hlen hL.1 hstk hroom hd hcs
      intro T hT X
      obtain ⟨v, st₀, t, T', L', -, X', hL', e1, -, hq1, st1⟩ := hr T hT X
      exact ⟨v, t, T', L', X', hL', e1, hq1, st1⟩
  · have k := hw p l e s m args below meth c H1 locs1 ls d k0 n0 hC hR1 hL (by omega) (by omega) hq1
    refine W.cs (cells' := h1.1.length - k0) (slots' := h1.2 - n0) (by omega) (by omega) ?_
    cases r <;> exact k
theorem xs_obj {idx a : Nat} {rest : List xV} (hd : decode M.2.1 pc = .ok (.invokespecial idx, 3)) (hl : Cond.methodLink M.1.cls idx objectInit ∈ x_ws ∧ Cond.instanceMethod objectInit ∈ x_ws ∧ Cond.code objectInit ⟨#[0xb1]⟩ 1 none ∈ x_ws) (hrr : 1 ≤ M.2.2.2.2.1 ∧ rest.length + 12 ≤ M.2.2.2.2.2) : x_S M pc L (.inr (some a) :: rest) h (pc + 3) L rest h := by
  intro r hf hb
  obtain ⟨hle, hw⟩ := hb
  refine ⟨hle, fun p l e s m args below meth c H locs ls d k0 n0 hC hR hL h1 h2 hq => ?_⟩
  have hC' := hC
  obtain ⟨hx, hbt, hml, hown, hts, hret, hlk, hnm, hK⟩ := hC'
  exact W.objInit hx hbt hown (hts _ (List.mem_cons_of_mem _ hl.1)) (hts _ (List.mem_cons_of_mem _ hl.2.1)) (hts _ (List.mem_cons_of_mem _ hl.2.2)) rfl (by rw [hml]; exact hL.1) rfl hd hrr.1 (by rw [x_sum]; show 2 * 0 + rest.length + 12 ≤ _; have := hrr.2; show _ ≤ M.2.2.2.2.2; omega) (hw p l e s m args below meth c H locs ls d k0 n0 hC hR hL h1 h2 hq)
end XD
/-! a method's contract out of its walk -/
theorem x_ent {b : Nat} : ∀ (as : List xV) (k i : Nat) (v : xV), as[i]? = some v → (k + i, x_v b v) ∈ lv_args k (as.map (x_v b)) := by
  intro as
  induction as with
  | nil => intro k i v h; simp at h
  | cons a as ih =>
    intro k i v h
    have hc : ¬ (x_v b a).category = 2 := by rw [x_cat]; decide
    simp only [List.map_cons, lv_args, if_neg hc]
    cases i with
    | zero => simp at h; subst h; exact List.mem_cons_self
    | succ i =>
      simp at h
      refine List.mem_cons_of_mem _ ?_
      have := ih (k + 1) i v h
      rw [show k + (i + 1) = k + 1 + i by omega]
      exact this
theorem x_sl (b : Nat) (as : List xV) : (lg_sl (as.map (x_v b))).length = as.length := by
  induction as with
  | nil => rfl
  | cons a as ih =>
    have hc : ¬ (x_v b a).category = 2 := by rw [x_cat]; decide
    unfold lg_sl at ih ⊢
    simp only [List.map_cons, List.flatMap_cons, if_neg hc, List.length_append, List.length_cons, List.length_nil] at ih ⊢
    omega
def x_en (M : xM) (as : List xV) : List (Option xV) := as.map some ++ List.replicate (M.2.2.1 - as.length) none
theorem xm {M : xM} {as : List xV} {h : xH} {r : Option xV} {hf : xH} (hpl : plainName M.1.cls = true) (hn : as.length ≤ M.2.2.1) (hb : x_B M 0 (x_en M as) [] h r hf) : x_M M as h r hf := by
  obtain ⟨hle, hw⟩ := hb
  refine ⟨hle, fun l d => ?_⟩
  refine Met.ofW (cc := M.2.1) (maxL := M.2.2.1) (ret := M.2.2.2.1) hpl rfl ?_
  intro p e s m args below meth c s₁ B hml hv
  obtain ⟨rfl, hR, hK⟩ := hv
  have hl0 := lv_entry (as.map (x_v d.1)) (n := M.2.2.1) (by rw [x_sl]; exact hn)
  rw [lg_entry_eq]
  generalize (lg_sl (as.map (x_v d.1)) ++ List.replicate (M.2.2.1 - (lg_sl (as.map (x_v d.1))).length) Slot.unset).toArray = ls at hl0 ⊢
  have hL : x_L d.1 ls M.2.2.1 (x_en M as) := by
    refine ⟨hl0.1, hl0.2.1, fun q hq => hl0.2.2 q ?_⟩
    obtain ⟨v, h1, h2⟩ := x_ll_mem.mp hq
    obtain ⟨j, w0⟩ := q
    dsimp only at h1 h2
    subst h2
    unfold x_en at h1
    by_cases hj : j < as.length
    · rw [List.getElem?_append_left (by simpa using hj), List.getElem?_map] at h1
      cases ha : as[j]? with
      | none => rw [ha] at h1; simp at h1
      | some u =>
        rw [ha] at h1
        simp at h1
        subst h1
        have := x_ent (b := d.1) as 0 j u ha
        rw [Nat.zero_add] at this
        exact this
    · rw [List.getElem?_append_right (by simpa using hj), List.getElem?_replicate] at h1
      split at h1 <;> simp at h1
  have k := hw p l e s m (as.map (x_v d.1)).toArray below meth c s.heap [] ls d h.1.length h.2 ⟨B.exec, B.bytes, hml, findClass_of_methodNamed B.named, atoms_spec (ws := x_wM M) B.pre, B.returns, B.notSynchronized, (name_of_methodNamed B.named B.method).1, hK⟩ hR hL (Nat.le_refl _) (Nat.le_refl _) (fun q hq => by cases hq)
  rw [Nat.sub_self, Nat.sub_self] at k
  exact k
def x_Mx (M : xM) (as : List xV) (h : xH) (Q : Option xV → xH → Prop) : Prop := ∃ r hf, x_M M as h r hf ∧ Q r hf
theorem xmx {M : xM} {as : List xV} {h : xH} {Q : Option xV → xH → Prop} (hpl : plainName M.1.cls = true) (hn : as.length ≤ M.2.2.1) (hb : x_X M 0 (x_en M as) [] h Q) : x_Mx M as h Q := by
  obtain ⟨r, hf, hb, hq⟩ := hb
  exact ⟨r, hf, xm hpl hn hb, hq⟩
end
section
/-! methods, and what a call of each wants of the tables -/
abbrev mm_Ma_init : xM := (⟨"SequentMachine", "<init>", "()V"⟩, prog_1_method_1_code, 1, none, 3, 60)
abbrev mm_Ma_type : xM := (⟨"SequentMachine", "type", "(I)I"⟩, prog_1_method_2_code, 4, some .int, 5, 185)
abbrev mm_Ma_var : xM := (⟨"SequentMachine", "var", "(I)I"⟩, prog_1_method_3_code, 3, some .int, 5, 186)
abbrev mm_Ma_constant : xM := (⟨"SequentMachine", "constant", "(I)I"⟩, prog_1_method_4_code, 3, some .int, 5, 186)
abbrev mm_Ma_app : xM := (⟨"SequentMachine", "app", "()I"⟩, prog_1_method_5_code, 3, some .int, 5, 188)
abbrev mm_Ma_abs : xM := (⟨"SequentMachine", "abs", "()I"⟩, prog_1_method_6_code, 3, some .int, 5, 187)
abbrev mm_Ma_theorem : xM := (⟨"SequentMachine", "theorem", "(I)I"⟩, prog_1_method_7_code, 3, some .int, 6, 214)
abbrev mm_Ma_join : xM := (⟨"SequentMachine", "join", "(I)I"⟩, prog_1_method_8_code, 4, some .int, 7, 213)
abbrev mm_Ma_absThm : xM := (⟨"SequentMachine", "absThm", "()I"⟩, prog_1_method_9_code, 7, some .int, 5, 188)
abbrev mm_Ma_inst : xM := (⟨"SequentMachine", "inst", "()I"⟩, prog_1_method_10_code, 6, some .int, 5, 188)
abbrev mm_Ma_instType : xM := (⟨"SequentMachine", "instType", "(I)I"⟩, prog_1_method_11_code, 6, some .int, 5, 187)
abbrev mm_Ma_keep : xM := (⟨"SequentMachine", "keep", "(I)I"⟩, prog_1_method_12_code, 4, some .int, 4, 86)
abbrev mm_Ma_fetch : xM := (⟨"SequentMachine", "fetch", "(I)I"⟩, prog_1_method_13_code, 3, some .int, 4, 86)
abbrev mm_Ma_pop : xM := (⟨"SequentMachine", "pop", "()I"⟩, prog_1_method_14_code, 1, some .int, 3, 63)
abbrev mm_Ma_export : xM := (⟨"SequentMachine", "export", "()I"⟩, prog_1_method_15_code, 3, some .int, 3, 63)
abbrev mm_Ma_count : xM := (⟨"SequentMachine", "count", "(I)I"⟩, prog_1_method_16_code, 2, some .int, 0, 0)
abbrev mm_Ma_kind : xM := (⟨"SequentMachine", "kind", "(I)I"⟩, prog_1_method_17_code, 3, some .int, 2, 42)
abbrev mm_Ma_hypotheses : xM := (⟨"SequentMachine", "hypotheses", "(I)I"⟩, prog_1_method_18_code, 3, some .int, 2, 42)
abbrev mm_Ma_length : xM := (⟨"SequentMachine", "length", "(II)I"⟩, prog_1_method_19_code, 4, some .int, 3, 65)
abbrev mm_Ma_symbol : xM := (⟨"SequentMachine", "symbol", "(III)I"⟩, prog_1_method_20_code, 5, some .int, 3, 65)
abbrev mm_Ma_assume : xM := (⟨"SequentMachine", "assume", "(LSequentMachine$Row;)I"⟩, prog_1_method_21_code, 3, some .int, 5, 188)
abbrev mm_Ma_reduce : xM := (⟨"SequentMachine", "reduce", "(LSequentMachine$Row;)I"⟩, prog_1_method_22_code, 7, some .int, 5, 188)
abbrev mm_Ma_addAxiom : xM := (⟨"SequentMachine", "addAxiom", "(LSequentMachine$Row;)I"⟩, prog_1_method_23_code, 4, some .int, 5, 188)
abbrev mm_Ma_define : xM := (⟨"SequentMachine", "define", "(LSequentMachine$Row;)I"⟩, prog_1_method_24_code, 5, some .int, 5, 188)
abbrev mm_Ma_followEquation : xM := (⟨"SequentMachine", "followEquation", "(LSequentMachine$Item;LSequentMachine$Item;)I"⟩, prog_1_method_25_code, 4, some .int, 6, 133)
abbrev mm_Ma_applyEquations : xM := (⟨"SequentMachine", "applyEquations", "(LSequentMachine$Item;LSequentMachine$Item;)I"⟩, prog_1_method_26_code, 8, some .int, 6, 186)
abbrev mm_Ma_deduct : xM := (⟨"SequentMachine", "deduct", "(LSequentMachine$Item;LSequentMachine$Item;)I"⟩, prog_1_method_27_code, 5, some .int, 5, 186)
abbrev mm_Ma_hypothesesOfBoth : xM := (⟨"SequentMachine", "hypothesesOfBoth", "(LSequentMachine$Item;LSequentMachine$Item;)LSequentMachine$Hypotheses;"⟩, prog_1_method_28_code, 4, some (.object "SequentMachine$Hypotheses"), 5, 110)
abbrev mm_Ma_equationIn : xM := (⟨"SequentMachine", "equationIn", "(LSequentMachine$Row;)LSequentMachine$Equation;"⟩, prog_1_method_29_code, 3, some (.object "SequentMachine$Equation"), 4, 89)
abbrev mm_Ma_takesArgument : xM := (⟨"SequentMachine", "takesArgument", "(LSequentMachine$Row;LSequentMachine$Row;)Z"⟩, prog_1_method_30_code, 3, some .boolean, 4, 85)
abbrev mm_Ma_finishType : xM := (⟨"SequentMachine", "finishType", "(ILSequentMachine$Row;)I"⟩, prog_1_method_31_code, 3, some .int, 4, 86)
abbrev mm_Ma_finishTerm : xM := (⟨"SequentMachine", "finishTerm", "(ILSequentMachine$Row;)I"⟩, prog_1_method_32_code, 3, some .int, 4, 86)
abbrev mm_Ma_finishTheorem : xM := (⟨"SequentMachine", "finishTheorem", "(ILSequentMachine$Hypotheses;LSequentMachine$Row;)I"⟩, prog_1_method_33_code, 4, some .int, 4, 86)
abbrev mm_Ma_finish : xM := (⟨"SequentMachine", "finish", "(ILSequentMachine$Item;)I"⟩, prog_1_method_34_code, 4, some .int, 3, 63)
abbrev mm_Ma_finishEmptyHanded : xM := (⟨"SequentMachine", "finishEmptyHanded", "(I)I"⟩, prog_1_method_35_code, 2, some .int, 2, 42)
abbrev mm_Ma_itemBelow : xM := (⟨"SequentMachine", "itemBelow", "(II)LSequentMachine$Item;"⟩, prog_1_method_36_code, 4, some (.object "SequentMachine$Item"), 1, 21)
abbrev mm_Ma_rowBelow : xM := (⟨"SequentMachine", "rowBelow", "(II)LSequentMachine$Row;"⟩, prog_1_method_37_code, 4, some (.object "SequentMachine$Row"), 2, 44)
abbrev mm_Ma_variableBelow : xM := (⟨"SequentMachine", "variableBelow", "(I)LSequentMachine$Row;"⟩, prog_1_method_38_code, 3, some (.object "SequentMachine$Row"), 3, 67)
abbrev mm_Ma_keptFor : xM := (⟨"SequentMachine", "keptFor", "(I)LSequentMachine$Item;"⟩, prog_1_method_39_code, 2, some (.object "SequentMachine$Item"), 0, 0)
abbrev mm_Ma_itemAt : xM := (⟨"SequentMachine", "itemAt", "(I)LSequentMachine$Item;"⟩, prog_1_method_40_code, 2, some (.object "SequentMachine$Item"), 1, 21)
abbrev mm_Ma_partAt : xM := (⟨"SequentMachine", "partAt", "(II)LSequentMachine$Row;"⟩, prog_1_method_41_code, 4, some (.object "SequentMachine$Row"), 2, 42)
abbrev mm_Re_init : xM := (⟨"SequentMachineModel", "<init>", "()V"⟩, prog_10_method_1_code, 2, none, 1, 20)
abbrev mm_Re_base : xM := (⟨"SequentMachineModel", "base", "(II)I"⟩, prog_10_method_2_code, 2, some .int, 0, 0)
abbrev mm_Re_emit : xM := (⟨"SequentMachineModel", "emit", "(I)V"⟩, prog_10_method_3_code, 2, none, 0, 0)
abbrev mm_Re_emitRow : xM := (⟨"SequentMachineModel", "emitRow", "(II)V"⟩, prog_10_method_4_code, 4, none, 1, 21)
abbrev mm_Re_sameRow : xM := (⟨"SequentMachineModel", "sameRow", "(IIII)Z"⟩, prog_10_method_5_code, 7, some .boolean, 0, 0)
abbrev mm_Re_skipType : xM := (⟨"SequentMachineModel", "skipType", "(I)I"⟩, prog_10_method_6_code, 4, some .int, 0, 0)
abbrev mm_Re_skipTerm : xM := (⟨"SequentMachineModel", "skipTerm", "(I)I"⟩, prog_10_method_7_code, 5, some .int, 1, 23)
abbrev mm_Re_depth : xM := (⟨"SequentMachineModel", "depth", "(II)I"⟩, prog_10_method_8_code, 5, some .int, 2, 47)
abbrev mm_Re_typeOf : xM := (⟨"SequentMachineModel", "typeOf", "(I)I"⟩, prog_10_method_9_code, 8, some .int, 3, 68)
abbrev mm_Re_equalAt : xM := (⟨"SequentMachineModel", "equalAt", "(II)V"⟩, prog_10_method_10_code, 5, none, 2, 44)
abbrev mm_Re_isEquation : xM := (⟨"SequentMachineModel", "isEquation", "(I)Z"⟩, prog_10_method_11_code, 2, some .boolean, 0, 0)
abbrev mm_Re_left : xM := (⟨"SequentMachineModel", "left", "(I)I"⟩, prog_10_method_12_code, 2, some .int, 1, 23)
abbrev mm_Re_begin : xM := (⟨"SequentMachineModel", "begin", "()V"⟩, prog_10_method_13_code, 1, none, 0, 0)
abbrev mm_Re_part : xM := (⟨"SequentMachineModel", "part", "(II)V"⟩, prog_10_method_14_code, 6, none, 1, 21)
abbrev mm_Re_compare : xM := (⟨"SequentMachineModel", "compare", "(IIII)I"⟩, prog_10_method_15_code, 6, some .int, 0, 0)
abbrev mm_Re_hypothesis : xM := (⟨"SequentMachineModel", "hypothesis", "(I)V"⟩, prog_10_method_16_code, 5, none, 2, 49)
abbrev mm_Re_movePart : xM := (⟨"SequentMachineModel", "movePart", "(IIII)V"⟩, prog_10_method_17_code, 9, none, 1, 21)
abbrev mm_Re_copyObject : xM := (⟨"SequentMachineModel", "copyObject", "(II)V"⟩, prog_10_method_18_code, 4, none, 2, 49)
abbrev mm_Re_bring : xM := (⟨"SequentMachineModel", "bring", "(III)V"⟩, prog_10_method_19_code, 8, none, 3, 73)
abbrev mm_Re_beginEquation : xM := (⟨"SequentMachineModel", "beginEquation", "(II)V"⟩, prog_10_method_20_code, 3, none, 2, 44)
abbrev mm_Re_done : xM := (⟨"SequentMachineModel", "done", "(I)I"⟩, prog_10_method_21_code, 2, some .int, 3, 72)
abbrev mm_Re_top : xM := (⟨"SequentMachineModel", "top", "(I)I"⟩, prog_10_method_22_code, 2, some .int, 0, 0)
abbrev mm_Re_variable : xM := (⟨"SequentMachineModel", "variable", "(I)Z"⟩, prog_10_method_23_code, 2, some .boolean, 1, 21)
abbrev mm_Re_rowOf : xM := (⟨"SequentMachineModel", "rowOf", "(I)I"⟩, prog_10_method_24_code, 2, some .int, 1, 21)
abbrev mm_Re_rowEnd : xM := (⟨"SequentMachineModel", "rowEnd", "(I)I"⟩, prog_10_method_25_code, 2, some .int, 1, 21)
abbrev mm_Re_type : xM := (⟨"SequentMachineModel", "type", "(I)I"⟩, prog_10_method_26_code, 2, some .int, 4, 93)
abbrev mm_Re_leaf : xM := (⟨"SequentMachineModel", "leaf", "(II)I"⟩, prog_10_method_27_code, 3, some .int, 4, 93)
abbrev mm_Re_var : xM := (⟨"SequentMachineModel", "var", "(I)I"⟩, prog_10_method_28_code, 2, some .int, 5, 115)
abbrev mm_Re_constant : xM := (⟨"SequentMachineModel", "constant", "(I)I"⟩, prog_10_method_29_code, 2, some .int, 5, 115)
abbrev mm_Re_fits : xM := (⟨"SequentMachineModel", "fits", "(II)Z"⟩, prog_10_method_30_code, 9, some .boolean, 4, 95)
abbrev mm_Re_app : xM := (⟨"SequentMachineModel", "app", "()I"⟩, prog_10_method_31_code, 2, some .int, 5, 123)
abbrev mm_Re_stands : xM := (⟨"SequentMachineModel", "stands", "(III)Z"⟩, prog_10_method_32_code, 4, some .boolean, 1, 26)
abbrev mm_Re_emitAbs : xM := (⟨"SequentMachineModel", "emitAbs", "(IIII)V"⟩, prog_10_method_33_code, 6, none, 3, 71)
abbrev mm_Re_abs : xM := (⟨"SequentMachineModel", "abs", "()I"⟩, prog_10_method_34_code, 1, some .int, 4, 96)
abbrev mm_Re_isBool : xM := (⟨"SequentMachineModel", "isBool", "(II)Z"⟩, prog_10_method_35_code, 3, some .boolean, 0, 0)
abbrev mm_Re_theorem : xM := (⟨"SequentMachineModel", "theorem", "(I)I"⟩, prog_10_method_36_code, 7, some .int, 5, 117)
abbrev mm_Re_claim : xM := (⟨"SequentMachineModel", "claim", "(III)I"⟩, prog_10_method_37_code, 5, some .int, 4, 93)
abbrev mm_Re_define : xM := (⟨"SequentMachineModel", "define", "(II)I"⟩, prog_10_method_38_code, 4, some .int, 4, 93)
abbrev mm_Re_reduce : xM := (⟨"SequentMachineModel", "reduce", "(II)V"⟩, prog_10_method_39_code, 5, none, 3, 71)
abbrev mm_Re_closed : xM := (⟨"SequentMachineModel", "closed", "(IIII)Z"⟩, prog_10_method_40_code, 9, some .boolean, 1, 25)
abbrev mm_Re_occurs : xM := (⟨"SequentMachineModel", "occurs", "(III)Z"⟩, prog_10_method_41_code, 6, some .boolean, 0, 0)
abbrev mm_Re_join : xM := (⟨"SequentMachineModel", "join", "(I)I"⟩, prog_10_method_42_code, 9, some .int, 5, 123)
abbrev mm_Re_applied : xM := (⟨"SequentMachineModel", "applied", "(IIIII)V"⟩, prog_10_method_43_code, 7, none, 3, 66)
abbrev mm_Re_free : xM := (⟨"SequentMachineModel", "free", "(IIII)Z"⟩, prog_10_method_44_code, 6, some .boolean, 2, 49)
abbrev mm_Re_absThm : xM := (⟨"SequentMachineModel", "absThm", "()I"⟩, prog_10_method_45_code, 8, some .int, 4, 100)
abbrev mm_Re_replaced : xM := (⟨"SequentMachineModel", "replaced", "(IIIIII)V"⟩, prog_10_method_46_code, 8, none, 2, 49)
abbrev mm_Re_inst : xM := (⟨"SequentMachineModel", "inst", "()I"⟩, prog_10_method_47_code, 8, some .int, 4, 95)
abbrev mm_Re_retyped : xM := (⟨"SequentMachineModel", "retyped", "(IIIII)V"⟩, prog_10_method_48_code, 11, none, 2, 44)
abbrev mm_Re_instType : xM := (⟨"SequentMachineModel", "instType", "(I)I"⟩, prog_10_method_49_code, 6, some .int, 4, 93)
abbrev mm_Re_keep : xM := (⟨"SequentMachineModel", "keep", "(I)I"⟩, prog_10_method_50_code, 2, some .int, 3, 72)
abbrev mm_Re_fetch : xM := (⟨"SequentMachineModel", "fetch", "(I)I"⟩, prog_10_method_51_code, 2, some .int, 3, 72)
abbrev mm_Re_pop : xM := (⟨"SequentMachineModel", "pop", "()I"⟩, prog_10_method_52_code, 1, some .int, 0, 0)
abbrev mm_Re_export : xM := (⟨"SequentMachineModel", "export", "()I"⟩, prog_10_method_53_code, 1, some .int, 3, 72)
abbrev mm_Re_count : xM := (⟨"SequentMachineModel", "count", "(I)I"⟩, prog_10_method_54_code, 2, some .int, 0, 0)
abbrev mm_Re_at : xM := (⟨"SequentMachineModel", "at", "(I)I"⟩, prog_10_method_55_code, 2, some .int, 0, 0)
abbrev mm_Re_kind : xM := (⟨"SequentMachineModel", "kind", "(I)I"⟩, prog_10_method_56_code, 3, some .int, 1, 21)
abbrev mm_Re_hypotheses : xM := (⟨"SequentMachineModel", "hypotheses", "(I)I"⟩, prog_10_method_57_code, 3, some .int, 1, 21)
abbrev mm_Re_length : xM := (⟨"SequentMachineModel", "length", "(II)I"⟩, prog_10_method_58_code, 4, some .int, 1, 21)
abbrev mm_Re_symbol : xM := (⟨"SequentMachineModel", "symbol", "(III)I"⟩, prog_10_method_59_code, 6, some .int, 2, 44)
abbrev mm_De_init : xM := (⟨"SequentMachine$Depth", "<init>", "()V"⟩, prog_2_method_1_code, 1, none, 1, 20)
abbrev mm_De_begin : xM := (⟨"SequentMachine$Depth", "begin", "()V"⟩, prog_2_method_2_code, 1, none, 0, 0)
abbrev mm_De_pass : xM := (⟨"SequentMachine$Depth", "pass", "(I)V"⟩, prog_2_method_3_code, 2, none, 1, 20)
abbrev mm_Eq_init : xM := (⟨"SequentMachine$Equation", "<init>", "(LSequentMachine$Row;)V"⟩, prog_3_method_1_code, 4, none, 3, 66)
abbrev mm_Hy_init : xM := (⟨"SequentMachine$Hypotheses", "<init>", "()V"⟩, prog_4_method_1_code, 1, none, 1, 20)
abbrev mm_Hy_get : xM := (⟨"SequentMachine$Hypotheses", "get", "(I)LSequentMachine$Row;"⟩, prog_4_method_2_code, 2, some (.object "SequentMachine$Row"), 0, 0)
abbrev mm_Hy_add : xM := (⟨"SequentMachine$Hypotheses", "add", "(LSequentMachine$Row;)V"⟩, prog_4_method_3_code, 4, none, 3, 65)
abbrev mm_Hy_addAll : xM := (⟨"SequentMachine$Hypotheses", "addAll", "(LSequentMachine$Hypotheses;)V"⟩, prog_4_method_4_code, 3, none, 4, 88)
abbrev mm_Hy_addAllBut : xM := (⟨"SequentMachine$Hypotheses", "addAllBut", "(LSequentMachine$Hypotheses;LSequentMachine$Row;)V"⟩, prog_4_method_5_code, 4, none, 4, 88)
abbrev mm_Hy_haveFree : xM := (⟨"SequentMachine$Hypotheses", "haveFree", "(LSequentMachine$Row;)Z"⟩, prog_4_method_6_code, 3, some .boolean, 3, 66)
abbrev mm_Hy_areSmallEnough : xM := (⟨"SequentMachine$Hypotheses", "areSmallEnough", "()Z"⟩, prog_4_method_7_code, 2, some .boolean, 0, 0)
abbrev mm_It_init : xM := (⟨"SequentMachine$Item", "<init>", "(ILSequentMachine$Row;LSequentMachine$Hypotheses;)V"⟩, prog_5_method_1_code, 4, none, 1, 20)
abbrev mm_It_isSmallEnough : xM := (⟨"SequentMachine$Item", "isSmallEnough", "()Z"⟩, prog_5_method_2_code, 2, some .boolean, 1, 21)
abbrev mm_Ro_init : xM := (⟨"SequentMachine$Row", "<init>", "([III)V"⟩, prog_6_method_1_code, 5, none, 1, 20)
abbrev mm_Ro_at : xM := (⟨"SequentMachine$Row", "at", "(I)I"⟩, prog_6_method_2_code, 2, some .int, 0, 0)
abbrev mm_Ro_part : xM := (⟨"SequentMachine$Row", "part", "(II)LSequentMachine$Row;"⟩, prog_6_method_3_code, 3, some (.object "SequentMachine$Row"), 2, 44)
abbrev mm_Ro_typeEnd : xM := (⟨"SequentMachine$Row", "typeEnd", "(I)I"⟩, prog_6_method_4_code, 4, some .int, 1, 21)
abbrev mm_Ro_termEnd : xM := (⟨"SequentMachine$Row", "termEnd", "(I)I"⟩, prog_6_method_5_code, 5, some .int, 1, 21)
abbrev mm_Ro_typeAt : xM := (⟨"SequentMachine$Row", "typeAt", "(I)LSequentMachine$Row;"⟩, prog_6_method_6_code, 2, some (.object "SequentMachine$Row"), 2, 44)
abbrev mm_Ro_functionArgument : xM := (⟨"SequentMachine$Row", "functionArgument", "()LSequentMachine$Row;"⟩, prog_6_method_7_code, 1, some (.object "SequentMachine$Row"), 3, 65)
abbrev mm_Ro_functionResult : xM := (⟨"SequentMachine$Row", "functionResult", "()LSequentMachine$Row;"⟩, prog_6_method_8_code, 1, some (.object "SequentMachine$Row"), 2, 44)
abbrev mm_Ro_same : xM := (⟨"SequentMachine$Row", "same", "(LSequentMachine$Row;)Z"⟩, prog_6_method_9_code, 2, some .boolean, 2, 44)
abbrev mm_Ro_holdsAt : xM := (⟨"SequentMachine$Row", "holdsAt", "(ILSequentMachine$Row;)Z"⟩, prog_6_method_10_code, 4, some .boolean, 1, 21)
abbrev mm_Ro_comesBefore : xM := (⟨"SequentMachine$Row", "comesBefore", "(LSequentMachine$Row;)Z"⟩, prog_6_method_11_code, 3, some .boolean, 1, 21)
abbrev mm_Ro_hasFree : xM := (⟨"SequentMachine$Row", "hasFree", "(LSequentMachine$Row;)Z"⟩, prog_6_method_12_code, 3, some .boolean, 2, 44)
abbrev mm_Ro_hasFreeVariable : xM := (⟨"SequentMachine$Row", "hasFreeVariable", "()Z"⟩, prog_6_method_13_code, 1, some .boolean, 2, 43)
abbrev mm_Ro_has : xM := (⟨"SequentMachine$Row", "has", "(I)Z"⟩, prog_6_method_14_code, 3, some .boolean, 1, 21)
abbrev mm_Ro_typeVariablesStandIn : xM := (⟨"SequentMachine$Row", "typeVariablesStandIn", "(LSequentMachine$Row;)Z"⟩, prog_6_method_15_code, 3, some .boolean, 2, 43)
abbrev mm_Ro_isOfType : xM := (⟨"SequentMachine$Row", "isOfType", "(I)Z"⟩, prog_6_method_16_code, 3, some .boolean, 1, 21)
abbrev mm_Ro_termsWithin : xM := (⟨"SequentMachine$Row", "termsWithin", "(I)I"⟩, prog_6_method_17_code, 1, some .int, 0, 0)
abbrev mm_Sc_init : xM := (⟨"SequentMachine$Scribe", "<init>", "()V"⟩, prog_7_method_1_code, 1, none, 2, 40)
abbrev mm_Sc_simpleType : xM := (⟨"SequentMachine$Scribe", "simpleType", "(I)LSequentMachine$Row;"⟩, prog_7_method_2_code, 2, some (.object "SequentMachine$Row"), 4, 163)
abbrev mm_Sc_functionType : xM := (⟨"SequentMachine$Scribe", "functionType", "(LSequentMachine$Row;LSequentMachine$Row;)LSequentMachine$Row;"⟩, prog_7_method_3_code, 3, some (.object "SequentMachine$Row"), 4, 163)
abbrev mm_Sc_leaf : xM := (⟨"SequentMachine$Scribe", "leaf", "(IILSequentMachine$Row;)LSequentMachine$Row;"⟩, prog_7_method_4_code, 4, some (.object "SequentMachine$Row"), 4, 163)
abbrev mm_Sc_application : xM := (⟨"SequentMachine$Scribe", "application", "(LSequentMachine$Row;LSequentMachine$Row;)LSequentMachine$Row;"⟩, prog_7_method_5_code, 3, some (.object "SequentMachine$Row"), 4, 163)
abbrev mm_Sc_equation : xM := (⟨"SequentMachine$Scribe", "equation", "(LSequentMachine$Row;LSequentMachine$Row;LSequentMachine$Row;)LSequentMachine$Row;"⟩, prog_7_method_6_code, 4, some (.object "SequentMachine$Row"), 4, 163)
abbrev mm_Sc_abstraction : xM := (⟨"SequentMachine$Scribe", "abstraction", "(LSequentMachine$Row;LSequentMachine$Row;)LSequentMachine$Row;"⟩, prog_7_method_7_code, 5, some (.object "SequentMachine$Row"), 4, 163)
abbrev mm_Sc_replaceVariable : xM := (⟨"SequentMachine$Scribe", "replaceVariable", "(LSequentMachine$Row;LSequentMachine$Row;LSequentMachine$Row;)LSequentMachine$Row;"⟩, prog_7_method_8_code, 6, some (.object "SequentMachine$Row"), 4, 163)
abbrev mm_Sc_replaceOutermost : xM := (⟨"SequentMachine$Scribe", "replaceOutermost", "(LSequentMachine$Row;LSequentMachine$Row;)LSequentMachine$Row;"⟩, prog_7_method_9_code, 4, some (.object "SequentMachine$Row"), 4, 163)
abbrev mm_Sc_replaceTypeVariable : xM := (⟨"SequentMachine$Scribe", "replaceTypeVariable", "(LSequentMachine$Row;ILSequentMachine$Row;)LSequentMachine$Row;"⟩, prog_7_method_10_code, 5, some (.object "SequentMachine$Row"), 4, 163)
abbrev mm_Sc_typeOf : xM := (⟨"SequentMachine$Scribe", "typeOf", "(LSequentMachine$Row;)LSequentMachine$Row;"⟩, prog_7_method_11_code, 6, some (.object "SequentMachine$Row"), 4, 163)
abbrev mm_Sc_putLeafType : xM := (⟨"SequentMachine$Scribe", "putLeafType", "(LSequentMachine$Row;III)V"⟩, prog_7_method_12_code, 10, none, 3, 66)
abbrev mm_Sc_putEqualType : xM := (⟨"SequentMachine$Scribe", "putEqualType", "(LSequentMachine$Row;I)V"⟩, prog_7_method_13_code, 4, none, 2, 43)
abbrev mm_Sc_put : xM := (⟨"SequentMachine$Scribe", "put", "(I)V"⟩, prog_7_method_14_code, 2, none, 0, 0)
abbrev mm_Sc_putRow : xM := (⟨"SequentMachine$Scribe", "putRow", "(LSequentMachine$Row;)V"⟩, prog_7_method_15_code, 3, none, 1, 21)
abbrev mm_Sc_finishedRow : xM := (⟨"SequentMachine$Scribe", "finishedRow", "()LSequentMachine$Row;"⟩, prog_7_method_16_code, 2, some (.object "SequentMachine$Row"), 3, 142)
abbrev mm_Sh_init : xM := (⟨"SequentMachine$Shelf", "<init>", "(I)V"⟩, prog_8_method_1_code, 2, none, 1, 20)
abbrev mm_Sh_isFull : xM := (⟨"SequentMachine$Shelf", "isFull", "()Z"⟩, prog_8_method_2_code, 1, some .boolean, 0, 0)
abbrev mm_Sh_get : xM := (⟨"SequentMachine$Shelf", "get", "(I)LSequentMachine$Item;"⟩, prog_8_method_3_code, 2, some (.object "SequentMachine$Item"), 0, 0)
abbrev mm_Sh_below : xM := (⟨"SequentMachine$Shelf", "below", "(I)LSequentMachine$Item;"⟩, prog_8_method_4_code, 2, some (.object "SequentMachine$Item"), 0, 0)
abbrev mm_Sh_add : xM := (⟨"SequentMachine$Shelf", "add", "(LSequentMachine$Item;)V"⟩, prog_8_method_5_code, 2, none, 0, 0)
abbrev mm_Sh_drop : xM := (⟨"SequentMachine$Shelf", "drop", "(I)V"⟩, prog_8_method_6_code, 2, none, 1, 21)
abbrev mm_Ar_copyOf : xM := (⟨"java/util/Arrays", "copyOf", "([II)[I"⟩, prog_14_method_123_code, 3, some (.array .int), 2, 120)
abbrev mm_Mt_min : xM := (⟨"java/lang/Math", "min", "(II)I"⟩, prog_12_method_69_code, 2, some .int, 0, 0)
abbrev mm_Mt_max : xM := (⟨"java/lang/Math", "max", "(II)I"⟩, prog_12_method_65_code, 2, some .int, 0, 0)
theorem lc_Ma_init : x_cd mm_Ma_init 0 := ⟨x_at 17 (by decide +kernel) rfl, x_at 1 (by decide +kernel) rfl, by decide +kernel, by decide +kernel, by decide +kernel⟩
theorem li_Ma_init : Cond.instanceMethod mm_Ma_init.1 ∈ x_ws ∧ mm_Ma_init.1.name = "<init>" ∧ mm_Ma_init.2.2.2.1 = none := ⟨x_at 16 (by decide +kernel) rfl, rfl, rfl⟩
theorem lc_Ma_type : x_cd mm_Ma_type 1 := ⟨x_at 125 (by decide +kernel) rfl, x_at 1 (by decide +kernel) rfl, by decide +kernel, by decide +kernel, by decide +kernel⟩
theorem li_Ma_type : Cond.instanceMethod mm_Ma_type.1 ∈ x_ws ∧ Cond.selects mm_Ma_type.1.cls mm_Ma_type.1 mm_Ma_type.1 ∈ x_ws := ⟨x_at 123 (by decide +kernel) rfl, x_at 124 (by decide +kernel) rfl⟩
theorem lc_Ma_var : x_cd mm_Ma_var 1 := ⟨x_at 250 (by decide +kernel) rfl, x_at 1 (by decide +kernel) rfl, by decide +kernel, by decide +kernel, by decide +kernel⟩
theorem li_Ma_var : Cond.instanceMethod mm_Ma_var.1 ∈ x_ws ∧ Cond.selects mm_Ma_var.1.cls mm_Ma_var.1 mm_Ma_var.1 ∈ x_ws := ⟨x_at 248 (by decide +kernel) rfl, x_at 249 (by decide +kernel) rfl⟩
theorem lc_Ma_constant : x_cd mm_Ma_constant 1 := ⟨x_at 262 (by decide +kernel) rfl, x_at 1 (by decide +kernel) rfl, by decide +kernel, by decide +kernel, by decide +kernel⟩
theorem li_Ma_constant : Cond.instanceMethod mm_Ma_constant.1 ∈ x_ws ∧ Cond.selects mm_Ma_constant.1.cls mm_Ma_constant.1 mm_Ma_constant.1 ∈ x_ws := ⟨x_at 260 (by decide +kernel) rfl, x_at 261 (by decide +kernel) rfl⟩
theorem lc_Ma_app : x_cd mm_Ma_app 0 := ⟨x_at 266 (by decide +kernel) rfl, x_at 1 (by decide +kernel) rfl, by decide +kernel, by decide +kernel, by decide +kernel⟩
theorem li_Ma_app : Cond.instanceMethod mm_Ma_app.1 ∈ x_ws ∧ Cond.selects mm_Ma_app.1.cls mm_Ma_app.1 mm_Ma_app.1 ∈ x_ws := ⟨x_at 264 (by decide +kernel) rfl, x_at 265 (by decide +kernel) rfl⟩
theorem lc_Ma_abs : x_cd mm_Ma_abs 0 := ⟨x_at 319 (by decide +kernel) rfl, x_at 1 (by decide +kernel) rfl, by decide +kernel, by decide +kernel, by decide +kernel⟩
theorem li_Ma_abs : Cond.instanceMethod mm_Ma_abs.1 ∈ x_ws ∧ Cond.selects mm_Ma_abs.1.cls mm_Ma_abs.1 mm_Ma_abs.1 ∈ x_ws := ⟨x_at 317 (by decide +kernel) rfl, x_at 318 (by decide +kernel) rfl⟩
theorem lc_Ma_theorem : x_cd mm_Ma_theorem 1 := ⟨x_at 343 (by decide +kernel) rfl, x_at 1 (by decide +kernel) rfl, by decide +kernel, by decide +kernel, by decide +kernel⟩
theorem li_Ma_theorem : Cond.instanceMethod mm_Ma_theorem.1 ∈ x_ws ∧ Cond.selects mm_Ma_theorem.1.cls mm_Ma_theorem.1 mm_Ma_theorem.1 ∈ x_ws := ⟨x_at 341 (by decide +kernel) rfl, x_at 342 (by decide +kernel) rfl⟩
theorem lc_Ma_join : x_cd mm_Ma_join 1 := ⟨x_at 414 (by decide +kernel) rfl, x_at 1 (by decide +kernel) rfl, by decide +kernel, by decide +kernel, by decide +kernel⟩
theorem li_Ma_join : Cond.instanceMethod mm_Ma_join.1 ∈ x_ws ∧ Cond.selects mm_Ma_join.1.cls mm_Ma_join.1 mm_Ma_join.1 ∈ x_ws := ⟨x_at 412 (by decide +kernel) rfl, x_at 413 (by decide +kernel) rfl⟩
theorem lc_Ma_absThm : x_cd mm_Ma_absThm 0 := ⟨x_at 470 (by decide +kernel) rfl, x_at 1 (by decide +kernel) rfl, by decide +kernel, by decide +kernel, by decide +kernel⟩
theorem li_Ma_absThm : Cond.instanceMethod mm_Ma_absThm.1 ∈ x_ws ∧ Cond.selects mm_Ma_absThm.1.cls mm_Ma_absThm.1 mm_Ma_absThm.1 ∈ x_ws := ⟨x_at 468 (by decide +kernel) rfl, x_at 469 (by decide +kernel) rfl⟩
theorem lc_Ma_inst : x_cd mm_Ma_inst 0 := ⟨x_at 482 (by decide +kernel) rfl, x_at 1 (by decide +kernel) rfl, by decide +kernel, by decide +kernel, by decide +kernel⟩
theorem li_Ma_inst : Cond.instanceMethod mm_Ma_inst.1 ∈ x_ws ∧ Cond.selects mm_Ma_inst.1.cls mm_Ma_inst.1 mm_Ma_inst.1 ∈ x_ws := ⟨x_at 480 (by decide +kernel) rfl, x_at 481 (by decide +kernel) rfl⟩
theorem lc_Ma_instType : x_cd mm_Ma_instType 1 := ⟨x_at 490 (by decide +kernel) rfl, x_at 1 (by decide +kernel) rfl, by decide +kernel, by decide +kernel, by decide +kernel⟩
theorem li_Ma_instType : Cond.instanceMethod mm_Ma_instType.1 ∈ x_ws ∧ Cond.selects mm_Ma_instType.1.cls mm_Ma_instType.1 mm_Ma_instType.1 ∈ x_ws := ⟨x_at 488 (by decide +kernel) rfl, x_at 489 (by decide +kernel) rfl⟩
theorem lc_Ma_keep : x_cd mm_Ma_keep 1 := ⟨x_at 499 (by decide +kernel) rfl, x_at 1 (by decide +kernel) rfl, by decide +kernel, by decide +kernel, by decide +kernel⟩
theorem li_Ma_keep : Cond.instanceMethod mm_Ma_keep.1 ∈ x_ws ∧ Cond.selects mm_Ma_keep.1.cls mm_Ma_keep.1 mm_Ma_keep.1 ∈ x_ws := ⟨x_at 497 (by decide +kernel) rfl, x_at 498 (by decide +kernel) rfl⟩
theorem lc_Ma_fetch : x_cd mm_Ma_fetch 1 := ⟨x_at 503 (by decide +kernel) rfl, x_at 1 (by decide +kernel) rfl, by decide +kernel, by decide +kernel, by decide +kernel⟩
theorem li_Ma_fetch : Cond.instanceMethod mm_Ma_fetch.1 ∈ x_ws ∧ Cond.selects mm_Ma_fetch.1.cls mm_Ma_fetch.1 mm_Ma_fetch.1 ∈ x_ws := ⟨x_at 501 (by decide +kernel) rfl, x_at 502 (by decide +kernel) rfl⟩
theorem lc_Ma_pop : x_cd mm_Ma_pop 0 := ⟨x_at 511 (by decide +kernel) rfl, x_at 1 (by decide +kernel) rfl, by decide +kernel, by decide +kernel, by decide +kernel⟩
theorem li_Ma_pop : Cond.instanceMethod mm_Ma_pop.1 ∈ x_ws ∧ Cond.selects mm_Ma_pop.1.cls mm_Ma_pop.1 mm_Ma_pop.1 ∈ x_ws := ⟨x_at 509 (by decide +kernel) rfl, x_at 510 (by decide +kernel) rfl⟩
theorem lc_Ma_export : x_cd mm_Ma_export 0 := ⟨x_at 515 (by decide +kernel) rfl, x_at 1 (by decide +kernel) rfl, by decide +kernel, by decide +kernel, by decide +kernel⟩
theorem li_Ma_export : Cond.instanceMethod mm_Ma_export.1 ∈ x_ws ∧ Cond.selects mm_Ma_export.1.cls mm_Ma_export.1 mm_Ma_export.1 ∈ x_ws := ⟨x_at 513 (by decide +kernel) rfl, x_at 514 (by decide +kernel) rfl⟩
theorem lc_Ma_count : x_cd mm_Ma_count 1 := ⟨x_at 519 (by decide +kernel) rfl, x_at 1 (by decide +kernel) rfl, by decide +kernel, by decide +kernel, by decide +kernel⟩
theorem li_Ma_count : Cond.instanceMethod mm_Ma_count.1 ∈ x_ws ∧ Cond.selects mm_Ma_count.1.cls mm_Ma_count.1 mm_Ma_count.1 ∈ x_ws := ⟨x_at 517 (by decide +kernel) rfl, x_at 518 (by decide +kernel) rfl⟩
theorem lc_Ma_kind : x_cd mm_Ma_kind 1 := ⟨x_at 523 (by decide +kernel) rfl, x_at 1 (by decide +kernel) rfl, by decide +kernel, by decide +kernel, by decide +kernel⟩
theorem li_Ma_kind : Cond.instanceMethod mm_Ma_kind.1 ∈ x_ws ∧ Cond.selects mm_Ma_kind.1.cls mm_Ma_kind.1 mm_Ma_kind.1 ∈ x_ws := ⟨x_at 521 (by decide +kernel) rfl, x_at 522 (by decide +kernel) rfl⟩
theorem lc_Ma_hypotheses : x_cd mm_Ma_hypotheses 1 := ⟨x_at 535 (by decide +kernel) rfl, x_at 1 (by decide +kernel) rfl, by decide +kernel, by decide +kernel, by decide +kernel⟩
theorem li_Ma_hypotheses : Cond.instanceMethod mm_Ma_hypotheses.1 ∈ x_ws ∧ Cond.selects mm_Ma_hypotheses.1.cls mm_Ma_hypotheses.1 mm_Ma_hypotheses.1 ∈ x_ws := ⟨x_at 533 (by decide +kernel) rfl, x_at 534 (by decide +kernel) rfl⟩
theorem lc_Ma_length : x_cd mm_Ma_length 2 := ⟨x_at 539 (by decide +kernel) rfl, x_at 1 (by decide +kernel) rfl, by decide +kernel, by decide +kernel, by decide +kernel⟩
theorem li_Ma_length : Cond.instanceMethod mm_Ma_length.1 ∈ x_ws ∧ Cond.selects mm_Ma_length.1.cls mm_Ma_length.1 mm_Ma_length.1 ∈ x_ws := ⟨x_at 537 (by decide +kernel) rfl, x_at 538 (by decide +kernel) rfl⟩
theorem lc_Ma_symbol : x_cd mm_Ma_symbol 3 := ⟨x_at 551 (by decide +kernel) rfl, x_at 1 (by decide +kernel) rfl, by decide +kernel, by decide +kernel, by decide +kernel⟩
theorem li_Ma_symbol : Cond.instanceMethod mm_Ma_symbol.1 ∈ x_ws ∧ Cond.selects mm_Ma_symbol.1.cls mm_Ma_symbol.1 mm_Ma_symbol.1 ∈ x_ws := ⟨x_at 549 (by decide +kernel) rfl, x_at 550 (by decide +kernel) rfl⟩
theorem lc_Ma_assume : x_cd mm_Ma_assume 1 := ⟨x_at 355 (by decide +kernel) rfl, x_at 1 (by decide +kernel) rfl, by decide +kernel, by decide +kernel, by decide +kernel⟩
theorem li_Ma_assume : Cond.instanceMethod mm_Ma_assume.1 ∈ x_ws ∧ Cond.selects mm_Ma_assume.1.cls mm_Ma_assume.1 mm_Ma_assume.1 ∈ x_ws := ⟨x_at 354 (by decide +kernel) rfl, x_sel (q := (mm_Ma_assume.1, 9)) 14 (by decide +kernel)⟩
theorem lc_Ma_reduce : x_cd mm_Ma_reduce 1 := ⟨x_at 368 (by decide +kernel) rfl, x_at 1 (by decide +kernel) rfl, by decide +kernel, by decide +kernel, by decide +kernel⟩
theorem li_Ma_reduce : Cond.instanceMethod mm_Ma_reduce.1 ∈ x_ws ∧ Cond.selects mm_Ma_reduce.1.cls mm_Ma_reduce.1 mm_Ma_reduce.1 ∈ x_ws := ⟨x_at 367 (by decide +kernel) rfl, x_sel (q := (mm_Ma_reduce.1, 9)) 15 (by decide +kernel)⟩
theorem lc_Ma_addAxiom : x_cd mm_Ma_addAxiom 1 := ⟨x_at 386 (by decide +kernel) rfl, x_at 1 (by decide +kernel) rfl, by decide +kernel, by decide +kernel, by decide +kernel⟩
theorem li_Ma_addAxiom : Cond.instanceMethod mm_Ma_addAxiom.1 ∈ x_ws ∧ Cond.selects mm_Ma_addAxiom.1.cls mm_Ma_addAxiom.1 mm_Ma_addAxiom.1 ∈ x_ws := ⟨x_at 385 (by decide +kernel) rfl, x_sel (q := (mm_Ma_addAxiom.1, 9)) 16 (by decide +kernel)⟩
theorem lc_Ma_define : x_cd mm_Ma_define 1 := ⟨x_at 394 (by decide +kernel) rfl, x_at 1 (by decide +kernel) rfl, by decide +kernel, by decide +kernel, by decide +kernel⟩
theorem li_Ma_define : Cond.instanceMethod mm_Ma_define.1 ∈ x_ws ∧ Cond.selects mm_Ma_define.1.cls mm_Ma_define.1 mm_Ma_define.1 ∈ x_ws := ⟨x_at 393 (by decide +kernel) rfl, x_sel (q := (mm_Ma_define.1, 9)) 17 (by decide +kernel)⟩
theorem lc_Ma_followEquation : x_cd mm_Ma_followEquation 2 := ⟨x_at 418 (by decide +kernel) rfl, x_at 1 (by decide +kernel) rfl, by decide +kernel, by decide +kernel, by decide +kernel⟩
theorem li_Ma_followEquation : Cond.instanceMethod mm_Ma_followEquation.1 ∈ x_ws ∧ Cond.selects mm_Ma_followEquation.1.cls mm_Ma_followEquation.1 mm_Ma_followEquation.1 ∈ x_ws := ⟨x_at 417 (by decide +kernel) rfl, x_sel (q := (mm_Ma_followEquation.1, 9)) 18 (by decide +kernel)⟩
theorem lc_Ma_applyEquations : x_cd mm_Ma_applyEquations 2 := ⟨x_at 457 (by decide +kernel) rfl, x_at 1 (by decide +kernel) rfl, by decide +kernel, by decide +kernel, by decide +kernel⟩
theorem li_Ma_applyEquations : Cond.instanceMethod mm_Ma_applyEquations.1 ∈ x_ws ∧ Cond.selects mm_Ma_applyEquations.1.cls mm_Ma_applyEquations.1 mm_Ma_applyEquations.1 ∈ x_ws := ⟨x_at 456 (by decide +kernel) rfl, x_sel (q := (mm_Ma_applyEquations.1, 9)) 21 (by decide +kernel)⟩
theorem lc_Ma_deduct : x_cd mm_Ma_deduct 2 := ⟨x_at 462 (by decide +kernel) rfl, x_at 1 (by decide +kernel) rfl, by decide +kernel, by decide +kernel, by decide +kernel⟩
theorem li_Ma_deduct : Cond.instanceMethod mm_Ma_deduct.1 ∈ x_ws ∧ Cond.selects mm_Ma_deduct.1.cls mm_Ma_deduct.1 mm_Ma_deduct.1 ∈ x_ws := ⟨x_at 461 (by decide +kernel) rfl, x_sel (q := (mm_Ma_deduct.1, 9)) 22 (by decide +kernel)⟩
theorem lc_Ma_hypothesesOfBoth : x_cd mm_Ma_hypothesesOfBoth 2 := ⟨x_at 448 (by decide +kernel) rfl, x_at 1 (by decide +kernel) rfl, by decide +kernel, by decide +kernel, by decide +kernel⟩
theorem li_Ma_hypothesesOfBoth : Cond.instanceMethod mm_Ma_hypothesesOfBoth.1 ∈ x_ws ∧ Cond.selects mm_Ma_hypothesesOfBoth.1.cls mm_Ma_hypothesesOfBoth.1 mm_Ma_hypothesesOfBoth.1 ∈ x_ws := ⟨x_at 447 (by decide +kernel) rfl, x_sel (q := (mm_Ma_hypothesesOfBoth.1, 9)) 20 (by decide +kernel)⟩
theorem lc_Ma_equationIn : x_cd mm_Ma_equationIn 1 := ⟨x_at 422 (by decide +kernel) rfl, x_at 1 (by decide +kernel) rfl, by decide +kernel, by decide +kernel, by decide +kernel⟩
theorem li_Ma_equationIn : Cond.instanceMethod mm_Ma_equationIn.1 ∈ x_ws ∧ Cond.selects mm_Ma_equationIn.1.cls mm_Ma_equationIn.1 mm_Ma_equationIn.1 ∈ x_ws := ⟨x_at 421 (by decide +kernel) rfl, x_sel (q := (mm_Ma_equationIn.1, 9)) 19 (by decide +kernel)⟩
theorem lc_Ma_takesArgument : x_cd mm_Ma_takesArgument 2 := ⟨x_at 297 (by decide +kernel) rfl, x_at 1 (by decide +kernel) rfl, by decide +kernel, by decide +kernel, by decide +kernel⟩
theorem li_Ma_takesArgument : Cond.instanceMethod mm_Ma_takesArgument.1 ∈ x_ws ∧ Cond.selects mm_Ma_takesArgument.1.cls mm_Ma_takesArgument.1 mm_Ma_takesArgument.1 ∈ x_ws := ⟨x_at 296 (by decide +kernel) rfl, x_sel (q := (mm_Ma_takesArgument.1, 9)) 11 (by decide +kernel)⟩
theorem lc_Ma_finishType : x_cd mm_Ma_finishType 2 := ⟨x_at 177 (by decide +kernel) rfl, x_at 1 (by decide +kernel) rfl, by decide +kernel, by decide +kernel, by decide +kernel⟩
theorem li_Ma_finishType : Cond.instanceMethod mm_Ma_finishType.1 ∈ x_ws ∧ Cond.selects mm_Ma_finishType.1.cls mm_Ma_finishType.1 mm_Ma_finishType.1 ∈ x_ws := ⟨x_at 176 (by decide +kernel) rfl, x_sel (q := (mm_Ma_finishType.1, 9)) 2 (by decide +kernel)⟩
theorem lc_Ma_finishTerm : x_cd mm_Ma_finishTerm 2 := ⟨x_at 258 (by decide +kernel) rfl, x_at 1 (by decide +kernel) rfl, by decide +kernel, by decide +kernel, by decide +kernel⟩
theorem li_Ma_finishTerm : Cond.instanceMethod mm_Ma_finishTerm.1 ∈ x_ws ∧ Cond.selects mm_Ma_finishTerm.1.cls mm_Ma_finishTerm.1 mm_Ma_finishTerm.1 ∈ x_ws := ⟨x_at 257 (by decide +kernel) rfl, x_sel (q := (mm_Ma_finishTerm.1, 9)) 8 (by decide +kernel)⟩
theorem lc_Ma_finishTheorem : x_cd mm_Ma_finishTheorem 3 := ⟨x_at 351 (by decide +kernel) rfl, x_at 1 (by decide +kernel) rfl, by decide +kernel, by decide +kernel, by decide +kernel⟩
theorem li_Ma_finishTheorem : Cond.instanceMethod mm_Ma_finishTheorem.1 ∈ x_ws ∧ Cond.selects mm_Ma_finishTheorem.1.cls mm_Ma_finishTheorem.1 mm_Ma_finishTheorem.1 ∈ x_ws := ⟨x_at 350 (by decide +kernel) rfl, x_sel (q := (mm_Ma_finishTheorem.1, 9)) 13 (by decide +kernel)⟩
theorem lc_Ma_finish : x_cd mm_Ma_finish 2 := ⟨x_at 199 (by decide +kernel) rfl, x_at 1 (by decide +kernel) rfl, by decide +kernel, by decide +kernel, by decide +kernel⟩
theorem li_Ma_finish : Cond.instanceMethod mm_Ma_finish.1 ∈ x_ws ∧ Cond.selects mm_Ma_finish.1.cls mm_Ma_finish.1 mm_Ma_finish.1 ∈ x_ws := ⟨x_at 198 (by decide +kernel) rfl, x_sel (q := (mm_Ma_finish.1, 9)) 3 (by decide +kernel)⟩
theorem lc_Ma_finishEmptyHanded : x_cd mm_Ma_finishEmptyHanded 1 := ⟨x_at 211 (by decide +kernel) rfl, x_at 1 (by decide +kernel) rfl, by decide +kernel, by decide +kernel, by decide +kernel⟩
theorem li_Ma_finishEmptyHanded : Cond.instanceMethod mm_Ma_finishEmptyHanded.1 ∈ x_ws ∧ Cond.selects mm_Ma_finishEmptyHanded.1.cls mm_Ma_finishEmptyHanded.1 mm_Ma_finishEmptyHanded.1 ∈ x_ws := ⟨x_at 210 (by decide +kernel) rfl, x_sel (q := (mm_Ma_finishEmptyHanded.1, 9)) 4 (by decide +kernel)⟩
theorem lc_Ma_itemBelow : x_cd mm_Ma_itemBelow 2 := ⟨x_at 230 (by decide +kernel) rfl, x_at 1 (by decide +kernel) rfl, by decide +kernel, by decide +kernel, by decide +kernel⟩
theorem li_Ma_itemBelow : Cond.instanceMethod mm_Ma_itemBelow.1 ∈ x_ws ∧ Cond.selects mm_Ma_itemBelow.1.cls mm_Ma_itemBelow.1 mm_Ma_itemBelow.1 ∈ x_ws := ⟨x_at 229 (by decide +kernel) rfl, x_sel (q := (mm_Ma_itemBelow.1, 9)) 6 (by decide +kernel)⟩
theorem lc_Ma_rowBelow : x_cd mm_Ma_rowBelow 2 := ⟨x_at 226 (by decide +kernel) rfl, x_at 1 (by decide +kernel) rfl, by decide +kernel, by decide +kernel, by decide +kernel⟩
theorem li_Ma_rowBelow : Cond.instanceMethod mm_Ma_rowBelow.1 ∈ x_ws ∧ Cond.selects mm_Ma_rowBelow.1.cls mm_Ma_rowBelow.1 mm_Ma_rowBelow.1 ∈ x_ws := ⟨x_at 225 (by decide +kernel) rfl, x_sel (q := (mm_Ma_rowBelow.1, 9)) 5 (by decide +kernel)⟩
theorem lc_Ma_variableBelow : x_cd mm_Ma_variableBelow 1 := ⟨x_at 323 (by decide +kernel) rfl, x_at 1 (by decide +kernel) rfl, by decide +kernel, by decide +kernel, by decide +kernel⟩
theorem li_Ma_variableBelow : Cond.instanceMethod mm_Ma_variableBelow.1 ∈ x_ws ∧ Cond.selects mm_Ma_variableBelow.1.cls mm_Ma_variableBelow.1 mm_Ma_variableBelow.1 ∈ x_ws := ⟨x_at 322 (by decide +kernel) rfl, x_sel (q := (mm_Ma_variableBelow.1, 9)) 12 (by decide +kernel)⟩
theorem lc_Ma_keptFor : x_cd mm_Ma_keptFor 1 := ⟨x_at 507 (by decide +kernel) rfl, x_at 1 (by decide +kernel) rfl, by decide +kernel, by decide +kernel, by decide +kernel⟩
theorem li_Ma_keptFor : Cond.instanceMethod mm_Ma_keptFor.1 ∈ x_ws ∧ Cond.selects mm_Ma_keptFor.1.cls mm_Ma_keptFor.1 mm_Ma_keptFor.1 ∈ x_ws := ⟨x_at 506 (by decide +kernel) rfl, x_sel (q := (mm_Ma_keptFor.1, 9)) 23 (by decide +kernel)⟩
theorem lc_Ma_itemAt : x_cd mm_Ma_itemAt 1 := ⟨x_at 527 (by decide +kernel) rfl, x_at 1 (by decide +kernel) rfl, by decide +kernel, by decide +kernel, by decide +kernel⟩
theorem li_Ma_itemAt : Cond.instanceMethod mm_Ma_itemAt.1 ∈ x_ws ∧ Cond.selects mm_Ma_itemAt.1.cls mm_Ma_itemAt.1 mm_Ma_itemAt.1 ∈ x_ws := ⟨x_at 526 (by decide +kernel) rfl, x_sel (q := (mm_Ma_itemAt.1, 9)) 24 (by decide +kernel)⟩
theorem lc_Ma_partAt : x_cd mm_Ma_partAt 2 := ⟨x_at 543 (by decide +kernel) rfl, x_at 1 (by decide +kernel) rfl, by decide +kernel, by decide +kernel, by decide +kernel⟩
theorem li_Ma_partAt : Cond.instanceMethod mm_Ma_partAt.1 ∈ x_ws ∧ Cond.selects mm_Ma_partAt.1.cls mm_Ma_partAt.1 mm_Ma_partAt.1 ∈ x_ws := ⟨x_at 542 (by decide +kernel) rfl, x_sel (q := (mm_Ma_partAt.1, 9)) 25 (by decide +kernel)⟩
theorem lc_Re_init : x_cd mm_Re_init 0 := ⟨x_at 556 (by decide +kernel) rfl, x_at 6 (by decide +kernel) rfl, by decide +kernel, by decide +kernel, by decide +kernel⟩
theorem li_Re_init : Cond.instanceMethod mm_Re_init.1 ∈ x_ws ∧ mm_Re_init.1.name = "<init>" ∧ mm_Re_init.2.2.2.1 = none := ⟨x_at 555 (by decide +kernel) rfl, rfl, rfl⟩
theorem lc_Re_base : x_cd mm_Re_base 2 := ⟨x_at 626 (by decide +kernel) rfl, x_at 6 (by decide +kernel) rfl, by decide +kernel, by decide +kernel, by decide +kernel⟩
theorem li_Re_base : Cond.static mm_Re_base.1 ∈ x_ws := x_at 625 (by decide +kernel) rfl
theorem lc_Re_emit : x_cd mm_Re_emit 1 := ⟨x_at 619 (by decide +kernel) rfl, x_at 6 (by decide +kernel) rfl, by decide +kernel, by decide +kernel, by decide +kernel⟩
theorem li_Re_emit : Cond.instanceMethod mm_Re_emit.1 ∈ x_ws ∧ Cond.selects mm_Re_emit.1.cls mm_Re_emit.1 mm_Re_emit.1 ∈ x_ws := ⟨x_at 618 (by decide +kernel) rfl, x_sel (q := (mm_Re_emit.1, 15)) 28 (by decide +kernel)⟩
theorem lc_Re_emitRow : x_cd mm_Re_emitRow 2 := ⟨x_at 650 (by decide +kernel) rfl, x_at 6 (by decide +kernel) rfl, by decide +kernel, by decide +kernel, by decide +kernel⟩
theorem li_Re_emitRow : Cond.instanceMethod mm_Re_emitRow.1 ∈ x_ws ∧ Cond.selects mm_Re_emitRow.1.cls mm_Re_emitRow.1 mm_Re_emitRow.1 ∈ x_ws := ⟨x_at 649 (by decide +kernel) rfl, x_sel (q := (mm_Re_emitRow.1, 15)) 35 (by decide +kernel)⟩
theorem lc_Re_sameRow : x_cd mm_Re_sameRow 4 := ⟨x_at 686 (by decide +kernel) rfl, x_at 6 (by decide +kernel) rfl, by decide +kernel, by decide +kernel, by decide +kernel⟩
theorem li_Re_sameRow : Cond.instanceMethod mm_Re_sameRow.1 ∈ x_ws ∧ Cond.selects mm_Re_sameRow.1.cls mm_Re_sameRow.1 mm_Re_sameRow.1 ∈ x_ws := ⟨x_at 685 (by decide +kernel) rfl, x_sel (q := (mm_Re_sameRow.1, 15)) 41 (by decide +kernel)⟩
theorem lc_Re_skipType : x_cd mm_Re_skipType 1 := ⟨x_at 678 (by decide +kernel) rfl, x_at 6 (by decide +kernel) rfl, by decide +kernel, by decide +kernel, by decide +kernel⟩
theorem li_Re_skipType : Cond.instanceMethod mm_Re_skipType.1 ∈ x_ws ∧ Cond.selects mm_Re_skipType.1.cls mm_Re_skipType.1 mm_Re_skipType.1 ∈ x_ws := ⟨x_at 677 (by decide +kernel) rfl, x_sel (q := (mm_Re_skipType.1, 15)) 39 (by decide +kernel)⟩
theorem lc_Re_skipTerm : x_cd mm_Re_skipTerm 1 := ⟨x_at 710 (by decide +kernel) rfl, x_at 6 (by decide +kernel) rfl, by decide +kernel, by decide +kernel, by decide +kernel⟩
theorem li_Re_skipTerm : Cond.instanceMethod mm_Re_skipTerm.1 ∈ x_ws ∧ Cond.selects mm_Re_skipTerm.1.cls mm_Re_skipTerm.1 mm_Re_skipTerm.1 ∈ x_ws := ⟨x_at 709 (by decide +kernel) rfl, x_sel (q := (mm_Re_skipTerm.1, 15)) 46 (by decide +kernel)⟩
theorem lc_Re_depth : x_cd mm_Re_depth 2 := ⟨x_at 706 (by decide +kernel) rfl, x_at 6 (by decide +kernel) rfl, by decide +kernel, by decide +kernel, by decide +kernel⟩
theorem li_Re_depth : Cond.instanceMethod mm_Re_depth.1 ∈ x_ws ∧ Cond.selects mm_Re_depth.1.cls mm_Re_depth.1 mm_Re_depth.1 ∈ x_ws := ⟨x_at 705 (by decide +kernel) rfl, x_sel (q := (mm_Re_depth.1, 15)) 45 (by decide +kernel)⟩
theorem lc_Re_typeOf : x_cd mm_Re_typeOf 1 := ⟨x_at 674 (by decide +kernel) rfl, x_at 6 (by decide +kernel) rfl, by decide +kernel, by decide +kernel, by decide +kernel⟩
theorem li_Re_typeOf : Cond.instanceMethod mm_Re_typeOf.1 ∈ x_ws ∧ Cond.selects mm_Re_typeOf.1.cls mm_Re_typeOf.1 mm_Re_typeOf.1 ∈ x_ws := ⟨x_at 673 (by decide +kernel) rfl, x_sel (q := (mm_Re_typeOf.1, 15)) 38 (by decide +kernel)⟩
theorem lc_Re_equalAt : x_cd mm_Re_equalAt 2 := ⟨x_at 682 (by decide +kernel) rfl, x_at 6 (by decide +kernel) rfl, by decide +kernel, by decide +kernel, by decide +kernel⟩
theorem li_Re_equalAt : Cond.instanceMethod mm_Re_equalAt.1 ∈ x_ws ∧ Cond.selects mm_Re_equalAt.1.cls mm_Re_equalAt.1 mm_Re_equalAt.1 ∈ x_ws := ⟨x_at 681 (by decide +kernel) rfl, x_sel (q := (mm_Re_equalAt.1, 15)) 40 (by decide +kernel)⟩
theorem lc_Re_isEquation : x_cd mm_Re_isEquation 1 := ⟨x_at 762 (by decide +kernel) rfl, x_at 6 (by decide +kernel) rfl, by decide +kernel, by decide +kernel, by decide +kernel⟩
theorem li_Re_isEquation : Cond.instanceMethod mm_Re_isEquation.1 ∈ x_ws ∧ Cond.selects mm_Re_isEquation.1.cls mm_Re_isEquation.1 mm_Re_isEquation.1 ∈ x_ws := ⟨x_at 761 (by decide +kernel) rfl, x_sel (q := (mm_Re_isEquation.1, 15)) 57 (by decide +kernel)⟩
theorem lc_Re_left : x_cd mm_Re_left 1 := ⟨x_at 766 (by decide +kernel) rfl, x_at 6 (by decide +kernel) rfl, by decide +kernel, by decide +kernel, by decide +kernel⟩
theorem li_Re_left : Cond.instanceMethod mm_Re_left.1 ∈ x_ws ∧ Cond.selects mm_Re_left.1.cls mm_Re_left.1 mm_Re_left.1 ∈ x_ws := ⟨x_at 765 (by decide +kernel) rfl, x_sel (q := (mm_Re_left.1, 15)) 58 (by decide +kernel)⟩
theorem lc_Re_begin : x_cd mm_Re_begin 0 := ⟨x_at 615 (by decide +kernel) rfl, x_at 6 (by decide +kernel) rfl, by decide +kernel, by decide +kernel, by decide +kernel⟩
theorem li_Re_begin : Cond.instanceMethod mm_Re_begin.1 ∈ x_ws ∧ Cond.selects mm_Re_begin.1.cls mm_Re_begin.1 mm_Re_begin.1 ∈ x_ws := ⟨x_at 614 (by decide +kernel) rfl, x_sel (q := (mm_Re_begin.1, 15)) 27 (by decide +kernel)⟩
theorem lc_Re_part : x_cd mm_Re_part 2 := ⟨x_at 623 (by decide +kernel) rfl, x_at 6 (by decide +kernel) rfl, by decide +kernel, by decide +kernel, by decide +kernel⟩
theorem li_Re_part : Cond.instanceMethod mm_Re_part.1 ∈ x_ws ∧ Cond.selects mm_Re_part.1.cls mm_Re_part.1 mm_Re_part.1 ∈ x_ws := ⟨x_at 622 (by decide +kernel) rfl, x_sel (q := (mm_Re_part.1, 15)) 29 (by decide +kernel)⟩
theorem lc_Re_compare : x_cd mm_Re_compare 4 := ⟨x_at 730 (by decide +kernel) rfl, x_at 6 (by decide +kernel) rfl, by decide +kernel, by decide +kernel, by decide +kernel⟩
theorem li_Re_compare : Cond.instanceMethod mm_Re_compare.1 ∈ x_ws ∧ Cond.selects mm_Re_compare.1.cls mm_Re_compare.1 mm_Re_compare.1 ∈ x_ws := ⟨x_at 729 (by decide +kernel) rfl, x_sel (q := (mm_Re_compare.1, 15)) 50 (by decide +kernel)⟩
theorem lc_Re_hypothesis : x_cd mm_Re_hypothesis 1 := ⟨x_at 726 (by decide +kernel) rfl, x_at 6 (by decide +kernel) rfl, by decide +kernel, by decide +kernel, by decide +kernel⟩
theorem li_Re_hypothesis : Cond.instanceMethod mm_Re_hypothesis.1 ∈ x_ws ∧ Cond.selects mm_Re_hypothesis.1.cls mm_Re_hypothesis.1 mm_Re_hypothesis.1 ∈ x_ws := ⟨x_at 725 (by decide +kernel) rfl, x_sel (q := (mm_Re_hypothesis.1, 15)) 49 (by decide +kernel)⟩
theorem lc_Re_movePart : x_cd mm_Re_movePart 4 := ⟨x_at 638 (by decide +kernel) rfl, x_at 6 (by decide +kernel) rfl, by decide +kernel, by decide +kernel, by decide +kernel⟩
theorem li_Re_movePart : Cond.instanceMethod mm_Re_movePart.1 ∈ x_ws ∧ Cond.selects mm_Re_movePart.1.cls mm_Re_movePart.1 mm_Re_movePart.1 ∈ x_ws := ⟨x_at 637 (by decide +kernel) rfl, x_sel (q := (mm_Re_movePart.1, 15)) 32 (by decide +kernel)⟩
theorem lc_Re_copyObject : x_cd mm_Re_copyObject 2 := ⟨x_at 634 (by decide +kernel) rfl, x_at 6 (by decide +kernel) rfl, by decide +kernel, by decide +kernel, by decide +kernel⟩
theorem li_Re_copyObject : Cond.instanceMethod mm_Re_copyObject.1 ∈ x_ws ∧ Cond.selects mm_Re_copyObject.1.cls mm_Re_copyObject.1 mm_Re_copyObject.1 ∈ x_ws := ⟨x_at 633 (by decide +kernel) rfl, x_sel (q := (mm_Re_copyObject.1, 15)) 31 (by decide +kernel)⟩
theorem lc_Re_bring : x_cd mm_Re_bring 3 := ⟨x_at 758 (by decide +kernel) rfl, x_at 6 (by decide +kernel) rfl, by decide +kernel, by decide +kernel, by decide +kernel⟩
theorem li_Re_bring : Cond.instanceMethod mm_Re_bring.1 ∈ x_ws ∧ Cond.selects mm_Re_bring.1.cls mm_Re_bring.1 mm_Re_bring.1 ∈ x_ws := ⟨x_at 757 (by decide +kernel) rfl, x_sel (q := (mm_Re_bring.1, 15)) 56 (by decide +kernel)⟩
theorem lc_Re_beginEquation : x_cd mm_Re_beginEquation 2 := ⟨x_at 742 (by decide +kernel) rfl, x_at 6 (by decide +kernel) rfl, by decide +kernel, by decide +kernel, by decide +kernel⟩
theorem li_Re_beginEquation : Cond.instanceMethod mm_Re_beginEquation.1 ∈ x_ws ∧ Cond.selects mm_Re_beginEquation.1.cls mm_Re_beginEquation.1 mm_Re_beginEquation.1 ∈ x_ws := ⟨x_at 741 (by decide +kernel) rfl, x_sel (q := (mm_Re_beginEquation.1, 15)) 53 (by decide +kernel)⟩
theorem lc_Re_done : x_cd mm_Re_done 1 := ⟨x_at 630 (by decide +kernel) rfl, x_at 6 (by decide +kernel) rfl, by decide +kernel, by decide +kernel, by decide +kernel⟩
theorem li_Re_done : Cond.instanceMethod mm_Re_done.1 ∈ x_ws ∧ Cond.selects mm_Re_done.1.cls mm_Re_done.1 mm_Re_done.1 ∈ x_ws := ⟨x_at 629 (by decide +kernel) rfl, x_sel (q := (mm_Re_done.1, 15)) 30 (by decide +kernel)⟩
theorem lc_Re_top : x_cd mm_Re_top 1 := ⟨x_at 611 (by decide +kernel) rfl, x_at 6 (by decide +kernel) rfl, by decide +kernel, by decide +kernel, by decide +kernel⟩
theorem li_Re_top : Cond.instanceMethod mm_Re_top.1 ∈ x_ws ∧ Cond.selects mm_Re_top.1.cls mm_Re_top.1 mm_Re_top.1 ∈ x_ws := ⟨x_at 610 (by decide +kernel) rfl, x_sel (q := (mm_Re_top.1, 15)) 26 (by decide +kernel)⟩
theorem lc_Re_variable : x_cd mm_Re_variable 1 := ⟨x_at 694 (by decide +kernel) rfl, x_at 6 (by decide +kernel) rfl, by decide +kernel, by decide +kernel, by decide +kernel⟩
theorem li_Re_variable : Cond.instanceMethod mm_Re_variable.1 ∈ x_ws ∧ Cond.selects mm_Re_variable.1.cls mm_Re_variable.1 mm_Re_variable.1 ∈ x_ws := ⟨x_at 693 (by decide +kernel) rfl, x_sel (q := (mm_Re_variable.1, 15)) 42 (by decide +kernel)⟩
theorem lc_Re_rowOf : x_cd mm_Re_rowOf 1 := ⟨x_at 642 (by decide +kernel) rfl, x_at 6 (by decide +kernel) rfl, by decide +kernel, by decide +kernel, by decide +kernel⟩
theorem li_Re_rowOf : Cond.instanceMethod mm_Re_rowOf.1 ∈ x_ws ∧ Cond.selects mm_Re_rowOf.1.cls mm_Re_rowOf.1 mm_Re_rowOf.1 ∈ x_ws := ⟨x_at 641 (by decide +kernel) rfl, x_sel (q := (mm_Re_rowOf.1, 15)) 33 (by decide +kernel)⟩
theorem lc_Re_rowEnd : x_cd mm_Re_rowEnd 1 := ⟨x_at 646 (by decide +kernel) rfl, x_at 6 (by decide +kernel) rfl, by decide +kernel, by decide +kernel, by decide +kernel⟩
theorem li_Re_rowEnd : Cond.instanceMethod mm_Re_rowEnd.1 ∈ x_ws ∧ Cond.selects mm_Re_rowEnd.1.cls mm_Re_rowEnd.1 mm_Re_rowEnd.1 ∈ x_ws := ⟨x_at 645 (by decide +kernel) rfl, x_sel (q := (mm_Re_rowEnd.1, 15)) 34 (by decide +kernel)⟩
theorem lc_Re_type : x_cd mm_Re_type 1 := ⟨x_at 607 (by decide +kernel) rfl, x_at 6 (by decide +kernel) rfl, by decide +kernel, by decide +kernel, by decide +kernel⟩
theorem li_Re_type : Cond.instanceMethod mm_Re_type.1 ∈ x_ws ∧ Cond.selects mm_Re_type.1.cls mm_Re_type.1 mm_Re_type.1 ∈ x_ws := ⟨x_at 605 (by decide +kernel) rfl, x_at 606 (by decide +kernel) rfl⟩
theorem lc_Re_leaf : x_cd mm_Re_leaf 2 := ⟨x_at 658 (by decide +kernel) rfl, x_at 6 (by decide +kernel) rfl, by decide +kernel, by decide +kernel, by decide +kernel⟩
theorem li_Re_leaf : Cond.instanceMethod mm_Re_leaf.1 ∈ x_ws ∧ Cond.selects mm_Re_leaf.1.cls mm_Re_leaf.1 mm_Re_leaf.1 ∈ x_ws := ⟨x_at 657 (by decide +kernel) rfl, x_sel (q := (mm_Re_leaf.1, 15)) 36 (by decide +kernel)⟩
theorem lc_Re_var : x_cd mm_Re_var 1 := ⟨x_at 654 (by decide +kernel) rfl, x_at 6 (by decide +kernel) rfl, by decide +kernel, by decide +kernel, by decide +kernel⟩
theorem li_Re_var : Cond.instanceMethod mm_Re_var.1 ∈ x_ws ∧ Cond.selects mm_Re_var.1.cls mm_Re_var.1 mm_Re_var.1 ∈ x_ws := ⟨x_at 652 (by decide +kernel) rfl, x_at 653 (by decide +kernel) rfl⟩
theorem lc_Re_constant : x_cd mm_Re_constant 1 := ⟨x_at 662 (by decide +kernel) rfl, x_at 6 (by decide +kernel) rfl, by decide +kernel, by decide +kernel, by decide +kernel⟩
theorem li_Re_constant : Cond.instanceMethod mm_Re_constant.1 ∈ x_ws ∧ Cond.selects mm_Re_constant.1.cls mm_Re_constant.1 mm_Re_constant.1 ∈ x_ws := ⟨x_at 660 (by decide +kernel) rfl, x_at 661 (by decide +kernel) rfl⟩
theorem lc_Re_fits : x_cd mm_Re_fits 2 := ⟨x_at 670 (by decide +kernel) rfl, x_at 6 (by decide +kernel) rfl, by decide +kernel, by decide +kernel, by decide +kernel⟩
theorem li_Re_fits : Cond.instanceMethod mm_Re_fits.1 ∈ x_ws ∧ Cond.selects mm_Re_fits.1.cls mm_Re_fits.1 mm_Re_fits.1 ∈ x_ws := ⟨x_at 669 (by decide +kernel) rfl, x_sel (q := (mm_Re_fits.1, 15)) 37 (by decide +kernel)⟩
theorem lc_Re_app : x_cd mm_Re_app 0 := ⟨x_at 666 (by decide +kernel) rfl, x_at 6 (by decide +kernel) rfl, by decide +kernel, by decide +kernel, by decide +kernel⟩
theorem li_Re_app : Cond.instanceMethod mm_Re_app.1 ∈ x_ws ∧ Cond.selects mm_Re_app.1.cls mm_Re_app.1 mm_Re_app.1 ∈ x_ws := ⟨x_at 664 (by decide +kernel) rfl, x_at 665 (by decide +kernel) rfl⟩
theorem lc_Re_stands : x_cd mm_Re_stands 3 := ⟨x_at 702 (by decide +kernel) rfl, x_at 6 (by decide +kernel) rfl, by decide +kernel, by decide +kernel, by decide +kernel⟩
theorem li_Re_stands : Cond.instanceMethod mm_Re_stands.1 ∈ x_ws ∧ Cond.selects mm_Re_stands.1.cls mm_Re_stands.1 mm_Re_stands.1 ∈ x_ws := ⟨x_at 701 (by decide +kernel) rfl, x_sel (q := (mm_Re_stands.1, 15)) 44 (by decide +kernel)⟩
theorem lc_Re_emitAbs : x_cd mm_Re_emitAbs 4 := ⟨x_at 698 (by decide +kernel) rfl, x_at 6 (by decide +kernel) rfl, by decide +kernel, by decide +kernel, by decide +kernel⟩
theorem li_Re_emitAbs : Cond.instanceMethod mm_Re_emitAbs.1 ∈ x_ws ∧ Cond.selects mm_Re_emitAbs.1.cls mm_Re_emitAbs.1 mm_Re_emitAbs.1 ∈ x_ws := ⟨x_at 697 (by decide +kernel) rfl, x_sel (q := (mm_Re_emitAbs.1, 15)) 43 (by decide +kernel)⟩
theorem lc_Re_abs : x_cd mm_Re_abs 0 := ⟨x_at 690 (by decide +kernel) rfl, x_at 6 (by decide +kernel) rfl, by decide +kernel, by decide +kernel, by decide +kernel⟩
theorem li_Re_abs : Cond.instanceMethod mm_Re_abs.1 ∈ x_ws ∧ Cond.selects mm_Re_abs.1.cls mm_Re_abs.1 mm_Re_abs.1 ∈ x_ws := ⟨x_at 688 (by decide +kernel) rfl, x_at 689 (by decide +kernel) rfl⟩
theorem lc_Re_isBool : x_cd mm_Re_isBool 2 := ⟨x_at 718 (by decide +kernel) rfl, x_at 6 (by decide +kernel) rfl, by decide +kernel, by decide +kernel, by decide +kernel⟩
theorem li_Re_isBool : Cond.instanceMethod mm_Re_isBool.1 ∈ x_ws ∧ Cond.selects mm_Re_isBool.1.cls mm_Re_isBool.1 mm_Re_isBool.1 ∈ x_ws := ⟨x_at 717 (by decide +kernel) rfl, x_sel (q := (mm_Re_isBool.1, 15)) 47 (by decide +kernel)⟩
theorem lc_Re_theorem : x_cd mm_Re_theorem 1 := ⟨x_at 714 (by decide +kernel) rfl, x_at 6 (by decide +kernel) rfl, by decide +kernel, by decide +kernel, by decide +kernel⟩
theorem li_Re_theorem : Cond.instanceMethod mm_Re_theorem.1 ∈ x_ws ∧ Cond.selects mm_Re_theorem.1.cls mm_Re_theorem.1 mm_Re_theorem.1 ∈ x_ws := ⟨x_at 712 (by decide +kernel) rfl, x_at 713 (by decide +kernel) rfl⟩
theorem lc_Re_claim : x_cd mm_Re_claim 3 := ⟨x_at 722 (by decide +kernel) rfl, x_at 6 (by decide +kernel) rfl, by decide +kernel, by decide +kernel, by decide +kernel⟩
theorem li_Re_claim : Cond.instanceMethod mm_Re_claim.1 ∈ x_ws ∧ Cond.selects mm_Re_claim.1.cls mm_Re_claim.1 mm_Re_claim.1 ∈ x_ws := ⟨x_at 721 (by decide +kernel) rfl, x_sel (q := (mm_Re_claim.1, 15)) 48 (by decide +kernel)⟩
theorem lc_Re_define : x_cd mm_Re_define 2 := ⟨x_at 750 (by decide +kernel) rfl, x_at 6 (by decide +kernel) rfl, by decide +kernel, by decide +kernel, by decide +kernel⟩
theorem li_Re_define : Cond.instanceMethod mm_Re_define.1 ∈ x_ws ∧ Cond.selects mm_Re_define.1.cls mm_Re_define.1 mm_Re_define.1 ∈ x_ws := ⟨x_at 749 (by decide +kernel) rfl, x_sel (q := (mm_Re_define.1, 15)) 55 (by decide +kernel)⟩
theorem lc_Re_reduce : x_cd mm_Re_reduce 2 := ⟨x_at 746 (by decide +kernel) rfl, x_at 6 (by decide +kernel) rfl, by decide +kernel, by decide +kernel, by decide +kernel⟩
theorem li_Re_reduce : Cond.instanceMethod mm_Re_reduce.1 ∈ x_ws ∧ Cond.selects mm_Re_reduce.1.cls mm_Re_reduce.1 mm_Re_reduce.1 ∈ x_ws := ⟨x_at 745 (by decide +kernel) rfl, x_sel (q := (mm_Re_reduce.1, 15)) 54 (by decide +kernel)⟩
theorem lc_Re_closed : x_cd mm_Re_closed 4 := ⟨x_at 734 (by decide +kernel) rfl, x_at 6 (by decide +kernel) rfl, by decide +kernel, by decide +kernel, by decide +kernel⟩
theorem li_Re_closed : Cond.instanceMethod mm_Re_closed.1 ∈ x_ws ∧ Cond.selects mm_Re_closed.1.cls mm_Re_closed.1 mm_Re_closed.1 ∈ x_ws := ⟨x_at 733 (by decide +kernel) rfl, x_sel (q := (mm_Re_closed.1, 15)) 51 (by decide +kernel)⟩
theorem lc_Re_occurs : x_cd mm_Re_occurs 3 := ⟨x_at 738 (by decide +kernel) rfl, x_at 6 (by decide +kernel) rfl, by decide +kernel, by decide +kernel, by decide +kernel⟩
theorem li_Re_occurs : Cond.instanceMethod mm_Re_occurs.1 ∈ x_ws ∧ Cond.selects mm_Re_occurs.1.cls mm_Re_occurs.1 mm_Re_occurs.1 ∈ x_ws := ⟨x_at 737 (by decide +kernel) rfl, x_sel (q := (mm_Re_occurs.1, 15)) 52 (by decide +kernel)⟩
theorem lc_Re_join : x_cd mm_Re_join 1 := ⟨x_at 754 (by decide +kernel) rfl, x_at 6 (by decide +kernel) rfl, by decide +kernel, by decide +kernel, by decide +kernel⟩
theorem li_Re_join : Cond.instanceMethod mm_Re_join.1 ∈ x_ws ∧ Cond.selects mm_Re_join.1.cls mm_Re_join.1 mm_Re_join.1 ∈ x_ws := ⟨x_at 752 (by decide +kernel) rfl, x_at 753 (by decide +kernel) rfl⟩
theorem lc_Re_applied : x_cd mm_Re_applied 5 := ⟨x_at 770 (by decide +kernel) rfl, x_at 6 (by decide +kernel) rfl, by decide +kernel, by decide +kernel, by decide +kernel⟩
theorem li_Re_applied : Cond.instanceMethod mm_Re_applied.1 ∈ x_ws ∧ Cond.selects mm_Re_applied.1.cls mm_Re_applied.1 mm_Re_applied.1 ∈ x_ws := ⟨x_at 769 (by decide +kernel) rfl, x_sel (q := (mm_Re_applied.1, 15)) 59 (by decide +kernel)⟩
theorem lc_Re_free : x_cd mm_Re_free 4 := ⟨x_at 778 (by decide +kernel) rfl, x_at 6 (by decide +kernel) rfl, by decide +kernel, by decide +kernel, by decide +kernel⟩
theorem li_Re_free : Cond.instanceMethod mm_Re_free.1 ∈ x_ws ∧ Cond.selects mm_Re_free.1.cls mm_Re_free.1 mm_Re_free.1 ∈ x_ws := ⟨x_at 777 (by decide +kernel) rfl, x_sel (q := (mm_Re_free.1, 15)) 60 (by decide +kernel)⟩
theorem lc_Re_absThm : x_cd mm_Re_absThm 0 := ⟨x_at 774 (by decide +kernel) rfl, x_at 6 (by decide +kernel) rfl, by decide +kernel, by decide +kernel, by decide +kernel⟩
theorem li_Re_absThm : Cond.instanceMethod mm_Re_absThm.1 ∈ x_ws ∧ Cond.selects mm_Re_absThm.1.cls mm_Re_absThm.1 mm_Re_absThm.1 ∈ x_ws := ⟨x_at 772 (by decide +kernel) rfl, x_at 773 (by decide +kernel) rfl⟩
theorem lc_Re_replaced : x_cd mm_Re_replaced 6 := ⟨x_at 786 (by decide +kernel) rfl, x_at 6 (by decide +kernel) rfl, by decide +kernel, by decide +kernel, by decide +kernel⟩
theorem li_Re_replaced : Cond.instanceMethod mm_Re_replaced.1 ∈ x_ws ∧ Cond.selects mm_Re_replaced.1.cls mm_Re_replaced.1 mm_Re_replaced.1 ∈ x_ws := ⟨x_at 785 (by decide +kernel) rfl, x_sel (q := (mm_Re_replaced.1, 15)) 61 (by decide +kernel)⟩
theorem lc_Re_inst : x_cd mm_Re_inst 0 := ⟨x_at 782 (by decide +kernel) rfl, x_at 6 (by decide +kernel) rfl, by decide +kernel, by decide +kernel, by decide +kernel⟩
theorem li_Re_inst : Cond.instanceMethod mm_Re_inst.1 ∈ x_ws ∧ Cond.selects mm_Re_inst.1.cls mm_Re_inst.1 mm_Re_inst.1 ∈ x_ws := ⟨x_at 780 (by decide +kernel) rfl, x_at 781 (by decide +kernel) rfl⟩
theorem lc_Re_retyped : x_cd mm_Re_retyped 5 := ⟨x_at 794 (by decide +kernel) rfl, x_at 6 (by decide +kernel) rfl, by decide +kernel, by decide +kernel, by decide +kernel⟩
theorem li_Re_retyped : Cond.instanceMethod mm_Re_retyped.1 ∈ x_ws ∧ Cond.selects mm_Re_retyped.1.cls mm_Re_retyped.1 mm_Re_retyped.1 ∈ x_ws := ⟨x_at 793 (by decide +kernel) rfl, x_sel (q := (mm_Re_retyped.1, 15)) 62 (by decide +kernel)⟩
theorem lc_Re_instType : x_cd mm_Re_instType 1 := ⟨x_at 790 (by decide +kernel) rfl, x_at 6 (by decide +kernel) rfl, by decide +kernel, by decide +kernel, by decide +kernel⟩
theorem li_Re_instType : Cond.instanceMethod mm_Re_instType.1 ∈ x_ws ∧ Cond.selects mm_Re_instType.1.cls mm_Re_instType.1 mm_Re_instType.1 ∈ x_ws := ⟨x_at 788 (by decide +kernel) rfl, x_at 789 (by decide +kernel) rfl⟩
theorem lc_Re_keep : x_cd mm_Re_keep 1 := ⟨x_at 798 (by decide +kernel) rfl, x_at 6 (by decide +kernel) rfl, by decide +kernel, by decide +kernel, by decide +kernel⟩
theorem li_Re_keep : Cond.instanceMethod mm_Re_keep.1 ∈ x_ws ∧ Cond.selects mm_Re_keep.1.cls mm_Re_keep.1 mm_Re_keep.1 ∈ x_ws := ⟨x_at 796 (by decide +kernel) rfl, x_at 797 (by decide +kernel) rfl⟩
theorem lc_Re_fetch : x_cd mm_Re_fetch 1 := ⟨x_at 802 (by decide +kernel) rfl, x_at 6 (by decide +kernel) rfl, by decide +kernel, by decide +kernel, by decide +kernel⟩
theorem li_Re_fetch : Cond.instanceMethod mm_Re_fetch.1 ∈ x_ws ∧ Cond.selects mm_Re_fetch.1.cls mm_Re_fetch.1 mm_Re_fetch.1 ∈ x_ws := ⟨x_at 800 (by decide +kernel) rfl, x_at 801 (by decide +kernel) rfl⟩
theorem lc_Re_pop : x_cd mm_Re_pop 0 := ⟨x_at 806 (by decide +kernel) rfl, x_at 6 (by decide +kernel) rfl, by decide +kernel, by decide +kernel, by decide +kernel⟩
theorem li_Re_pop : Cond.instanceMethod mm_Re_pop.1 ∈ x_ws ∧ Cond.selects mm_Re_pop.1.cls mm_Re_pop.1 mm_Re_pop.1 ∈ x_ws := ⟨x_at 804 (by decide +kernel) rfl, x_at 805 (by decide +kernel) rfl⟩
theorem lc_Re_export : x_cd mm_Re_export 0 := ⟨x_at 810 (by decide +kernel) rfl, x_at 6 (by decide +kernel) rfl, by decide +kernel, by decide +kernel, by decide +kernel⟩
theorem li_Re_export : Cond.instanceMethod mm_Re_export.1 ∈ x_ws ∧ Cond.selects mm_Re_export.1.cls mm_Re_export.1 mm_Re_export.1 ∈ x_ws := ⟨x_at 808 (by decide +kernel) rfl, x_at 809 (by decide +kernel) rfl⟩
theorem lc_Re_count : x_cd mm_Re_count 1 := ⟨x_at 814 (by decide +kernel) rfl, x_at 6 (by decide +kernel) rfl, by decide +kernel, by decide +kernel, by decide +kernel⟩
theorem li_Re_count : Cond.instanceMethod mm_Re_count.1 ∈ x_ws ∧ Cond.selects mm_Re_count.1.cls mm_Re_count.1 mm_Re_count.1 ∈ x_ws := ⟨x_at 812 (by decide +kernel) rfl, x_at 813 (by decide +kernel) rfl⟩
theorem lc_Re_at : x_cd mm_Re_at 1 := ⟨x_at 822 (by decide +kernel) rfl, x_at 6 (by decide +kernel) rfl, by decide +kernel, by decide +kernel, by decide +kernel⟩
theorem li_Re_at : Cond.instanceMethod mm_Re_at.1 ∈ x_ws ∧ Cond.selects mm_Re_at.1.cls mm_Re_at.1 mm_Re_at.1 ∈ x_ws := ⟨x_at 821 (by decide +kernel) rfl, x_sel (q := (mm_Re_at.1, 15)) 63 (by decide +kernel)⟩
theorem lc_Re_kind : x_cd mm_Re_kind 1 := ⟨x_at 818 (by decide +kernel) rfl, x_at 6 (by decide +kernel) rfl, by decide +kernel, by decide +kernel, by decide +kernel⟩
theorem li_Re_kind : Cond.instanceMethod mm_Re_kind.1 ∈ x_ws ∧ Cond.selects mm_Re_kind.1.cls mm_Re_kind.1 mm_Re_kind.1 ∈ x_ws := ⟨x_at 816 (by decide +kernel) rfl, x_at 817 (by decide +kernel) rfl⟩
theorem lc_Re_hypotheses : x_cd mm_Re_hypotheses 1 := ⟨x_at 826 (by decide +kernel) rfl, x_at 6 (by decide +kernel) rfl, by decide +kernel, by decide +kernel, by decide +kernel⟩
theorem li_Re_hypotheses : Cond.instanceMethod mm_Re_hypotheses.1 ∈ x_ws ∧ Cond.selects mm_Re_hypotheses.1.cls mm_Re_hypotheses.1 mm_Re_hypotheses.1 ∈ x_ws := ⟨x_at 824 (by decide +kernel) rfl, x_at 825 (by decide +kernel) rfl⟩
theorem lc_Re_length : x_cd mm_Re_length 2 := ⟨x_at 830 (by decide +kernel) rfl, x_at 6 (by decide +kernel) rfl, by decide +kernel, by decide +kernel, by decide +kernel⟩
theorem li_Re_length : Cond.instanceMethod mm_Re_length.1 ∈ x_ws ∧ Cond.selects mm_Re_length.1.cls mm_Re_length.1 mm_Re_length.1 ∈ x_ws := ⟨x_at 828 (by decide +kernel) rfl, x_at 829 (by decide +kernel) rfl⟩
theorem lc_Re_symbol : x_cd mm_Re_symbol 3 := ⟨x_at 834 (by decide +kernel) rfl, x_at 6 (by decide +kernel) rfl, by decide +kernel, by decide +kernel, by decide +kernel⟩
theorem li_Re_symbol : Cond.instanceMethod mm_Re_symbol.1 ∈ x_ws ∧ Cond.selects mm_Re_symbol.1.cls mm_Re_symbol.1 mm_Re_symbol.1 ∈ x_ws := ⟨x_at 832 (by decide +kernel) rfl, x_at 833 (by decide +kernel) rfl⟩
theorem lc_De_init : x_cd mm_De_init 0 := ⟨x_at 31 (by decide +kernel) rfl, x_at 3 (by decide +kernel) rfl, by decide +kernel, by decide +kernel, by decide +kernel⟩
theorem li_De_init : Cond.instanceMethod mm_De_init.1 ∈ x_ws ∧ mm_De_init.1.name = "<init>" ∧ mm_De_init.2.2.2.1 = none := ⟨x_at 30 (by decide +kernel) rfl, rfl, rfl⟩
theorem lc_De_begin : x_cd mm_De_begin 0 := ⟨x_at 331 (by decide +kernel) rfl, x_at 3 (by decide +kernel) rfl, by decide +kernel, by decide +kernel, by decide +kernel⟩
theorem li_De_begin : Cond.instanceMethod mm_De_begin.1 ∈ x_ws ∧ Cond.selects mm_De_begin.1.cls mm_De_begin.1 mm_De_begin.1 ∈ x_ws := ⟨x_at 329 (by decide +kernel) rfl, x_at 330 (by decide +kernel) rfl⟩
theorem lc_De_pass : x_cd mm_De_pass 1 := ⟨x_at 335 (by decide +kernel) rfl, x_at 3 (by decide +kernel) rfl, by decide +kernel, by decide +kernel, by decide +kernel⟩
theorem li_De_pass : Cond.instanceMethod mm_De_pass.1 ∈ x_ws ∧ Cond.selects mm_De_pass.1.cls mm_De_pass.1 mm_De_pass.1 ∈ x_ws := ⟨x_at 333 (by decide +kernel) rfl, x_at 334 (by decide +kernel) rfl⟩
theorem lc_Eq_init : x_cd mm_Eq_init 1 := ⟨x_at 427 (by decide +kernel) rfl, x_at 12 (by decide +kernel) rfl, by decide +kernel, by decide +kernel, by decide +kernel⟩
theorem li_Eq_init : Cond.instanceMethod mm_Eq_init.1 ∈ x_ws ∧ mm_Eq_init.1.name = "<init>" ∧ mm_Eq_init.2.2.2.1 = none := ⟨x_at 426 (by decide +kernel) rfl, rfl, rfl⟩
theorem lc_Hy_init : x_cd mm_Hy_init 0 := ⟨x_at 82 (by decide +kernel) rfl, x_at 5 (by decide +kernel) rfl, by decide +kernel, by decide +kernel, by decide +kernel⟩
theorem li_Hy_init : Cond.instanceMethod mm_Hy_init.1 ∈ x_ws ∧ mm_Hy_init.1.name = "<init>" ∧ mm_Hy_init.2.2.2.1 = none := ⟨x_at 81 (by decide +kernel) rfl, rfl, rfl⟩
theorem lc_Hy_get : x_cd mm_Hy_get 1 := ⟨x_at 547 (by decide +kernel) rfl, x_at 5 (by decide +kernel) rfl, by decide +kernel, by decide +kernel, by decide +kernel⟩
theorem li_Hy_get : Cond.instanceMethod mm_Hy_get.1 ∈ x_ws ∧ Cond.selects mm_Hy_get.1.cls mm_Hy_get.1 mm_Hy_get.1 ∈ x_ws := ⟨x_at 545 (by decide +kernel) rfl, x_at 546 (by decide +kernel) rfl⟩
theorem lc_Hy_add : x_cd mm_Hy_add 1 := ⟨x_at 359 (by decide +kernel) rfl, x_at 5 (by decide +kernel) rfl, by decide +kernel, by decide +kernel, by decide +kernel⟩
theorem li_Hy_add : Cond.instanceMethod mm_Hy_add.1 ∈ x_ws ∧ Cond.selects mm_Hy_add.1.cls mm_Hy_add.1 mm_Hy_add.1 ∈ x_ws := ⟨x_at 357 (by decide +kernel) rfl, x_at 358 (by decide +kernel) rfl⟩
theorem lc_Hy_addAll : x_cd mm_Hy_addAll 1 := ⟨x_at 452 (by decide +kernel) rfl, x_at 5 (by decide +kernel) rfl, by decide +kernel, by decide +kernel, by decide +kernel⟩
theorem li_Hy_addAll : Cond.instanceMethod mm_Hy_addAll.1 ∈ x_ws ∧ Cond.selects mm_Hy_addAll.1.cls mm_Hy_addAll.1 mm_Hy_addAll.1 ∈ x_ws := ⟨x_at 450 (by decide +kernel) rfl, x_at 451 (by decide +kernel) rfl⟩
theorem lc_Hy_addAllBut : x_cd mm_Hy_addAllBut 2 := ⟨x_at 466 (by decide +kernel) rfl, x_at 5 (by decide +kernel) rfl, by decide +kernel, by decide +kernel, by decide +kernel⟩
theorem li_Hy_addAllBut : Cond.instanceMethod mm_Hy_addAllBut.1 ∈ x_ws ∧ Cond.selects mm_Hy_addAllBut.1.cls mm_Hy_addAllBut.1 mm_Hy_addAllBut.1 ∈ x_ws := ⟨x_at 464 (by decide +kernel) rfl, x_at 465 (by decide +kernel) rfl⟩
theorem lc_Hy_haveFree : x_cd mm_Hy_haveFree 1 := ⟨x_at 474 (by decide +kernel) rfl, x_at 5 (by decide +kernel) rfl, by decide +kernel, by decide +kernel, by decide +kernel⟩
theorem li_Hy_haveFree : Cond.instanceMethod mm_Hy_haveFree.1 ∈ x_ws ∧ Cond.selects mm_Hy_haveFree.1.cls mm_Hy_haveFree.1 mm_Hy_haveFree.1 ∈ x_ws := ⟨x_at 472 (by decide +kernel) rfl, x_at 473 (by decide +kernel) rfl⟩
theorem lc_Hy_areSmallEnough : x_cd mm_Hy_areSmallEnough 0 := ⟨x_at 207 (by decide +kernel) rfl, x_at 5 (by decide +kernel) rfl, by decide +kernel, by decide +kernel, by decide +kernel⟩
theorem li_Hy_areSmallEnough : Cond.instanceMethod mm_Hy_areSmallEnough.1 ∈ x_ws ∧ Cond.selects mm_Hy_areSmallEnough.1.cls mm_Hy_areSmallEnough.1 mm_Hy_areSmallEnough.1 ∈ x_ws := ⟨x_at 205 (by decide +kernel) rfl, x_at 206 (by decide +kernel) rfl⟩
theorem lc_It_init : x_cd mm_It_init 3 := ⟨x_at 181 (by decide +kernel) rfl, x_at 11 (by decide +kernel) rfl, by decide +kernel, by decide +kernel, by decide +kernel⟩
theorem li_It_init : Cond.instanceMethod mm_It_init.1 ∈ x_ws ∧ mm_It_init.1.name = "<init>" ∧ mm_It_init.2.2.2.1 = none := ⟨x_at 180 (by decide +kernel) rfl, rfl, rfl⟩
theorem lc_It_isSmallEnough : x_cd mm_It_isSmallEnough 0 := ⟨x_at 203 (by decide +kernel) rfl, x_at 11 (by decide +kernel) rfl, by decide +kernel, by decide +kernel, by decide +kernel⟩
theorem li_It_isSmallEnough : Cond.instanceMethod mm_It_isSmallEnough.1 ∈ x_ws ∧ Cond.selects mm_It_isSmallEnough.1.cls mm_It_isSmallEnough.1 mm_It_isSmallEnough.1 ∈ x_ws := ⟨x_at 201 (by decide +kernel) rfl, x_at 202 (by decide +kernel) rfl⟩
theorem lc_Ro_init : x_cd mm_Ro_init 3 := ⟨x_at 157 (by decide +kernel) rfl, x_at 7 (by decide +kernel) rfl, by decide +kernel, by decide +kernel, by decide +kernel⟩
theorem li_Ro_init : Cond.instanceMethod mm_Ro_init.1 ∈ x_ws ∧ mm_Ro_init.1.name = "<init>" ∧ mm_Ro_init.2.2.2.1 = none := ⟨x_at 156 (by decide +kernel) rfl, rfl, rfl⟩
theorem lc_Ro_at : x_cd mm_Ro_at 1 := ⟨x_at 246 (by decide +kernel) rfl, x_at 7 (by decide +kernel) rfl, by decide +kernel, by decide +kernel, by decide +kernel⟩
theorem li_Ro_at : Cond.instanceMethod mm_Ro_at.1 ∈ x_ws ∧ Cond.selects mm_Ro_at.1.cls mm_Ro_at.1 mm_Ro_at.1 ∈ x_ws := ⟨x_at 244 (by decide +kernel) rfl, x_at 245 (by decide +kernel) rfl⟩
theorem lc_Ro_part : x_cd mm_Ro_part 2 := ⟨x_at 378 (by decide +kernel) rfl, x_at 7 (by decide +kernel) rfl, by decide +kernel, by decide +kernel, by decide +kernel⟩
theorem li_Ro_part : Cond.instanceMethod mm_Ro_part.1 ∈ x_ws ∧ Cond.selects mm_Ro_part.1.cls mm_Ro_part.1 mm_Ro_part.1 ∈ x_ws := ⟨x_at 376 (by decide +kernel) rfl, x_at 377 (by decide +kernel) rfl⟩
theorem lc_Ro_typeEnd : x_cd mm_Ro_typeEnd 1 := ⟨x_at 279 (by decide +kernel) rfl, x_at 7 (by decide +kernel) rfl, by decide +kernel, by decide +kernel, by decide +kernel⟩
theorem li_Ro_typeEnd : Cond.instanceMethod mm_Ro_typeEnd.1 ∈ x_ws ∧ Cond.selects mm_Ro_typeEnd.1.cls mm_Ro_typeEnd.1 mm_Ro_typeEnd.1 ∈ x_ws := ⟨x_at 277 (by decide +kernel) rfl, x_at 278 (by decide +kernel) rfl⟩
theorem lc_Ro_termEnd : x_cd mm_Ro_termEnd 1 := ⟨x_at 373 (by decide +kernel) rfl, x_at 7 (by decide +kernel) rfl, by decide +kernel, by decide +kernel, by decide +kernel⟩
theorem li_Ro_termEnd : Cond.instanceMethod mm_Ro_termEnd.1 ∈ x_ws ∧ Cond.selects mm_Ro_termEnd.1.cls mm_Ro_termEnd.1 mm_Ro_termEnd.1 ∈ x_ws := ⟨x_at 371 (by decide +kernel) rfl, x_at 372 (by decide +kernel) rfl⟩
theorem lc_Ro_typeAt : x_cd mm_Ro_typeAt 1 := ⟨x_at 274 (by decide +kernel) rfl, x_at 7 (by decide +kernel) rfl, by decide +kernel, by decide +kernel, by decide +kernel⟩
theorem li_Ro_typeAt : Cond.instanceMethod mm_Ro_typeAt.1 ∈ x_ws ∧ Cond.selects mm_Ro_typeAt.1.cls mm_Ro_typeAt.1 mm_Ro_typeAt.1 ∈ x_ws := ⟨x_at 272 (by decide +kernel) rfl, x_at 273 (by decide +kernel) rfl⟩
theorem lc_Ro_functionArgument : x_cd mm_Ro_functionArgument 0 := ⟨x_at 302 (by decide +kernel) rfl, x_at 7 (by decide +kernel) rfl, by decide +kernel, by decide +kernel, by decide +kernel⟩
theorem li_Ro_functionArgument : Cond.instanceMethod mm_Ro_functionArgument.1 ∈ x_ws ∧ Cond.selects mm_Ro_functionArgument.1.cls mm_Ro_functionArgument.1 mm_Ro_functionArgument.1 ∈ x_ws := ⟨x_at 300 (by decide +kernel) rfl, x_at 301 (by decide +kernel) rfl⟩
theorem lc_Ro_functionResult : x_cd mm_Ro_functionResult 0 := ⟨x_at 293 (by decide +kernel) rfl, x_at 7 (by decide +kernel) rfl, by decide +kernel, by decide +kernel, by decide +kernel⟩
theorem li_Ro_functionResult : Cond.instanceMethod mm_Ro_functionResult.1 ∈ x_ws ∧ Cond.selects mm_Ro_functionResult.1.cls mm_Ro_functionResult.1 mm_Ro_functionResult.1 ∈ x_ws := ⟨x_at 291 (by decide +kernel) rfl, x_at 292 (by decide +kernel) rfl⟩
theorem lc_Ro_same : x_cd mm_Ro_same 1 := ⟨x_at 307 (by decide +kernel) rfl, x_at 7 (by decide +kernel) rfl, by decide +kernel, by decide +kernel, by decide +kernel⟩
theorem li_Ro_same : Cond.instanceMethod mm_Ro_same.1 ∈ x_ws ∧ Cond.selects mm_Ro_same.1.cls mm_Ro_same.1 mm_Ro_same.1 ∈ x_ws := ⟨x_at 305 (by decide +kernel) rfl, x_at 306 (by decide +kernel) rfl⟩
theorem lc_Ro_holdsAt : x_cd mm_Ro_holdsAt 2 := ⟨x_at 311 (by decide +kernel) rfl, x_at 7 (by decide +kernel) rfl, by decide +kernel, by decide +kernel, by decide +kernel⟩
theorem li_Ro_holdsAt : Cond.instanceMethod mm_Ro_holdsAt.1 ∈ x_ws ∧ Cond.selects mm_Ro_holdsAt.1.cls mm_Ro_holdsAt.1 mm_Ro_holdsAt.1 ∈ x_ws := ⟨x_at 309 (by decide +kernel) rfl, x_at 310 (by decide +kernel) rfl⟩
theorem lc_Ro_comesBefore : x_cd mm_Ro_comesBefore 1 := ⟨x_at 363 (by decide +kernel) rfl, x_at 7 (by decide +kernel) rfl, by decide +kernel, by decide +kernel, by decide +kernel⟩
theorem li_Ro_comesBefore : Cond.instanceMethod mm_Ro_comesBefore.1 ∈ x_ws ∧ Cond.selects mm_Ro_comesBefore.1.cls mm_Ro_comesBefore.1 mm_Ro_comesBefore.1 ∈ x_ws := ⟨x_at 361 (by decide +kernel) rfl, x_at 362 (by decide +kernel) rfl⟩
theorem lc_Ro_hasFree : x_cd mm_Ro_hasFree 1 := ⟨x_at 478 (by decide +kernel) rfl, x_at 7 (by decide +kernel) rfl, by decide +kernel, by decide +kernel, by decide +kernel⟩
theorem li_Ro_hasFree : Cond.instanceMethod mm_Ro_hasFree.1 ∈ x_ws ∧ Cond.selects mm_Ro_hasFree.1.cls mm_Ro_hasFree.1 mm_Ro_hasFree.1 ∈ x_ws := ⟨x_at 476 (by decide +kernel) rfl, x_at 477 (by decide +kernel) rfl⟩
theorem lc_Ro_hasFreeVariable : x_cd mm_Ro_hasFreeVariable 0 := ⟨x_at 398 (by decide +kernel) rfl, x_at 7 (by decide +kernel) rfl, by decide +kernel, by decide +kernel, by decide +kernel⟩
theorem li_Ro_hasFreeVariable : Cond.instanceMethod mm_Ro_hasFreeVariable.1 ∈ x_ws ∧ Cond.selects mm_Ro_hasFreeVariable.1.cls mm_Ro_hasFreeVariable.1 mm_Ro_hasFreeVariable.1 ∈ x_ws := ⟨x_at 396 (by decide +kernel) rfl, x_at 397 (by decide +kernel) rfl⟩
theorem lc_Ro_has : x_cd mm_Ro_has 1 := ⟨x_at 402 (by decide +kernel) rfl, x_at 7 (by decide +kernel) rfl, by decide +kernel, by decide +kernel, by decide +kernel⟩
theorem li_Ro_has : Cond.instanceMethod mm_Ro_has.1 ∈ x_ws ∧ Cond.selects mm_Ro_has.1.cls mm_Ro_has.1 mm_Ro_has.1 ∈ x_ws := ⟨x_at 400 (by decide +kernel) rfl, x_at 401 (by decide +kernel) rfl⟩
theorem lc_Ro_typeVariablesStandIn : x_cd mm_Ro_typeVariablesStandIn 1 := ⟨x_at 406 (by decide +kernel) rfl, x_at 7 (by decide +kernel) rfl, by decide +kernel, by decide +kernel, by decide +kernel⟩
theorem li_Ro_typeVariablesStandIn : Cond.instanceMethod mm_Ro_typeVariablesStandIn.1 ∈ x_ws ∧ Cond.selects mm_Ro_typeVariablesStandIn.1.cls mm_Ro_typeVariablesStandIn.1 mm_Ro_typeVariablesStandIn.1 ∈ x_ws := ⟨x_at 404 (by decide +kernel) rfl, x_at 405 (by decide +kernel) rfl⟩
theorem lc_Ro_isOfType : x_cd mm_Ro_isOfType 1 := ⟨x_at 410 (by decide +kernel) rfl, x_at 7 (by decide +kernel) rfl, by decide +kernel, by decide +kernel, by decide +kernel⟩
theorem li_Ro_isOfType : Cond.instanceMethod mm_Ro_isOfType.1 ∈ x_ws ∧ Cond.selects mm_Ro_isOfType.1.cls mm_Ro_isOfType.1 mm_Ro_isOfType.1 ∈ x_ws := ⟨x_at 408 (by decide +kernel) rfl, x_at 409 (by decide +kernel) rfl⟩
theorem lc_Ro_termsWithin : x_cd mm_Ro_termsWithin 1 := ⟨x_at 338 (by decide +kernel) rfl, x_at 7 (by decide +kernel) rfl, by decide +kernel, by decide +kernel, by decide +kernel⟩
theorem li_Ro_termsWithin : Cond.static mm_Ro_termsWithin.1 ∈ x_ws := x_at 337 (by decide +kernel) rfl
theorem lc_Sc_init : x_cd mm_Sc_init 0 := ⟨x_at 25 (by decide +kernel) rfl, x_at 2 (by decide +kernel) rfl, by decide +kernel, by decide +kernel, by decide +kernel⟩
theorem li_Sc_init : Cond.instanceMethod mm_Sc_init.1 ∈ x_ws ∧ mm_Sc_init.1.name = "<init>" ∧ mm_Sc_init.2.2.2.1 = none := ⟨x_at 24 (by decide +kernel) rfl, rfl, rfl⟩
theorem lc_Sc_simpleType : x_cd mm_Sc_simpleType 1 := ⟨x_at 129 (by decide +kernel) rfl, x_at 2 (by decide +kernel) rfl, by decide +kernel, by decide +kernel, by decide +kernel⟩
theorem li_Sc_simpleType : Cond.instanceMethod mm_Sc_simpleType.1 ∈ x_ws ∧ Cond.selects mm_Sc_simpleType.1.cls mm_Sc_simpleType.1 mm_Sc_simpleType.1 ∈ x_ws := ⟨x_at 127 (by decide +kernel) rfl, x_at 128 (by decide +kernel) rfl⟩
theorem lc_Sc_functionType : x_cd mm_Sc_functionType 2 := ⟨x_at 238 (by decide +kernel) rfl, x_at 2 (by decide +kernel) rfl, by decide +kernel, by decide +kernel, by decide +kernel⟩
theorem li_Sc_functionType : Cond.instanceMethod mm_Sc_functionType.1 ∈ x_ws ∧ Cond.selects mm_Sc_functionType.1.cls mm_Sc_functionType.1 mm_Sc_functionType.1 ∈ x_ws := ⟨x_at 236 (by decide +kernel) rfl, x_at 237 (by decide +kernel) rfl⟩
theorem lc_Sc_leaf : x_cd mm_Sc_leaf 3 := ⟨x_at 254 (by decide +kernel) rfl, x_at 2 (by decide +kernel) rfl, by decide +kernel, by decide +kernel, by decide +kernel⟩
theorem li_Sc_leaf : Cond.instanceMethod mm_Sc_leaf.1 ∈ x_ws ∧ Cond.selects mm_Sc_leaf.1.cls mm_Sc_leaf.1 mm_Sc_leaf.1 ∈ x_ws := ⟨x_at 252 (by decide +kernel) rfl, x_at 253 (by decide +kernel) rfl⟩
theorem lc_Sc_application : x_cd mm_Sc_application 2 := ⟨x_at 315 (by decide +kernel) rfl, x_at 2 (by decide +kernel) rfl, by decide +kernel, by decide +kernel, by decide +kernel⟩
theorem li_Sc_application : Cond.instanceMethod mm_Sc_application.1 ∈ x_ws ∧ Cond.selects mm_Sc_application.1.cls mm_Sc_application.1 mm_Sc_application.1 ∈ x_ws := ⟨x_at 313 (by decide +kernel) rfl, x_at 314 (by decide +kernel) rfl⟩
theorem lc_Sc_equation : x_cd mm_Sc_equation 3 := ⟨x_at 347 (by decide +kernel) rfl, x_at 2 (by decide +kernel) rfl, by decide +kernel, by decide +kernel, by decide +kernel⟩
theorem li_Sc_equation : Cond.instanceMethod mm_Sc_equation.1 ∈ x_ws ∧ Cond.selects mm_Sc_equation.1.cls mm_Sc_equation.1 mm_Sc_equation.1 ∈ x_ws := ⟨x_at 345 (by decide +kernel) rfl, x_at 346 (by decide +kernel) rfl⟩
theorem lc_Sc_abstraction : x_cd mm_Sc_abstraction 2 := ⟨x_at 327 (by decide +kernel) rfl, x_at 2 (by decide +kernel) rfl, by decide +kernel, by decide +kernel, by decide +kernel⟩
theorem li_Sc_abstraction : Cond.instanceMethod mm_Sc_abstraction.1 ∈ x_ws ∧ Cond.selects mm_Sc_abstraction.1.cls mm_Sc_abstraction.1 mm_Sc_abstraction.1 ∈ x_ws := ⟨x_at 325 (by decide +kernel) rfl, x_at 326 (by decide +kernel) rfl⟩
theorem lc_Sc_replaceVariable : x_cd mm_Sc_replaceVariable 3 := ⟨x_at 486 (by decide +kernel) rfl, x_at 2 (by decide +kernel) rfl, by decide +kernel, by decide +kernel, by decide +kernel⟩
theorem li_Sc_replaceVariable : Cond.instanceMethod mm_Sc_replaceVariable.1 ∈ x_ws ∧ Cond.selects mm_Sc_replaceVariable.1.cls mm_Sc_replaceVariable.1 mm_Sc_replaceVariable.1 ∈ x_ws := ⟨x_at 484 (by decide +kernel) rfl, x_at 485 (by decide +kernel) rfl⟩
theorem lc_Sc_replaceOutermost : x_cd mm_Sc_replaceOutermost 2 := ⟨x_at 382 (by decide +kernel) rfl, x_at 2 (by decide +kernel) rfl, by decide +kernel, by decide +kernel, by decide +kernel⟩
theorem li_Sc_replaceOutermost : Cond.instanceMethod mm_Sc_replaceOutermost.1 ∈ x_ws ∧ Cond.selects mm_Sc_replaceOutermost.1.cls mm_Sc_replaceOutermost.1 mm_Sc_replaceOutermost.1 ∈ x_ws := ⟨x_at 380 (by decide +kernel) rfl, x_at 381 (by decide +kernel) rfl⟩
theorem lc_Sc_replaceTypeVariable : x_cd mm_Sc_replaceTypeVariable 3 := ⟨x_at 494 (by decide +kernel) rfl, x_at 2 (by decide +kernel) rfl, by decide +kernel, by decide +kernel, by decide +kernel⟩
theorem li_Sc_replaceTypeVariable : Cond.instanceMethod mm_Sc_replaceTypeVariable.1 ∈ x_ws ∧ Cond.selects mm_Sc_replaceTypeVariable.1.cls mm_Sc_replaceTypeVariable.1 mm_Sc_replaceTypeVariable.1 ∈ x_ws := ⟨x_at 492 (by decide +kernel) rfl, x_at 493 (by decide +kernel) rfl⟩
theorem lc_Sc_typeOf : x_cd mm_Sc_typeOf 1 := ⟨x_at 270 (by decide +kernel) rfl, x_at 2 (by decide +kernel) rfl, by decide +kernel, by decide +kernel, by decide +kernel⟩
theorem li_Sc_typeOf : Cond.instanceMethod mm_Sc_typeOf.1 ∈ x_ws ∧ Cond.selects mm_Sc_typeOf.1.cls mm_Sc_typeOf.1 mm_Sc_typeOf.1 ∈ x_ws := ⟨x_at 268 (by decide +kernel) rfl, x_at 269 (by decide +kernel) rfl⟩
theorem lc_Sc_putLeafType : x_cd mm_Sc_putLeafType 4 := ⟨x_at 285 (by decide +kernel) rfl, x_at 2 (by decide +kernel) rfl, by decide +kernel, by decide +kernel, by decide +kernel⟩
theorem li_Sc_putLeafType : Cond.instanceMethod mm_Sc_putLeafType.1 ∈ x_ws ∧ Cond.selects mm_Sc_putLeafType.1.cls mm_Sc_putLeafType.1 mm_Sc_putLeafType.1 ∈ x_ws := ⟨x_at 284 (by decide +kernel) rfl, x_sel (q := (mm_Sc_putLeafType.1, 4)) 9 (by decide +kernel)⟩
theorem lc_Sc_putEqualType : x_cd mm_Sc_putEqualType 2 := ⟨x_at 289 (by decide +kernel) rfl, x_at 2 (by decide +kernel) rfl, by decide +kernel, by decide +kernel, by decide +kernel⟩
theorem li_Sc_putEqualType : Cond.instanceMethod mm_Sc_putEqualType.1 ∈ x_ws ∧ Cond.selects mm_Sc_putEqualType.1.cls mm_Sc_putEqualType.1 mm_Sc_putEqualType.1 ∈ x_ws := ⟨x_at 288 (by decide +kernel) rfl, x_sel (q := (mm_Sc_putEqualType.1, 4)) 10 (by decide +kernel)⟩
theorem lc_Sc_put : x_cd mm_Sc_put 1 := ⟨x_at 133 (by decide +kernel) rfl, x_at 2 (by decide +kernel) rfl, by decide +kernel, by decide +kernel, by decide +kernel⟩
theorem li_Sc_put : Cond.instanceMethod mm_Sc_put.1 ∈ x_ws ∧ Cond.selects mm_Sc_put.1.cls mm_Sc_put.1 mm_Sc_put.1 ∈ x_ws := ⟨x_at 132 (by decide +kernel) rfl, x_sel (q := (mm_Sc_put.1, 4)) 0 (by decide +kernel)⟩
theorem lc_Sc_putRow : x_cd mm_Sc_putRow 1 := ⟨x_at 242 (by decide +kernel) rfl, x_at 2 (by decide +kernel) rfl, by decide +kernel, by decide +kernel, by decide +kernel⟩
theorem li_Sc_putRow : Cond.instanceMethod mm_Sc_putRow.1 ∈ x_ws ∧ Cond.selects mm_Sc_putRow.1.cls mm_Sc_putRow.1 mm_Sc_putRow.1 ∈ x_ws := ⟨x_at 241 (by decide +kernel) rfl, x_sel (q := (mm_Sc_putRow.1, 4)) 7 (by decide +kernel)⟩
theorem lc_Sc_finishedRow : x_cd mm_Sc_finishedRow 0 := ⟨x_at 137 (by decide +kernel) rfl, x_at 2 (by decide +kernel) rfl, by decide +kernel, by decide +kernel, by decide +kernel⟩
theorem li_Sc_finishedRow : Cond.instanceMethod mm_Sc_finishedRow.1 ∈ x_ws ∧ Cond.selects mm_Sc_finishedRow.1.cls mm_Sc_finishedRow.1 mm_Sc_finishedRow.1 ∈ x_ws := ⟨x_at 136 (by decide +kernel) rfl, x_sel (q := (mm_Sc_finishedRow.1, 4)) 1 (by decide +kernel)⟩
theorem lc_Sh_init : x_cd mm_Sh_init 1 := ⟨x_at 64 (by decide +kernel) rfl, x_at 4 (by decide +kernel) rfl, by decide +kernel, by decide +kernel, by decide +kernel⟩
theorem li_Sh_init : Cond.instanceMethod mm_Sh_init.1 ∈ x_ws ∧ mm_Sh_init.1.name = "<init>" ∧ mm_Sh_init.2.2.2.1 = none := ⟨x_at 63 (by decide +kernel) rfl, rfl, rfl⟩
theorem lc_Sh_isFull : x_cd mm_Sh_isFull 0 := ⟨x_at 390 (by decide +kernel) rfl, x_at 4 (by decide +kernel) rfl, by decide +kernel, by decide +kernel, by decide +kernel⟩
theorem li_Sh_isFull : Cond.instanceMethod mm_Sh_isFull.1 ∈ x_ws ∧ Cond.selects mm_Sh_isFull.1.cls mm_Sh_isFull.1 mm_Sh_isFull.1 ∈ x_ws := ⟨x_at 388 (by decide +kernel) rfl, x_at 389 (by decide +kernel) rfl⟩
theorem lc_Sh_get : x_cd mm_Sh_get 1 := ⟨x_at 531 (by decide +kernel) rfl, x_at 4 (by decide +kernel) rfl, by decide +kernel, by decide +kernel, by decide +kernel⟩
theorem li_Sh_get : Cond.instanceMethod mm_Sh_get.1 ∈ x_ws ∧ Cond.selects mm_Sh_get.1.cls mm_Sh_get.1 mm_Sh_get.1 ∈ x_ws := ⟨x_at 529 (by decide +kernel) rfl, x_at 530 (by decide +kernel) rfl⟩
theorem lc_Sh_below : x_cd mm_Sh_below 1 := ⟨x_at 234 (by decide +kernel) rfl, x_at 4 (by decide +kernel) rfl, by decide +kernel, by decide +kernel, by decide +kernel⟩
theorem li_Sh_below : Cond.instanceMethod mm_Sh_below.1 ∈ x_ws ∧ Cond.selects mm_Sh_below.1.cls mm_Sh_below.1 mm_Sh_below.1 ∈ x_ws := ⟨x_at 232 (by decide +kernel) rfl, x_at 233 (by decide +kernel) rfl⟩
theorem lc_Sh_add : x_cd mm_Sh_add 1 := ⟨x_at 222 (by decide +kernel) rfl, x_at 4 (by decide +kernel) rfl, by decide +kernel, by decide +kernel, by decide +kernel⟩
theorem li_Sh_add : Cond.instanceMethod mm_Sh_add.1 ∈ x_ws ∧ Cond.selects mm_Sh_add.1.cls mm_Sh_add.1 mm_Sh_add.1 ∈ x_ws := ⟨x_at 220 (by decide +kernel) rfl, x_at 221 (by decide +kernel) rfl⟩
theorem lc_Sh_drop : x_cd mm_Sh_drop 1 := ⟨x_at 215 (by decide +kernel) rfl, x_at 4 (by decide +kernel) rfl, by decide +kernel, by decide +kernel, by decide +kernel⟩
theorem li_Sh_drop : Cond.instanceMethod mm_Sh_drop.1 ∈ x_ws ∧ Cond.selects mm_Sh_drop.1.cls mm_Sh_drop.1 mm_Sh_drop.1 ∈ x_ws := ⟨x_at 213 (by decide +kernel) rfl, x_at 214 (by decide +kernel) rfl⟩
theorem lc_Ar_copyOf : x_cd mm_Ar_copyOf 2 := ⟨x_at 141 (by decide +kernel) rfl, x_at 8 (by decide +kernel) rfl, by decide +kernel, by decide +kernel, by decide +kernel⟩
theorem li_Ar_copyOf : Cond.static mm_Ar_copyOf.1 ∈ x_ws := x_at 140 (by decide +kernel) rfl
theorem lc_Mt_min : x_cd mm_Mt_min 2 := ⟨x_at 151 (by decide +kernel) rfl, x_at 9 (by decide +kernel) rfl, by decide +kernel, by decide +kernel, by decide +kernel⟩
theorem li_Mt_min : Cond.static mm_Mt_min.1 ∈ x_ws := x_at 150 (by decide +kernel) rfl
theorem lc_Mt_max : x_cd mm_Mt_max 2 := ⟨x_at 218 (by decide +kernel) rfl, x_at 9 (by decide +kernel) rfl, by decide +kernel, by decide +kernel, by decide +kernel⟩
theorem li_Mt_max : Cond.static mm_Mt_max.1 ∈ x_ws := x_at 217 (by decide +kernel) rfl
end
section
/-! links: fields, classes, methods by the places in the pools -/
theorem lf_De_9 : x_fl "SequentMachine$Depth" 9 0 0 := ⟨_, ct_0, 3, rfl, by decide, ck_0, rfl, Or.inl (x_at 33 (by decide +kernel) rfl)⟩
theorem lp_De_9 : x_pl "SequentMachine$Depth" "<init>" 9 0 0 (.array .int) := ⟨_, ct_0, 3, cy_0, rfl, by decide, ck_0, rfl, cp_0, rfl, cq_0, x_at 33 (by decide +kernel) rfl, Or.inr ⟨rfl, rfl, rfl⟩⟩
theorem lf_De_15 : x_fl "SequentMachine$Depth" 15 0 1 := ⟨_, ct_0, 3, rfl, by decide, ck_0, rfl, Or.inl (x_at 34 (by decide +kernel) rfl)⟩
theorem lp_De_15 {nm : String} : x_pl "SequentMachine$Depth" nm 15 0 1 (.int) := ⟨_, ct_0, 3, cy_0, rfl, by decide, ck_0, rfl, cp_0, rfl, cq_0, x_at 34 (by decide +kernel) rfl, Or.inl rfl⟩
theorem lf_Sc_62 : x_fl "SequentMachine$Scribe" 62 0 1 := ⟨_, ct_0, 3, rfl, by decide, ck_0, rfl, Or.inr ⟨"SequentMachine", by decide +kernel⟩⟩
theorem lf_De_19 : x_fl "SequentMachine$Depth" 19 0 2 := ⟨_, ct_0, 3, rfl, by decide, ck_0, rfl, Or.inl (x_at 36 (by decide +kernel) rfl)⟩
theorem lp_De_19 {nm : String} : x_pl "SequentMachine$Depth" nm 19 0 2 (.int) := ⟨_, ct_0, 3, cy_0, rfl, by decide, ck_0, rfl, cp_0, rfl, cq_0, x_at 36 (by decide +kernel) rfl, Or.inl rfl⟩
theorem lf_Sc_9 : x_fl "SequentMachine$Scribe" 9 5 0 := ⟨_, ct_5, 4, rfl, by decide, ck_5, rfl, Or.inl (x_at 47 (by decide +kernel) rfl)⟩
theorem lp_Sc_9 : x_pl "SequentMachine$Scribe" "<init>" 9 5 0 (.array .int) := ⟨_, ct_5, 4, cy_5, rfl, by decide, ck_5, rfl, cp_5, rfl, cq_5, x_at 47 (by decide +kernel) rfl, Or.inr ⟨rfl, rfl, rfl⟩⟩
theorem lf_Sc_80 : x_fl "SequentMachine$Scribe" 80 5 1 := ⟨_, ct_5, 4, rfl, by decide, ck_5, rfl, Or.inl (x_at 48 (by decide +kernel) rfl)⟩
theorem lp_Sc_80 {nm : String} : x_pl "SequentMachine$Scribe" nm 80 5 1 (.int) := ⟨_, ct_5, 4, cy_5, rfl, by decide, ck_5, rfl, cp_5, rfl, cq_5, x_at 48 (by decide +kernel) rfl, Or.inl rfl⟩
theorem lf_Sc_18 : x_fl "SequentMachine$Scribe" 18 5 2 := ⟨_, ct_5, 4, rfl, by decide, ck_5, rfl, Or.inl (x_at 49 (by decide +kernel) rfl)⟩
theorem lp_Sc_18 : x_pl "SequentMachine$Scribe" "<init>" 18 5 2 (.object "SequentMachine$Depth") := ⟨_, ct_5, 4, cy_5, rfl, by decide, ck_5, rfl, cp_5, rfl, cq_5, x_at 49 (by decide +kernel) rfl, Or.inr ⟨rfl, rfl, rfl⟩⟩
theorem lf_Sc_24 : x_fl "SequentMachine$Scribe" 24 5 3 := ⟨_, ct_5, 4, rfl, by decide, ck_5, rfl, Or.inl (x_at 50 (by decide +kernel) rfl)⟩
theorem lp_Sc_24 : x_pl "SequentMachine$Scribe" "<init>" 24 5 3 (.array (.object "SequentMachine$Row")) := ⟨_, ct_5, 4, cy_5, rfl, by decide, ck_5, rfl, cp_5, rfl, cq_5, x_at 50 (by decide +kernel) rfl, Or.inr ⟨rfl, rfl, rfl⟩⟩
theorem lf_Sh_9 : x_fl "SequentMachine$Shelf" 9 6 0 := ⟨_, ct_6, 2, rfl, by decide, ck_6, rfl, Or.inl (x_at 68 (by decide +kernel) rfl)⟩
theorem lp_Sh_9 : x_pl "SequentMachine$Shelf" "<init>" 9 6 0 (.array (.object "SequentMachine$Item")) := ⟨_, ct_6, 2, cy_6, rfl, by decide, ck_6, rfl, cp_6, rfl, cq_6, x_at 68 (by decide +kernel) rfl, Or.inr ⟨rfl, rfl, rfl⟩⟩
theorem lf_Sh_15 : x_fl "SequentMachine$Shelf" 15 6 1 := ⟨_, ct_6, 2, rfl, by decide, ck_6, rfl, Or.inl (x_at 69 (by decide +kernel) rfl)⟩
theorem lp_Sh_15 {nm : String} : x_pl "SequentMachine$Shelf" nm 15 6 1 (.int) := ⟨_, ct_6, 2, cy_6, rfl, by decide, ck_6, rfl, cp_6, rfl, cq_6, x_at 69 (by decide +kernel) rfl, Or.inl rfl⟩
theorem lf_Ma_200 : x_fl "SequentMachine" 200 6 1 := ⟨_, ct_6, 2, rfl, by decide, ck_6, rfl, Or.inr ⟨"SequentMachine", by decide +kernel⟩⟩
theorem lf_Hy_11 : x_fl "SequentMachine$Hypotheses" 11 2 0 := ⟨_, ct_2, 2, rfl, by decide, ck_2, rfl, Or.inl (x_at 85 (by decide +kernel) rfl)⟩
theorem lp_Hy_11 : x_pl "SequentMachine$Hypotheses" "<init>" 11 2 0 (.array (.object "SequentMachine$Row")) := ⟨_, ct_2, 2, cy_2, rfl, by decide, ck_2, rfl, cp_2, rfl, cq_2, x_at 85 (by decide +kernel) rfl, Or.inr ⟨rfl, rfl, rfl⟩⟩
theorem lf_Ma_164 : x_fl "SequentMachine" 164 2 0 := ⟨_, ct_2, 2, rfl, by decide, ck_2, rfl, Or.inr ⟨"SequentMachine", by decide +kernel⟩⟩
theorem lf_Hy_17 : x_fl "SequentMachine$Hypotheses" 17 2 1 := ⟨_, ct_2, 2, rfl, by decide, ck_2, rfl, Or.inl (x_at 87 (by decide +kernel) rfl)⟩
theorem lp_Hy_17 {nm : String} : x_pl "SequentMachine$Hypotheses" nm 17 2 1 (.int) := ⟨_, ct_2, 2, cy_2, rfl, by decide, ck_2, rfl, cp_2, rfl, cq_2, x_at 87 (by decide +kernel) rfl, Or.inl rfl⟩
theorem lf_Ma_161 : x_fl "SequentMachine" 161 2 1 := ⟨_, ct_2, 2, rfl, by decide, ck_2, rfl, Or.inr ⟨"SequentMachine", by decide +kernel⟩⟩
theorem lf_Ma_10 : x_fl "SequentMachine" 10 7 0 := ⟨_, ct_7, 9, rfl, by decide, ck_7, rfl, Or.inl (x_at 94 (by decide +kernel) rfl)⟩
theorem lp_Ma_10 : x_pl "SequentMachine" "<init>" 10 7 0 (.object "SequentMachine$Scribe") := ⟨_, ct_7, 9, cy_7, rfl, by decide, ck_7, rfl, cp_7, rfl, cq_7, x_at 94 (by decide +kernel) rfl, Or.inr ⟨rfl, rfl, rfl⟩⟩
theorem lf_Ma_21 : x_fl "SequentMachine" 21 7 1 := ⟨_, ct_7, 9, rfl, by decide, ck_7, rfl, Or.inl (x_at 95 (by decide +kernel) rfl)⟩
theorem lp_Ma_21 : x_pl "SequentMachine" "<init>" 21 7 1 (.object "SequentMachine$Shelf") := ⟨_, ct_7, 9, cy_7, rfl, by decide, ck_7, rfl, cp_7, rfl, cq_7, x_at 95 (by decide +kernel) rfl, Or.inr ⟨rfl, rfl, rfl⟩⟩
theorem lf_Ma_25 : x_fl "SequentMachine" 25 7 2 := ⟨_, ct_7, 9, rfl, by decide, ck_7, rfl, Or.inl (x_at 96 (by decide +kernel) rfl)⟩
theorem lp_Ma_25 : x_pl "SequentMachine" "<init>" 25 7 2 (.object "SequentMachine$Shelf") := ⟨_, ct_7, 9, cy_7, rfl, by decide, ck_7, rfl, cp_7, rfl, cq_7, x_at 96 (by decide +kernel) rfl, Or.inr ⟨rfl, rfl, rfl⟩⟩
theorem lf_Ma_28 : x_fl "SequentMachine" 28 7 3 := ⟨_, ct_7, 9, rfl, by decide, ck_7, rfl, Or.inl (x_at 97 (by decide +kernel) rfl)⟩
theorem lp_Ma_28 : x_pl "SequentMachine" "<init>" 28 7 3 (.object "SequentMachine$Shelf") := ⟨_, ct_7, 9, cy_7, rfl, by decide, ck_7, rfl, cp_7, rfl, cq_7, x_at 97 (by decide +kernel) rfl, Or.inr ⟨rfl, rfl, rfl⟩⟩
theorem lf_Ma_33 : x_fl "SequentMachine" 33 7 4 := ⟨_, ct_7, 9, rfl, by decide, ck_7, rfl, Or.inl (x_at 98 (by decide +kernel) rfl)⟩
theorem lp_Ma_33 : x_pl "SequentMachine" "<init>" 33 7 4 (.array (.object "SequentMachine$Item")) := ⟨_, ct_7, 9, cy_7, rfl, by decide, ck_7, rfl, cp_7, rfl, cq_7, x_at 98 (by decide +kernel) rfl, Or.inr ⟨rfl, rfl, rfl⟩⟩
theorem lf_Ma_39 : x_fl "SequentMachine" 39 7 5 := ⟨_, ct_7, 9, rfl, by decide, ck_7, rfl, Or.inl (x_at 99 (by decide +kernel) rfl)⟩
theorem lp_Ma_39 : x_pl "SequentMachine" "<init>" 39 7 5 (.array (.object "SequentMachine$Row")) := ⟨_, ct_7, 9, cy_7, rfl, by decide, ck_7, rfl, cp_7, rfl, cq_7, x_at 99 (by decide +kernel) rfl, Or.inr ⟨rfl, rfl, rfl⟩⟩
theorem lf_Ma_46 : x_fl "SequentMachine" 46 7 6 := ⟨_, ct_7, 9, rfl, by decide, ck_7, rfl, Or.inl (x_at 100 (by decide +kernel) rfl)⟩
theorem lp_Ma_46 : x_pl "SequentMachine" "<init>" 46 7 6 (.object "SequentMachine$Hypotheses") := ⟨_, ct_7, 9, cy_7, rfl, by decide, ck_7, rfl, cp_7, rfl, cq_7, x_at 100 (by decide +kernel) rfl, Or.inr ⟨rfl, rfl, rfl⟩⟩
theorem lf_Ma_50 : x_fl "SequentMachine" 50 7 7 := ⟨_, ct_7, 9, rfl, by decide, ck_7, rfl, Or.inl (x_at 101 (by decide +kernel) rfl)⟩
theorem lp_Ma_50 {nm : String} : x_pl "SequentMachine" nm 50 7 7 (.int) := ⟨_, ct_7, 9, cy_7, rfl, by decide, ck_7, rfl, cp_7, rfl, cq_7, x_at 101 (by decide +kernel) rfl, Or.inl rfl⟩
theorem lf_Ma_54 : x_fl "SequentMachine" 54 7 8 := ⟨_, ct_7, 9, rfl, by decide, ck_7, rfl, Or.inl (x_at 102 (by decide +kernel) rfl)⟩
theorem lp_Ma_54 {nm : String} : x_pl "SequentMachine" nm 54 7 8 (.int) := ⟨_, ct_7, 9, cy_7, rfl, by decide, ck_7, rfl, cp_7, rfl, cq_7, x_at 102 (by decide +kernel) rfl, Or.inl rfl⟩
theorem lf_Ro_9 : x_fl "SequentMachine$Row" 9 4 0 := ⟨_, ct_4, 3, rfl, by decide, ck_4, rfl, Or.inl (x_at 159 (by decide +kernel) rfl)⟩
theorem lp_Ro_9 : x_pl "SequentMachine$Row" "<init>" 9 4 0 (.array .int) := ⟨_, ct_4, 3, cy_4, rfl, by decide, ck_4, rfl, cp_4, rfl, cq_4, x_at 159 (by decide +kernel) rfl, Or.inr ⟨rfl, rfl, rfl⟩⟩
theorem lf_Ro_15 : x_fl "SequentMachine$Row" 15 4 1 := ⟨_, ct_4, 3, rfl, by decide, ck_4, rfl, Or.inl (x_at 160 (by decide +kernel) rfl)⟩
theorem lp_Ro_15 : x_pl "SequentMachine$Row" "<init>" 15 4 1 (.int) := ⟨_, ct_4, 3, cy_4, rfl, by decide, ck_4, rfl, cp_4, rfl, cq_4, x_at 160 (by decide +kernel) rfl, Or.inr ⟨rfl, rfl, rfl⟩⟩
theorem lf_Eq_29 : x_fl "SequentMachine$Equation" 29 4 2 := ⟨_, ct_4, 3, rfl, by decide, ck_4, rfl, Or.inr ⟨"SequentMachine", by decide +kernel⟩⟩
theorem lf_Ro_19 : x_fl "SequentMachine$Row" 19 4 2 := ⟨_, ct_4, 3, rfl, by decide, ck_4, rfl, Or.inl (x_at 162 (by decide +kernel) rfl)⟩
theorem lp_Ro_19 : x_pl "SequentMachine$Row" "<init>" 19 4 2 (.int) := ⟨_, ct_4, 3, cy_4, rfl, by decide, ck_4, rfl, cp_4, rfl, cq_4, x_at 162 (by decide +kernel) rfl, Or.inr ⟨rfl, rfl, rfl⟩⟩
theorem lf_It_23 : x_fl "SequentMachine$Item" 23 4 2 := ⟨_, ct_4, 3, rfl, by decide, ck_4, rfl, Or.inr ⟨"SequentMachine", by decide +kernel⟩⟩
theorem lf_Hy_35 : x_fl "SequentMachine$Hypotheses" 35 4 2 := ⟨_, ct_4, 3, rfl, by decide, ck_4, rfl, Or.inr ⟨"SequentMachine", by decide +kernel⟩⟩
theorem lf_Sc_47 : x_fl "SequentMachine$Scribe" 47 4 2 := ⟨_, ct_4, 3, rfl, by decide, ck_4, rfl, Or.inr ⟨"SequentMachine", by decide +kernel⟩⟩
theorem lf_Ma_210 : x_fl "SequentMachine" 210 4 2 := ⟨_, ct_4, 3, rfl, by decide, ck_4, rfl, Or.inr ⟨"SequentMachine", by decide +kernel⟩⟩
theorem lf_It_9 : x_fl "SequentMachine$Item" 9 3 0 := ⟨_, ct_3, 3, rfl, by decide, ck_3, rfl, Or.inl (x_at 183 (by decide +kernel) rfl)⟩
theorem lp_It_9 : x_pl "SequentMachine$Item" "<init>" 9 3 0 (.int) := ⟨_, ct_3, 3, cy_3, rfl, by decide, ck_3, rfl, cp_3, rfl, cq_3, x_at 183 (by decide +kernel) rfl, Or.inr ⟨rfl, rfl, rfl⟩⟩
theorem lf_Ma_204 : x_fl "SequentMachine" 204 3 0 := ⟨_, ct_3, 3, rfl, by decide, ck_3, rfl, Or.inr ⟨"SequentMachine", by decide +kernel⟩⟩
theorem lf_It_15 : x_fl "SequentMachine$Item" 15 3 1 := ⟨_, ct_3, 3, rfl, by decide, ck_3, rfl, Or.inl (x_at 185 (by decide +kernel) rfl)⟩
theorem lp_It_15 : x_pl "SequentMachine$Item" "<init>" 15 3 1 (.object "SequentMachine$Row") := ⟨_, ct_3, 3, cy_3, rfl, by decide, ck_3, rfl, cp_3, rfl, cq_3, x_at 185 (by decide +kernel) rfl, Or.inr ⟨rfl, rfl, rfl⟩⟩
theorem lf_Ma_132 : x_fl "SequentMachine" 132 3 1 := ⟨_, ct_3, 3, rfl, by decide, ck_3, rfl, Or.inr ⟨"SequentMachine", by decide +kernel⟩⟩
theorem lf_It_19 : x_fl "SequentMachine$Item" 19 3 2 := ⟨_, ct_3, 3, rfl, by decide, ck_3, rfl, Or.inl (x_at 187 (by decide +kernel) rfl)⟩
theorem lp_It_19 : x_pl "SequentMachine$Item" "<init>" 19 3 2 (.object "SequentMachine$Hypotheses") := ⟨_, ct_3, 3, cy_3, rfl, by decide, ck_3, rfl, cp_3, rfl, cq_3, x_at 187 (by decide +kernel) rfl, Or.inr ⟨rfl, rfl, rfl⟩⟩
theorem lf_Ma_140 : x_fl "SequentMachine" 140 3 2 := ⟨_, ct_3, 3, rfl, by decide, ck_3, rfl, Or.inr ⟨"SequentMachine", by decide +kernel⟩⟩
theorem lf_Eq_20 : x_fl "SequentMachine$Equation" 20 1 0 := ⟨_, ct_1, 3, rfl, by decide, ck_1, rfl, Or.inl (x_at 432 (by decide +kernel) rfl)⟩
theorem lp_Eq_20 : x_pl "SequentMachine$Equation" "<init>" 20 1 0 (.object "SequentMachine$Row") := ⟨_, ct_1, 3, cy_1, rfl, by decide, ck_1, rfl, cp_1, rfl, cq_1, x_at 432 (by decide +kernel) rfl, Or.inr ⟨rfl, rfl, rfl⟩⟩
theorem lf_Ma_155 : x_fl "SequentMachine" 155 1 0 := ⟨_, ct_1, 3, rfl, by decide, ck_1, rfl, Or.inr ⟨"SequentMachine", by decide +kernel⟩⟩
theorem lf_Eq_26 : x_fl "SequentMachine$Equation" 26 1 1 := ⟨_, ct_1, 3, rfl, by decide, ck_1, rfl, Or.inl (x_at 434 (by decide +kernel) rfl)⟩
theorem lp_Eq_26 : x_pl "SequentMachine$Equation" "<init>" 26 1 1 (.object "SequentMachine$Row") := ⟨_, ct_1, 3, cy_1, rfl, by decide, ck_1, rfl, cp_1, rfl, cq_1, x_at 434 (by decide +kernel) rfl, Or.inr ⟨rfl, rfl, rfl⟩⟩
theorem lf_Ma_147 : x_fl "SequentMachine" 147 1 1 := ⟨_, ct_1, 3, rfl, by decide, ck_1, rfl, Or.inr ⟨"SequentMachine", by decide +kernel⟩⟩
theorem lf_Eq_33 : x_fl "SequentMachine$Equation" 33 1 2 := ⟨_, ct_1, 3, rfl, by decide, ck_1, rfl, Or.inl (x_at 436 (by decide +kernel) rfl)⟩
theorem lp_Eq_33 : x_pl "SequentMachine$Equation" "<init>" 33 1 2 (.object "SequentMachine$Row") := ⟨_, ct_1, 3, cy_1, rfl, by decide, ck_1, rfl, cp_1, rfl, cq_1, x_at 436 (by decide +kernel) rfl, Or.inr ⟨rfl, rfl, rfl⟩⟩
theorem lf_Ma_152 : x_fl "SequentMachine" 152 1 2 := ⟨_, ct_1, 3, rfl, by decide, ck_1, rfl, Or.inr ⟨"SequentMachine", by decide +kernel⟩⟩
theorem lf_Re_7 : x_fl "SequentMachineModel" 7 8 0 := ⟨_, ct_8, 15, rfl, by decide, ck_8, rfl, Or.inl (x_at 558 (by decide +kernel) rfl)⟩
theorem lp_Re_7 : x_pl "SequentMachineModel" "<init>" 7 8 0 (.array .int) := ⟨_, ct_8, 15, cy_8, rfl, by decide, ck_8, rfl, cp_8, rfl, cq_8, x_at 558 (by decide +kernel) rfl, Or.inr ⟨rfl, rfl, rfl⟩⟩
theorem lf_Re_13 : x_fl "SequentMachineModel" 13 8 1 := ⟨_, ct_8, 15, rfl, by decide, ck_8, rfl, Or.inl (x_at 559 (by decide +kernel) rfl)⟩
theorem lp_Re_13 : x_pl "SequentMachineModel" "<init>" 13 8 1 (.array .int) := ⟨_, ct_8, 15, cy_8, rfl, by decide, ck_8, rfl, cp_8, rfl, cq_8, x_at 559 (by decide +kernel) rfl, Or.inr ⟨rfl, rfl, rfl⟩⟩
theorem lf_Re_16 : x_fl "SequentMachineModel" 16 8 2 := ⟨_, ct_8, 15, rfl, by decide, ck_8, rfl, Or.inl (x_at 560 (by decide +kernel) rfl)⟩
theorem lp_Re_16 : x_pl "SequentMachineModel" "<init>" 16 8 2 (.array .int) := ⟨_, ct_8, 15, cy_8, rfl, by decide, ck_8, rfl, cp_8, rfl, cq_8, x_at 560 (by decide +kernel) rfl, Or.inr ⟨rfl, rfl, rfl⟩⟩
theorem lf_Re_19 : x_fl "SequentMachineModel" 19 8 3 := ⟨_, ct_8, 15, rfl, by decide, ck_8, rfl, Or.inl (x_at 561 (by decide +kernel) rfl)⟩
theorem lp_Re_19 : x_pl "SequentMachineModel" "<init>" 19 8 3 (.array .int) := ⟨_, ct_8, 15, cy_8, rfl, by decide, ck_8, rfl, cp_8, rfl, cq_8, x_at 561 (by decide +kernel) rfl, Or.inr ⟨rfl, rfl, rfl⟩⟩
theorem lf_Re_79 : x_fl "SequentMachineModel" 79 8 4 := ⟨_, ct_8, 15, rfl, by decide, ck_8, rfl, Or.inl (x_at 562 (by decide +kernel) rfl)⟩
theorem lp_Re_79 {nm : String} : x_pl "SequentMachineModel" nm 79 8 4 (.int) := ⟨_, ct_8, 15, cy_8, rfl, by decide, ck_8, rfl, cp_8, rfl, cq_8, x_at 562 (by decide +kernel) rfl, Or.inl rfl⟩
theorem lf_Re_152 : x_fl "SequentMachineModel" 152 8 5 := ⟨_, ct_8, 15, rfl, by decide, ck_8, rfl, Or.inl (x_at 563 (by decide +kernel) rfl)⟩
theorem lp_Re_152 {nm : String} : x_pl "SequentMachineModel" nm 152 8 5 (.int) := ⟨_, ct_8, 15, cy_8, rfl, by decide, ck_8, rfl, cp_8, rfl, cq_8, x_at 563 (by decide +kernel) rfl, Or.inl rfl⟩
theorem lf_Re_182 : x_fl "SequentMachineModel" 182 8 6 := ⟨_, ct_8, 15, rfl, by decide, ck_8, rfl, Or.inl (x_at 564 (by decide +kernel) rfl)⟩
theorem lp_Re_182 {nm : String} : x_pl "SequentMachineModel" nm 182 8 6 (.int) := ⟨_, ct_8, 15, cy_8, rfl, by decide, ck_8, rfl, cp_8, rfl, cq_8, x_at 564 (by decide +kernel) rfl, Or.inl rfl⟩
theorem lf_Re_103 : x_fl "SequentMachineModel" 103 8 7 := ⟨_, ct_8, 15, rfl, by decide, ck_8, rfl, Or.inl (x_at 565 (by decide +kernel) rfl)⟩
theorem lp_Re_103 {nm : String} : x_pl "SequentMachineModel" nm 103 8 7 (.int) := ⟨_, ct_8, 15, cy_8, rfl, by decide, ck_8, rfl, cp_8, rfl, cq_8, x_at 565 (by decide +kernel) rfl, Or.inl rfl⟩
theorem lf_Re_76 : x_fl "SequentMachineModel" 76 8 8 := ⟨_, ct_8, 15, rfl, by decide, ck_8, rfl, Or.inl (x_at 566 (by decide +kernel) rfl)⟩
theorem lp_Re_76 {nm : String} : x_pl "SequentMachineModel" nm 76 8 8 (.int) := ⟨_, ct_8, 15, cy_8, rfl, by decide, ck_8, rfl, cp_8, rfl, cq_8, x_at 566 (by decide +kernel) rfl, Or.inl rfl⟩
theorem lf_Re_22 : x_fl "SequentMachineModel" 22 8 9 := ⟨_, ct_8, 15, rfl, by decide, ck_8, rfl, Or.inl (x_at 567 (by decide +kernel) rfl)⟩
theorem lp_Re_22 : x_pl "SequentMachineModel" "<init>" 22 8 9 (.array .int) := ⟨_, ct_8, 15, cy_8, rfl, by decide, ck_8, rfl, cp_8, rfl, cq_8, x_at 567 (by decide +kernel) rfl, Or.inr ⟨rfl, rfl, rfl⟩⟩
theorem lf_Re_25 : x_fl "SequentMachineModel" 25 8 10 := ⟨_, ct_8, 15, rfl, by decide, ck_8, rfl, Or.inl (x_at 568 (by decide +kernel) rfl)⟩
theorem lp_Re_25 : x_pl "SequentMachineModel" "<init>" 25 8 10 (.array .int) := ⟨_, ct_8, 15, cy_8, rfl, by decide, ck_8, rfl, cp_8, rfl, cq_8, x_at 568 (by decide +kernel) rfl, Or.inr ⟨rfl, rfl, rfl⟩⟩
theorem lf_Re_28 : x_fl "SequentMachineModel" 28 8 11 := ⟨_, ct_8, 15, rfl, by decide, ck_8, rfl, Or.inl (x_at 569 (by decide +kernel) rfl)⟩
theorem lp_Re_28 {nm : String} : x_pl "SequentMachineModel" nm 28 8 11 (.int) := ⟨_, ct_8, 15, cy_8, rfl, by decide, ck_8, rfl, cp_8, rfl, cq_8, x_at 569 (by decide +kernel) rfl, Or.inl rfl⟩
theorem lf_Re_50 : x_fl "SequentMachineModel" 50 8 12 := ⟨_, ct_8, 15, rfl, by decide, ck_8, rfl, Or.inl (x_at 570 (by decide +kernel) rfl)⟩
theorem lp_Re_50 {nm : String} : x_pl "SequentMachineModel" nm 50 8 12 (.boolean) := ⟨_, ct_8, 15, cy_8, rfl, by decide, ck_8, rfl, cp_8, rfl, cq_8, x_at 570 (by decide +kernel) rfl, Or.inl rfl⟩
theorem lf_Re_109 : x_fl "SequentMachineModel" 109 8 13 := ⟨_, ct_8, 15, rfl, by decide, ck_8, rfl, Or.inl (x_at 571 (by decide +kernel) rfl)⟩
theorem lp_Re_109 {nm : String} : x_pl "SequentMachineModel" nm 109 8 13 (.int) := ⟨_, ct_8, 15, cy_8, rfl, by decide, ck_8, rfl, cp_8, rfl, cq_8, x_at 571 (by decide +kernel) rfl, Or.inl rfl⟩
theorem lf_Re_112 : x_fl "SequentMachineModel" 112 8 14 := ⟨_, ct_8, 15, rfl, by decide, ck_8, rfl, Or.inl (x_at 572 (by decide +kernel) rfl)⟩
theorem lp_Re_112 {nm : String} : x_pl "SequentMachineModel" nm 112 8 14 (.int) := ⟨_, ct_8, 15, cy_8, rfl, by decide, ck_8, rfl, cp_8, rfl, cq_8, x_at 572 (by decide +kernel) rfl, Or.inl rfl⟩
theorem ln_Ma_7 : x_nl "SequentMachine" 7 5 [.inr none, .inl 0, .inr none, .inr none] := ⟨_, ct_5, 4, cy_5, rfl, rfl, ck_5, cp_5, fun b j hj => by rcases (show j = 0 ∨ j = 1 ∨ j = 2 ∨ j = 3 by omega) with rfl | rfl | rfl | rfl <;> rfl, x_at 21 (by decide +kernel) rfl, x_at 22 (by decide +kernel) rfl, x_at 2 (by decide +kernel) rfl⟩
theorem ln_Sc_15 : x_nl "SequentMachine$Scribe" 15 0 [.inr none, .inl 0, .inl 0] := ⟨_, ct_0, 3, cy_0, rfl, rfl, ck_0, cp_0, fun b j hj => by rcases (show j = 0 ∨ j = 1 ∨ j = 2 by omega) with rfl | rfl | rfl <;> rfl, x_at 27 (by decide +kernel) rfl, x_at 28 (by decide +kernel) rfl, x_at 3 (by decide +kernel) rfl⟩
theorem ln_Sc_22 : x_nl "SequentMachine$Scribe" 22 4 [.inr none, .inl 0, .inl 0] := ⟨_, ct_4, 3, cy_4, rfl, rfl, ck_4, cp_4, fun b j hj => by rcases (show j = 0 ∨ j = 1 ∨ j = 2 by omega) with rfl | rfl | rfl <;> rfl, x_at 45 (by decide +kernel) rfl, x_at 138 (by decide +kernel) rfl, x_at 7 (by decide +kernel) rfl⟩
theorem la_Sc_22 : x_al "SequentMachine$Scribe" 22 0 := ⟨by decide, x_at 45 (by decide +kernel) rfl⟩
theorem ln_Ma_16 : x_nl "SequentMachine" 16 6 [.inr none, .inl 0] := ⟨_, ct_6, 2, cy_6, rfl, rfl, ck_6, cp_6, fun b j hj => by rcases (show j = 0 ∨ j = 1 by omega) with rfl | rfl <;> rfl, x_at 60 (by decide +kernel) rfl, x_at 61 (by decide +kernel) rfl, x_at 4 (by decide +kernel) rfl⟩
theorem ln_Sh_7 : x_nl "SequentMachine$Shelf" 7 3 [.inl 0, .inr none, .inr none] := ⟨_, ct_3, 3, cy_3, rfl, rfl, ck_3, cp_3, fun b j hj => by rcases (show j = 0 ∨ j = 1 ∨ j = 2 by omega) with rfl | rfl | rfl <;> rfl, x_at 66 (by decide +kernel) rfl, x_at 178 (by decide +kernel) rfl, x_at 11 (by decide +kernel) rfl⟩
theorem la_Sh_7 : x_al "SequentMachine$Shelf" 7 1 := ⟨by decide, x_at 66 (by decide +kernel) rfl⟩
theorem ln_Ma_31 : x_nl "SequentMachine" 31 3 [.inl 0, .inr none, .inr none] := ⟨_, ct_3, 3, cy_3, rfl, rfl, ck_3, cp_3, fun b j hj => by rcases (show j = 0 ∨ j = 1 ∨ j = 2 by omega) with rfl | rfl | rfl <;> rfl, x_at 76 (by decide +kernel) rfl, x_at 178 (by decide +kernel) rfl, x_at 11 (by decide +kernel) rfl⟩
theorem la_Ma_31 : x_al "SequentMachine" 31 1 := ⟨by decide, x_at 76 (by decide +kernel) rfl⟩
theorem ln_Ma_37 : x_nl "SequentMachine" 37 4 [.inr none, .inl 0, .inl 0] := ⟨_, ct_4, 3, cy_4, rfl, rfl, ck_4, cp_4, fun b j hj => by rcases (show j = 0 ∨ j = 1 ∨ j = 2 by omega) with rfl | rfl | rfl <;> rfl, x_at 77 (by decide +kernel) rfl, x_at 138 (by decide +kernel) rfl, x_at 7 (by decide +kernel) rfl⟩
theorem la_Ma_37 : x_al "SequentMachine" 37 0 := ⟨by decide, x_at 77 (by decide +kernel) rfl⟩
theorem ln_Ma_43 : x_nl "SequentMachine" 43 2 [.inr none, .inl 0] := ⟨_, ct_2, 2, cy_2, rfl, rfl, ck_2, cp_2, fun b j hj => by rcases (show j = 0 ∨ j = 1 by omega) with rfl | rfl <;> rfl, x_at 78 (by decide +kernel) rfl, x_at 79 (by decide +kernel) rfl, x_at 5 (by decide +kernel) rfl⟩
theorem ln_Hy_9 : x_nl "SequentMachine$Hypotheses" 9 4 [.inr none, .inl 0, .inl 0] := ⟨_, ct_4, 3, cy_4, rfl, rfl, ck_4, cp_4, fun b j hj => by rcases (show j = 0 ∨ j = 1 ∨ j = 2 by omega) with rfl | rfl | rfl <;> rfl, x_at 84 (by decide +kernel) rfl, x_at 138 (by decide +kernel) rfl, x_at 7 (by decide +kernel) rfl⟩
theorem la_Hy_9 : x_al "SequentMachine$Hypotheses" 9 0 := ⟨by decide, x_at 84 (by decide +kernel) rfl⟩
theorem ln_Ro_10 : x_nl "SequentMachine$Row" 10 4 [.inr none, .inl 0, .inl 0] := ⟨_, ct_4, 3, cy_4, rfl, rfl, ck_4, cp_4, fun b j hj => by rcases (show j = 0 ∨ j = 1 ∨ j = 2 by omega) with rfl | rfl | rfl <;> rfl, x_at 275 (by decide +kernel) rfl, x_at 138 (by decide +kernel) rfl, x_at 7 (by decide +kernel) rfl⟩
theorem la_Ro_10 : x_al "SequentMachine$Row" 10 0 := ⟨by decide, x_at 275 (by decide +kernel) rfl⟩
theorem ln_Ma_148 : x_nl "SequentMachine" 148 1 [.inr none, .inr none, .inr none] := ⟨_, ct_1, 3, cy_1, rfl, rfl, ck_1, cp_1, fun b j hj => by rcases (show j = 0 ∨ j = 1 ∨ j = 2 by omega) with rfl | rfl | rfl <;> rfl, x_at 423 (by decide +kernel) rfl, x_at 424 (by decide +kernel) rfl, x_at 12 (by decide +kernel) rfl⟩
theorem lo_Ma_1 : Cond.methodLink "SequentMachine" 1 objectInit ∈ x_ws ∧ Cond.instanceMethod objectInit ∈ x_ws ∧ Cond.code objectInit ⟨#[0xb1]⟩ 1 none ∈ x_ws := ⟨x_at 18 (by decide +kernel) rfl, x_at 19 (by decide +kernel) rfl, x_at 20 (by decide +kernel) rfl⟩
theorem lm_Ma_9 : x_ml "SequentMachine" 9 mm_Sc_init.1 := Or.inr ⟨"SequentMachine", by decide +kernel⟩
theorem lo_Sc_3 : Cond.methodLink "SequentMachine$Scribe" 3 objectInit ∈ x_ws ∧ Cond.instanceMethod objectInit ∈ x_ws ∧ Cond.code objectInit ⟨#[0xb1]⟩ 1 none ∈ x_ws := ⟨x_at 26 (by decide +kernel) rfl, x_at 19 (by decide +kernel) rfl, x_at 20 (by decide +kernel) rfl⟩
theorem lm_Sc_17 : x_ml "SequentMachine$Scribe" 17 mm_De_init.1 := Or.inr ⟨"SequentMachine", by decide +kernel⟩
theorem lo_De_3 : Cond.methodLink "SequentMachine$Depth" 3 objectInit ∈ x_ws ∧ Cond.instanceMethod objectInit ∈ x_ws ∧ Cond.code objectInit ⟨#[0xb1]⟩ 1 none ∈ x_ws := ⟨x_at 32 (by decide +kernel) rfl, x_at 19 (by decide +kernel) rfl, x_at 20 (by decide +kernel) rfl⟩
theorem lm_Ma_18 : x_ml "SequentMachine" 18 mm_Sh_init.1 := Or.inl (x_at 62 (by decide +kernel) rfl)
theorem lo_Sh_1 : Cond.methodLink "SequentMachine$Shelf" 1 objectInit ∈ x_ws ∧ Cond.instanceMethod objectInit ∈ x_ws ∧ Cond.code objectInit ⟨#[0xb1]⟩ 1 none ∈ x_ws := ⟨x_at 65 (by decide +kernel) rfl, x_at 19 (by decide +kernel) rfl, x_at 20 (by decide +kernel) rfl⟩
theorem lm_Ma_45 : x_ml "SequentMachine" 45 mm_Hy_init.1 := Or.inr ⟨"SequentMachine", by decide +kernel⟩
theorem lo_Hy_3 : Cond.methodLink "SequentMachine$Hypotheses" 3 objectInit ∈ x_ws ∧ Cond.instanceMethod objectInit ∈ x_ws ∧ Cond.code objectInit ⟨#[0xb1]⟩ 1 none ∈ x_ws := ⟨x_at 83 (by decide +kernel) rfl, x_at 19 (by decide +kernel) rfl, x_at 20 (by decide +kernel) rfl⟩
theorem lm_Ma_57 : x_ml "SequentMachine" 57 mm_Sc_simpleType.1 := Or.inl (x_at 126 (by decide +kernel) rfl)
theorem lm_Sc_28 : x_ml "SequentMachine$Scribe" 28 mm_Sc_put.1 := Or.inl (x_at 130 (by decide +kernel) rfl)
theorem lm_Sc_32 : x_ml "SequentMachine$Scribe" 32 mm_Sc_finishedRow.1 := Or.inl (x_at 134 (by decide +kernel) rfl)
theorem lm_Sc_83 : x_ml "SequentMachine$Scribe" 83 mm_Ar_copyOf.1 := Or.inl (x_at 139 (by decide +kernel) rfl)
theorem lm_Ar_304 : x_ml "java/util/Arrays" 304 mm_Mt_min.1 := Or.inl (x_at 149 (by decide +kernel) rfl)
theorem lm_Sc_89 : x_ml "SequentMachine$Scribe" 89 mm_Ro_init.1 := Or.inl (x_at 155 (by decide +kernel) rfl)
theorem lo_Ro_3 : Cond.methodLink "SequentMachine$Row" 3 objectInit ∈ x_ws ∧ Cond.instanceMethod objectInit ∈ x_ws ∧ Cond.code objectInit ⟨#[0xb1]⟩ 1 none ∈ x_ws := ⟨x_at 158 (by decide +kernel) rfl, x_at 19 (by decide +kernel) rfl, x_at 20 (by decide +kernel) rfl⟩
theorem lm_Ma_61 : x_ml "SequentMachine" 61 mm_Ma_finishType.1 := Or.inl (x_at 174 (by decide +kernel) rfl)
theorem lm_Ma_226 : x_ml "SequentMachine" 226 mm_It_init.1 := Or.inl (x_at 179 (by decide +kernel) rfl)
theorem lo_It_3 : Cond.methodLink "SequentMachine$Item" 3 objectInit ∈ x_ws ∧ Cond.instanceMethod objectInit ∈ x_ws ∧ Cond.code objectInit ⟨#[0xb1]⟩ 1 none ∈ x_ws := ⟨x_at 182 (by decide +kernel) rfl, x_at 19 (by decide +kernel) rfl, x_at 20 (by decide +kernel) rfl⟩
theorem lm_Ma_182 : x_ml "SequentMachine" 182 mm_Ma_finish.1 := Or.inl (x_at 196 (by decide +kernel) rfl)
theorem lm_Ma_256 : x_ml "SequentMachine" 256 mm_It_isSmallEnough.1 := Or.inl (x_at 200 (by decide +kernel) rfl)
theorem lm_It_28 : x_ml "SequentMachine$Item" 28 mm_Hy_areSmallEnough.1 := Or.inl (x_at 204 (by decide +kernel) rfl)
theorem lm_Ma_189 : x_ml "SequentMachine" 189 mm_Ma_finishEmptyHanded.1 := Or.inl (x_at 208 (by decide +kernel) rfl)
theorem lm_Ma_259 : x_ml "SequentMachine" 259 mm_Sh_drop.1 := Or.inl (x_at 212 (by decide +kernel) rfl)
theorem lm_Sh_19 : x_ml "SequentMachine$Shelf" 19 mm_Mt_max.1 := Or.inl (x_at 216 (by decide +kernel) rfl)
theorem lm_Ma_197 : x_ml "SequentMachine" 197 mm_Sh_add.1 := Or.inl (x_at 219 (by decide +kernel) rfl)
theorem lm_Ma_65 : x_ml "SequentMachine" 65 mm_Ma_rowBelow.1 := Or.inl (x_at 223 (by decide +kernel) rfl)
theorem lm_Ma_118 : x_ml "SequentMachine" 118 mm_Ma_itemBelow.1 := Or.inl (x_at 227 (by decide +kernel) rfl)
theorem lm_Ma_178 : x_ml "SequentMachine" 178 mm_Sh_below.1 := Or.inl (x_at 231 (by decide +kernel) rfl)
theorem lm_Ma_69 : x_ml "SequentMachine" 69 mm_Sc_functionType.1 := Or.inl (x_at 235 (by decide +kernel) rfl)
theorem lm_Sc_36 : x_ml "SequentMachine$Scribe" 36 mm_Sc_putRow.1 := Or.inl (x_at 239 (by decide +kernel) rfl)
theorem lm_Sc_51 : x_ml "SequentMachine$Scribe" 51 mm_Ro_at.1 := Or.inl (x_at 243 (by decide +kernel) rfl)
theorem lm_Ma_73 : x_ml "SequentMachine" 73 mm_Sc_leaf.1 := Or.inl (x_at 251 (by decide +kernel) rfl)
theorem lm_Ma_77 : x_ml "SequentMachine" 77 mm_Ma_finishTerm.1 := Or.inl (x_at 255 (by decide +kernel) rfl)
theorem lm_Ma_80 : x_ml "SequentMachine" 80 mm_Sc_typeOf.1 := Or.inl (x_at 267 (by decide +kernel) rfl)
theorem lm_Sc_40 : x_ml "SequentMachine$Scribe" 40 mm_Ro_typeAt.1 := Or.inl (x_at 271 (by decide +kernel) rfl)
theorem lm_Ro_32 : x_ml "SequentMachine$Row" 32 mm_Ro_typeEnd.1 := Or.inl (x_at 276 (by decide +kernel) rfl)
theorem lm_Ro_25 : x_ml "SequentMachine$Row" 25 mm_Ro_at.1 := Or.inl (x_at 280 (by decide +kernel) rfl)
theorem lm_Ro_22 : x_ml "SequentMachine$Row" 22 mm_Ro_init.1 := Or.inl (x_at 281 (by decide +kernel) rfl)
theorem lm_Sc_69 : x_ml "SequentMachine$Scribe" 69 mm_Sc_putLeafType.1 := Or.inl (x_at 282 (by decide +kernel) rfl)
theorem lm_Sc_73 : x_ml "SequentMachine$Scribe" 73 mm_Sc_putEqualType.1 := Or.inl (x_at 286 (by decide +kernel) rfl)
theorem lm_Sc_77 : x_ml "SequentMachine$Scribe" 77 mm_Ro_functionResult.1 := Or.inl (x_at 290 (by decide +kernel) rfl)
theorem lm_Ma_84 : x_ml "SequentMachine" 84 mm_Ma_takesArgument.1 := Or.inl (x_at 294 (by decide +kernel) rfl)
theorem lm_Ma_211 : x_ml "SequentMachine" 211 mm_Ro_at.1 := Or.inl (x_at 298 (by decide +kernel) rfl)
theorem lm_Ma_253 : x_ml "SequentMachine" 253 mm_Ro_functionArgument.1 := Or.inl (x_at 299 (by decide +kernel) rfl)
theorem lm_Ro_35 : x_ml "SequentMachine$Row" 35 mm_Ro_typeAt.1 := Or.inl (x_at 303 (by decide +kernel) rfl)
theorem lm_Ma_158 : x_ml "SequentMachine" 158 mm_Ro_same.1 := Or.inl (x_at 304 (by decide +kernel) rfl)
theorem lm_Ro_39 : x_ml "SequentMachine$Row" 39 mm_Ro_holdsAt.1 := Or.inl (x_at 308 (by decide +kernel) rfl)
theorem lm_Ma_88 : x_ml "SequentMachine" 88 mm_Sc_application.1 := Or.inl (x_at 312 (by decide +kernel) rfl)
theorem lm_Ma_91 : x_ml "SequentMachine" 91 mm_Ma_variableBelow.1 := Or.inl (x_at 320 (by decide +kernel) rfl)
theorem lm_Ma_94 : x_ml "SequentMachine" 94 mm_Sc_abstraction.1 := Or.inl (x_at 324 (by decide +kernel) rfl)
theorem lm_Sc_44 : x_ml "SequentMachine$Scribe" 44 mm_De_begin.1 := Or.inl (x_at 328 (by decide +kernel) rfl)
theorem lm_Sc_55 : x_ml "SequentMachine$Scribe" 55 mm_De_pass.1 := Or.inl (x_at 332 (by decide +kernel) rfl)
theorem lm_De_22 : x_ml "SequentMachine$Depth" 22 mm_Ro_termsWithin.1 := Or.inl (x_at 336 (by decide +kernel) rfl)
theorem lm_Sc_58 : x_ml "SequentMachine$Scribe" 58 mm_Ro_holdsAt.1 := Or.inl (x_at 339 (by decide +kernel) rfl)
theorem lm_Ma_97 : x_ml "SequentMachine" 97 mm_Sc_equation.1 := Or.inl (x_at 344 (by decide +kernel) rfl)
theorem lm_Ma_101 : x_ml "SequentMachine" 101 mm_Ma_finishTheorem.1 := Or.inl (x_at 348 (by decide +kernel) rfl)
theorem lm_Ma_105 : x_ml "SequentMachine" 105 mm_Ma_assume.1 := Or.inl (x_at 352 (by decide +kernel) rfl)
theorem lm_Ma_170 : x_ml "SequentMachine" 170 mm_Hy_add.1 := Or.inl (x_at 356 (by decide +kernel) rfl)
theorem lm_Hy_21 : x_ml "SequentMachine$Hypotheses" 21 mm_Ro_comesBefore.1 := Or.inl (x_at 360 (by decide +kernel) rfl)
theorem lm_Hy_25 : x_ml "SequentMachine$Hypotheses" 25 mm_Ro_same.1 := Or.inl (x_at 364 (by decide +kernel) rfl)
theorem lm_Ma_109 : x_ml "SequentMachine" 109 mm_Ma_reduce.1 := Or.inl (x_at 365 (by decide +kernel) rfl)
theorem lm_Ma_214 : x_ml "SequentMachine" 214 mm_Ro_typeEnd.1 := Or.inl (x_at 369 (by decide +kernel) rfl)
theorem lm_Ma_217 : x_ml "SequentMachine" 217 mm_Ro_termEnd.1 := Or.inl (x_at 370 (by decide +kernel) rfl)
theorem lm_Ro_29 : x_ml "SequentMachine$Row" 29 mm_Ro_termsWithin.1 := Or.inl (x_at 374 (by decide +kernel) rfl)
theorem lm_Ma_220 : x_ml "SequentMachine" 220 mm_Ro_part.1 := Or.inl (x_at 375 (by decide +kernel) rfl)
theorem lm_Ma_223 : x_ml "SequentMachine" 223 mm_Sc_replaceOutermost.1 := Or.inl (x_at 379 (by decide +kernel) rfl)
theorem lm_Ma_112 : x_ml "SequentMachine" 112 mm_Ma_addAxiom.1 := Or.inl (x_at 383 (by decide +kernel) rfl)
theorem lm_Ma_193 : x_ml "SequentMachine" 193 mm_Sh_isFull.1 := Or.inl (x_at 387 (by decide +kernel) rfl)
theorem lm_Ma_115 : x_ml "SequentMachine" 115 mm_Ma_define.1 := Or.inl (x_at 391 (by decide +kernel) rfl)
theorem lm_Ma_229 : x_ml "SequentMachine" 229 mm_Ro_hasFreeVariable.1 := Or.inl (x_at 395 (by decide +kernel) rfl)
theorem lm_Ro_43 : x_ml "SequentMachine$Row" 43 mm_Ro_has.1 := Or.inl (x_at 399 (by decide +kernel) rfl)
theorem lm_Ma_232 : x_ml "SequentMachine" 232 mm_Ro_typeVariablesStandIn.1 := Or.inl (x_at 403 (by decide +kernel) rfl)
theorem lm_Ro_47 : x_ml "SequentMachine$Row" 47 mm_Ro_isOfType.1 := Or.inl (x_at 407 (by decide +kernel) rfl)
theorem lm_Ma_122 : x_ml "SequentMachine" 122 mm_Ma_followEquation.1 := Or.inl (x_at 415 (by decide +kernel) rfl)
theorem lm_Ma_136 : x_ml "SequentMachine" 136 mm_Ma_equationIn.1 := Or.inl (x_at 419 (by decide +kernel) rfl)
theorem lm_Ma_251 : x_ml "SequentMachine" 251 mm_Eq_init.1 := Or.inl (x_at 425 (by decide +kernel) rfl)
theorem lo_Eq_1 : Cond.methodLink "SequentMachine$Equation" 1 objectInit ∈ x_ws ∧ Cond.instanceMethod objectInit ∈ x_ws ∧ Cond.code objectInit ⟨#[0xb1]⟩ 1 none ∈ x_ws := ⟨x_at 428 (by decide +kernel) rfl, x_at 19 (by decide +kernel) rfl, x_at 20 (by decide +kernel) rfl⟩
theorem lm_Eq_7 : x_ml "SequentMachine$Equation" 7 mm_Ro_typeEnd.1 := Or.inl (x_at 429 (by decide +kernel) rfl)
theorem lm_Eq_13 : x_ml "SequentMachine$Equation" 13 mm_Ro_termEnd.1 := Or.inl (x_at 430 (by decide +kernel) rfl)
theorem lm_Eq_16 : x_ml "SequentMachine$Equation" 16 mm_Ro_part.1 := Or.inl (x_at 431 (by decide +kernel) rfl)
theorem lm_Ma_235 : x_ml "SequentMachine" 235 mm_Ma_hypothesesOfBoth.1 := Or.inl (x_at 445 (by decide +kernel) rfl)
theorem lm_Ma_247 : x_ml "SequentMachine" 247 mm_Hy_addAll.1 := Or.inl (x_at 449 (by decide +kernel) rfl)
theorem lm_Hy_28 : x_ml "SequentMachine$Hypotheses" 28 mm_Hy_add.1 := Or.inl (x_at 453 (by decide +kernel) rfl)
theorem lm_Ma_126 : x_ml "SequentMachine" 126 mm_Ma_applyEquations.1 := Or.inl (x_at 454 (by decide +kernel) rfl)
theorem lm_Ma_239 : x_ml "SequentMachine" 239 mm_Ro_functionResult.1 := Or.inl (x_at 458 (by decide +kernel) rfl)
theorem lm_Ma_129 : x_ml "SequentMachine" 129 mm_Ma_deduct.1 := Or.inl (x_at 459 (by decide +kernel) rfl)
theorem lm_Ma_243 : x_ml "SequentMachine" 243 mm_Hy_addAllBut.1 := Or.inl (x_at 463 (by decide +kernel) rfl)
theorem lm_Ma_143 : x_ml "SequentMachine" 143 mm_Hy_haveFree.1 := Or.inl (x_at 471 (by decide +kernel) rfl)
theorem lm_Hy_32 : x_ml "SequentMachine$Hypotheses" 32 mm_Ro_hasFree.1 := Or.inl (x_at 475 (by decide +kernel) rfl)
theorem lm_Ma_167 : x_ml "SequentMachine" 167 mm_Sc_replaceVariable.1 := Or.inl (x_at 483 (by decide +kernel) rfl)
theorem lm_Ma_174 : x_ml "SequentMachine" 174 mm_Sc_replaceTypeVariable.1 := Or.inl (x_at 491 (by decide +kernel) rfl)
theorem lm_Sc_65 : x_ml "SequentMachine$Scribe" 65 mm_Ro_isOfType.1 := Or.inl (x_at 495 (by decide +kernel) rfl)
theorem lm_Ma_186 : x_ml "SequentMachine" 186 mm_Ma_keptFor.1 := Or.inl (x_at 504 (by decide +kernel) rfl)
theorem lm_Ma_201 : x_ml "SequentMachine" 201 mm_Ma_itemAt.1 := Or.inl (x_at 524 (by decide +kernel) rfl)
theorem lm_Ma_262 : x_ml "SequentMachine" 262 mm_Sh_get.1 := Or.inl (x_at 528 (by decide +kernel) rfl)
theorem lm_Ma_207 : x_ml "SequentMachine" 207 mm_Ma_partAt.1 := Or.inl (x_at 540 (by decide +kernel) rfl)
theorem lm_Ma_265 : x_ml "SequentMachine" 265 mm_Hy_get.1 := Or.inl (x_at 544 (by decide +kernel) rfl)
theorem lo_Re_1 : Cond.methodLink "SequentMachineModel" 1 objectInit ∈ x_ws ∧ Cond.instanceMethod objectInit ∈ x_ws ∧ Cond.code objectInit ⟨#[0xb1]⟩ 1 none ∈ x_ws := ⟨x_at 557 (by decide +kernel) rfl, x_at 19 (by decide +kernel) rfl, x_at 20 (by decide +kernel) rfl⟩
theorem lm_Re_85 : x_ml "SequentMachineModel" 85 mm_Re_top.1 := Or.inl (x_at 608 (by decide +kernel) rfl)
theorem lm_Re_88 : x_ml "SequentMachineModel" 88 mm_Re_begin.1 := Or.inl (x_at 612 (by decide +kernel) rfl)
theorem lm_Re_32 : x_ml "SequentMachineModel" 32 mm_Re_emit.1 := Or.inl (x_at 616 (by decide +kernel) rfl)
theorem lm_Re_66 : x_ml "SequentMachineModel" 66 mm_Re_part.1 := Or.inl (x_at 620 (by decide +kernel) rfl)
theorem lm_Re_54 : x_ml "SequentMachineModel" 54 mm_Re_base.1 := Or.inl (x_at 624 (by decide +kernel) rfl)
theorem lm_Re_91 : x_ml "SequentMachineModel" 91 mm_Re_done.1 := Or.inl (x_at 627 (by decide +kernel) rfl)
theorem lm_Re_82 : x_ml "SequentMachineModel" 82 mm_Re_copyObject.1 := Or.inl (x_at 631 (by decide +kernel) rfl)
theorem lm_Re_62 : x_ml "SequentMachineModel" 62 mm_Re_movePart.1 := Or.inl (x_at 635 (by decide +kernel) rfl)
theorem lm_Re_94 : x_ml "SequentMachineModel" 94 mm_Re_rowOf.1 := Or.inl (x_at 639 (by decide +kernel) rfl)
theorem lm_Re_97 : x_ml "SequentMachineModel" 97 mm_Re_rowEnd.1 := Or.inl (x_at 643 (by decide +kernel) rfl)
theorem lm_Re_43 : x_ml "SequentMachineModel" 43 mm_Re_emitRow.1 := Or.inl (x_at 647 (by decide +kernel) rfl)
theorem lm_Re_100 : x_ml "SequentMachineModel" 100 mm_Re_leaf.1 := Or.inl (x_at 655 (by decide +kernel) rfl)
theorem lm_Re_115 : x_ml "SequentMachineModel" 115 mm_Re_fits.1 := Or.inl (x_at 667 (by decide +kernel) rfl)
theorem lm_Re_106 : x_ml "SequentMachineModel" 106 mm_Re_typeOf.1 := Or.inl (x_at 671 (by decide +kernel) rfl)
theorem lm_Re_36 : x_ml "SequentMachineModel" 36 mm_Re_skipType.1 := Or.inl (x_at 675 (by decide +kernel) rfl)
theorem lm_Re_47 : x_ml "SequentMachineModel" 47 mm_Re_equalAt.1 := Or.inl (x_at 679 (by decide +kernel) rfl)
theorem lm_Re_69 : x_ml "SequentMachineModel" 69 mm_Re_sameRow.1 := Or.inl (x_at 683 (by decide +kernel) rfl)
theorem lm_Re_126 : x_ml "SequentMachineModel" 126 mm_Re_variable.1 := Or.inl (x_at 691 (by decide +kernel) rfl)
theorem lm_Re_130 : x_ml "SequentMachineModel" 130 mm_Re_emitAbs.1 := Or.inl (x_at 695 (by decide +kernel) rfl)
theorem lm_Re_119 : x_ml "SequentMachineModel" 119 mm_Re_stands.1 := Or.inl (x_at 699 (by decide +kernel) rfl)
theorem lm_Re_123 : x_ml "SequentMachineModel" 123 mm_Re_depth.1 := Or.inl (x_at 703 (by decide +kernel) rfl)
theorem lm_Re_40 : x_ml "SequentMachineModel" 40 mm_Re_skipTerm.1 := Or.inl (x_at 707 (by decide +kernel) rfl)
theorem lm_Re_133 : x_ml "SequentMachineModel" 133 mm_Re_isBool.1 := Or.inl (x_at 715 (by decide +kernel) rfl)
theorem lm_Re_136 : x_ml "SequentMachineModel" 136 mm_Re_claim.1 := Or.inl (x_at 719 (by decide +kernel) rfl)
theorem lm_Re_73 : x_ml "SequentMachineModel" 73 mm_Re_hypothesis.1 := Or.inl (x_at 723 (by decide +kernel) rfl)
theorem lm_Re_58 : x_ml "SequentMachineModel" 58 mm_Re_compare.1 := Or.inl (x_at 727 (by decide +kernel) rfl)
theorem lm_Re_140 : x_ml "SequentMachineModel" 140 mm_Re_closed.1 := Or.inl (x_at 731 (by decide +kernel) rfl)
theorem lm_Re_155 : x_ml "SequentMachineModel" 155 mm_Re_occurs.1 := Or.inl (x_at 735 (by decide +kernel) rfl)
theorem lm_Re_143 : x_ml "SequentMachineModel" 143 mm_Re_beginEquation.1 := Or.inl (x_at 739 (by decide +kernel) rfl)
theorem lm_Re_146 : x_ml "SequentMachineModel" 146 mm_Re_reduce.1 := Or.inl (x_at 743 (by decide +kernel) rfl)
theorem lm_Re_149 : x_ml "SequentMachineModel" 149 mm_Re_define.1 := Or.inl (x_at 747 (by decide +kernel) rfl)
theorem lm_Re_158 : x_ml "SequentMachineModel" 158 mm_Re_bring.1 := Or.inl (x_at 755 (by decide +kernel) rfl)
theorem lm_Re_162 : x_ml "SequentMachineModel" 162 mm_Re_isEquation.1 := Or.inl (x_at 759 (by decide +kernel) rfl)
theorem lm_Re_165 : x_ml "SequentMachineModel" 165 mm_Re_left.1 := Or.inl (x_at 763 (by decide +kernel) rfl)
theorem lm_Re_168 : x_ml "SequentMachineModel" 168 mm_Re_applied.1 := Or.inl (x_at 767 (by decide +kernel) rfl)
theorem lm_Re_172 : x_ml "SequentMachineModel" 172 mm_Re_free.1 := Or.inl (x_at 775 (by decide +kernel) rfl)
theorem lm_Re_175 : x_ml "SequentMachineModel" 175 mm_Re_replaced.1 := Or.inl (x_at 783 (by decide +kernel) rfl)
theorem lm_Re_179 : x_ml "SequentMachineModel" 179 mm_Re_retyped.1 := Or.inl (x_at 791 (by decide +kernel) rfl)
theorem lm_Re_185 : x_ml "SequentMachineModel" 185 mm_Re_at.1 := Or.inl (x_at 819 (by decide +kernel) rfl)
theorem lm_Re_188 : x_ml "SequentMachineModel" 188 mm_Re_length.1 := Or.inl (x_at 835 (by decide +kernel) rfl)
theorem la_int : Cond.arrayClass .int ∈ x_ws := x_at 44 (by decide +kernel) rfl
end
section
/-! types and terms as rows of symbols -/
def isTy (l : List Int) : Prop := ∀ P : List Int → Prop, P [1] → (∀ k : Int, 2 ≤ k → k ≤ 5 → P [k]) → (∀ a b, P a → P b → P (0 :: (a ++ b))) → P l
theorem isTy_b : isTy [1] := fun _ h1 _ _ => h1
theorem isTy_v {k : Int} (h1 : 2 ≤ k) (h2 : k ≤ 5) : isTy [k] := fun _ _ hv _ => hv k h1 h2
theorem isTy_f {a b : List Int} (ha : isTy a) (hb : isTy b) : isTy (0 :: (a ++ b)) := fun P h1 h2 h3 => h3 a b (ha P h1 h2 h3) (hb P h1 h2 h3)
theorem isTy_ind {P : List Int → Prop} (h1 : P [1]) (h2 : ∀ k : Int, 2 ≤ k → k ≤ 5 → P [k]) (h3 : ∀ a b, isTy a → isTy b → P a → P b → P (0 :: (a ++ b))) {l : List Int} (h : isTy l) : P l :=
  (h (fun l => isTy l ∧ P l) ⟨isTy_b, h1⟩ (fun k a b => ⟨isTy_v a b, h2 k a b⟩) (fun a b ha hb => ⟨isTy_f ha.1 hb.1, h3 a b ha.1 hb.1 ha.2 hb.2⟩)).2
theorem isTy_inv {l : List Int} (h : isTy l) : l = [1] ∨ (∃ k : Int, 2 ≤ k ∧ k ≤ 5 ∧ l = [k]) ∨ ∃ a b, isTy a ∧ isTy b ∧ l = 0 :: (a ++ b) :=
  isTy_ind (P := fun l => l = [1] ∨ (∃ k : Int, 2 ≤ k ∧ k ≤ 5 ∧ l = [k]) ∨ ∃ a b, isTy a ∧ isTy b ∧ l = 0 :: (a ++ b)) (Or.inl rfl) (fun k a b => Or.inr (Or.inl ⟨k, a, b, rfl⟩)) (fun a b ha hb _ _ => Or.inr (Or.inr ⟨a, b, ha, hb, rfl⟩)) h
theorem isTy_sym {l : List Int} (h : isTy l) : ∀ s ∈ l, 0 ≤ s ∧ s ≤ 5 := by
  refine isTy_ind (P := fun l => ∀ s ∈ l, 0 ≤ s ∧ s ≤ 5) ?_ ?_ ?_ h
  · intro s hs
    simp at hs
    omega
  · intro k h1 h2 s hs
    simp at hs
    omega
  · intro a b _ _ ha hb s hs
    simp at hs
    rcases hs with hs | hs | hs
    · omega
    · exact ha s hs
    · exact hb s hs
theorem isTy_len {l : List Int} (h : isTy l) : 0 < l.length := by
  rcases isTy_inv h with h | ⟨k, _, _, h⟩ | ⟨a, b, _, _, h⟩ <;> subst h <;> simp
def tyS : List Int → Nat → Option (List Int)
  | [], n => if n = 0 then some [] else none
  | s :: l, n => if n = 0 then some (s :: l) else if s = 0 then tyS l (n + 1) else tyS l (n - 1)
theorem tyS_0 (l : List Int) : tyS l 0 = some l := by
  cases l <;> simp [tyS]
theorem tyS_ty {a : List Int} (h : isTy a) : ∀ (r : List Int) (n : Nat), tyS (a ++ r) (n + 1) = tyS r n := by
  refine isTy_ind (P := fun a => ∀ (r : List Int) (n : Nat), tyS (a ++ r) (n + 1) = tyS r n) ?_ ?_ ?_ h
  · intro r n
    simp [tyS]
  · intro k h1 h2 r n
    have : ¬ k = 0 := by omega
    simp [tyS, this]
  · intro a b _ _ ha hb r n
    simp only [List.cons_append, List.append_assoc, tyS]
    simp [ha, hb]
theorem isTy_cut {a b r r' : List Int} (ha : isTy a) (hb : isTy b) (e : a ++ r = b ++ r') : a = b ∧ r = r' := by
  have h1 := tyS_ty ha r 0
  have h2 := tyS_ty hb r' 0
  rw [e, h2, tyS_0, tyS_0] at h1
  have h3 : r = r' := (Option.some.inj h1).symm
  subst h3
  exact ⟨List.append_cancel_right e, rfl⟩
theorem isTy_fi {a b a' b' : List Int} (ha : isTy a) (ha' : isTy a') (e : (0 : Int) :: (a ++ b) = 0 :: (a' ++ b')) : a = a' ∧ b = b' :=
  isTy_cut ha ha' (List.cons.inj e).2
/-! terms: the types of the abstractions around, the row, its type -/
def isTm (G : List (List Int)) (t a : List Int) : Prop := ∀ P : List (List Int) → List Int → List Int → Prop,
  (∀ G (n : Int) a, 0 ≤ n → n ≤ 7 → isTy a → P G (10 :: n :: a) a) →
  (∀ G (c : Int) a, 1 ≤ c → c ≤ 6 → isTy a → P G (11 :: c :: a) a) →
  (∀ G a, isTy a → P G (11 :: 0 :: a) (0 :: (a ++ (0 :: (a ++ [1]))))) →
  (∀ (G : List (List Int)) (d : Nat) a, G[d]? = some a → isTy a → P G [20 + (d : Int)] a) →
  (∀ G f x a b, isTy a → isTy b → P G f (0 :: (a ++ b)) → P G x a → P G (12 :: (f ++ x)) b) →
  (∀ G a t b, isTy a → isTy b → P (a :: G) t b → P G (13 :: (a ++ t)) (0 :: (a ++ b))) → P G t a
section TM
variable {G : List (List Int)} {a b t f x : List Int}
theorem isTm_v {n : Int} (h0 : 0 ≤ n) (h7 : n ≤ 7) (ha : isTy a) : isTm G (10 :: n :: a) a := fun _ h1 _ _ _ _ _ => h1 G n a h0 h7 ha
theorem isTm_c {c : Int} (h1 : 1 ≤ c) (h6 : c ≤ 6) (ha : isTy a) : isTm G (11 :: c :: a) a := fun _ _ h2 _ _ _ _ => h2 G c a h1 h6 ha
theorem isTm_e (ha : isTy a) : isTm G (11 :: 0 :: a) (0 :: (a ++ (0 :: (a ++ [1])))) := fun _ _ _ h3 _ _ _ => h3 G a ha
theorem isTm_b {d : Nat} (hd : G[d]? = some a) (ha : isTy a) : isTm G [20 + (d : Int)] a := fun _ _ _ _ h4 _ _ => h4 G d a hd ha
theorem isTm_a (ha : isTy a) (hb : isTy b) (hf : isTm G f (0 :: (a ++ b))) (hx : isTm G x a) : isTm G (12 :: (f ++ x)) b := fun P h1 h2 h3 h4 h5 h6 => h5 G f x a b ha hb (hf P h1 h2 h3 h4 h5 h6) (hx P h1 h2 h3 h4 h5 h6)
theorem isTm_l (ha : isTy a) (hb : isTy b) (ht : isTm (a :: G) t b) : isTm G (13 :: (a ++ t)) (0 :: (a ++ b)) := fun P h1 h2 h3 h4 h5 h6 => h6 G a t b ha hb (ht P h1 h2 h3 h4 h5 h6)
theorem isTm_ind {P : List (List Int) → List Int → List Int → Prop}
    (h1 : ∀ G (n : Int) a, 0 ≤ n → n ≤ 7 → isTy a → P G (10 :: n :: a) a)
    (h2 : ∀ G (c : Int) a, 1 ≤ c → c ≤ 6 → isTy a → P G (11 :: c :: a) a)
    (h3 : ∀ G a, isTy a → P G (11 :: 0 :: a) (0 :: (a ++ (0 :: (a ++ [1])))))
    (h4 : ∀ (G : List (List Int)) (d : Nat) a, G[d]? = some a → isTy a → P G [20 + (d : Int)] a)
    (h5 : ∀ G f x a b, isTy a → isTy b → isTm G f (0 :: (a ++ b)) → isTm G x a → P G f (0 :: (a ++ b)) → P G x a → P G (12 :: (f ++ x)) b)
    (h6 : ∀ G a t b, isTy a → isTy b → isTm (a :: G) t b → P (a :: G) t b → P G (13 :: (a ++ t)) (0 :: (a ++ b)))
    (h : isTm G t a) : P G t a :=
  (h (fun G t a => isTm G t a ∧ P G t a) (fun G n a p q r => ⟨isTm_v p q r, h1 G n a p q r⟩) (fun G c a p q r => ⟨isTm_c p q r, h2 G c a p q r⟩) (fun G a r => ⟨isTm_e r, h3 G a r⟩) (fun G d a p r => ⟨isTm_b p r, h4 G d a p r⟩)
    (fun G f x a b p q hf hx => ⟨isTm_a p q hf.1 hx.1, h5 G f x a b p q hf.1 hx.1 hf.2 hx.2⟩) (fun G a t b p q ht => ⟨isTm_l p q ht.1, h6 G a t b p q ht.1 ht.2⟩)).2
theorem isTm_inv (h : isTm G t a) : (∃ n : Int, 0 ≤ n ∧ n ≤ 7 ∧ isTy a ∧ t = 10 :: n :: a) ∨ (∃ c : Int, 1 ≤ c ∧ c ≤ 6 ∧ isTy a ∧ t = 11 :: c :: a) ∨ (∃ s, isTy s ∧ t = 11 :: 0 :: s ∧ a = 0 :: (s ++ (0 :: (s ++ [1])))) ∨ (∃ d : Nat, G[d]? = some a ∧ isTy a ∧ t = [20 + (d : Int)]) ∨ (∃ f x s, isTy s ∧ isTy a ∧ isTm G f (0 :: (s ++ a)) ∧ isTm G x s ∧ t = 12 :: (f ++ x)) ∨ (∃ s u b, isTy s ∧ isTy b ∧ isTm (s :: G) u b ∧ t = 13 :: (s ++ u) ∧ a = 0 :: (s ++ b)) :=
  isTm_ind (P := fun G t a => (∃ n : Int, 0 ≤ n ∧ n ≤ 7 ∧ isTy a ∧ t = 10 :: n :: a) ∨ (∃ c : Int, 1 ≤ c ∧ c ≤ 6 ∧ isTy a ∧ t = 11 :: c :: a) ∨ (∃ s, isTy s ∧ t = 11 :: 0 :: s ∧ a = 0 :: (s ++ (0 :: (s ++ [1])))) ∨ (∃ d : Nat, G[d]? = some a ∧ isTy a ∧ t = [20 + (d : Int)]) ∨ (∃ f x s, isTy s ∧ isTy a ∧ isTm G f (0 :: (s ++ a)) ∧ isTm G x s ∧ t = 12 :: (f ++ x)) ∨ (∃ s u b, isTy s ∧ isTy b ∧ isTm (s :: G) u b ∧ t = 13 :: (s ++ u) ∧ a = 0 :: (s ++ b)))
    (fun G n a p q r => Or.inl ⟨n, p, q, r, rfl⟩) (fun G c a p q r => Or.inr (Or.inl ⟨c, p, q, r, rfl⟩)) (fun G a r => Or.inr (Or.inr (Or.inl ⟨a, r, rfl, rfl⟩))) (fun G d a p r => Or.inr (Or.inr (Or.inr (Or.inl ⟨d, p, r, rfl⟩))))
    (fun G f x a b p q hf hx _ _ => Or.inr (Or.inr (Or.inr (Or.inr (Or.inl ⟨f, x, a, p, q, hf, hx, rfl⟩))))) (fun G a t b p q ht _ => Or.inr (Or.inr (Or.inr (Or.inr (Or.inr ⟨a, t, b, p, q, ht, rfl, rfl⟩))))) h
theorem isTm_ty (h : isTm G t a) : isTy a := by
  refine isTm_ind (P := fun _ _ a => isTy a) ?_ ?_ ?_ ?_ ?_ ?_ h
  · intro _ _ _ _ _ h; exact h
  · intro _ _ _ _ _ h; exact h
  · intro _ a h; exact isTy_f h (isTy_f h isTy_b)
  · intro _ _ _ _ h; exact h
  · intro _ _ _ _ _ _ h _ _ _ _; exact h
  · intro _ _ _ _ h1 h2 _ _; exact isTy_f h1 h2
theorem isTm_hd (h : isTm G t a) : ∃ s r, t = s :: r ∧ 10 ≤ s := by
  rcases isTm_inv h with ⟨n, _, _, _, e⟩ | ⟨c, _, _, _, e⟩ | ⟨s, _, e, _⟩ | ⟨d, _, _, e⟩ | ⟨f, x, s, _, _, _, _, e⟩ | ⟨s, u, b, _, _, _, e, _⟩
  · exact ⟨_, _, e, by omega⟩
  · exact ⟨_, _, e, by omega⟩
  · exact ⟨_, _, e, by omega⟩
  · exact ⟨_, _, e, by omega⟩
  · exact ⟨_, _, e, by omega⟩
  · exact ⟨_, _, e, by omega⟩
theorem isTm_len (h : isTm G t a) : 0 < t.length := by
  obtain ⟨s, r, e, _⟩ := isTm_hd h
  subst e
  simp
/-- every symbol is small and none is below 0 -/
theorem isTm_sym (h : isTm G t a) : ∀ s ∈ t, 0 ≤ s ∧ (s ≤ 13 ∨ 20 ≤ s ∧ s < 20 + (G.length : Int) + (t.length : Int)) := by
  refine isTm_ind (P := fun G t _ => ∀ s ∈ t, 0 ≤ s ∧ (s ≤ 13 ∨ 20 ≤ s ∧ s < 20 + (G.length : Int) + (t.length : Int))) ?_ ?_ ?_ ?_ ?_ ?_ h
  · intro G n a h0 h7 ha s hs
    simp at hs
    rcases hs with hs | hs | hs
    · omega
    · omega
    · have := isTy_sym ha s hs; omega
  · intro G n a h0 h7 ha s hs
    simp at hs
    rcases hs with hs | hs | hs
    · omega
    · omega
    · have := isTy_sym ha s hs; omega
  · intro G a ha s hs
    simp at hs
    rcases hs with hs | hs | hs
    · omega
    · omega
    · have := isTy_sym ha s hs; omega
  · intro G d a hd ha s hs
    have := (List.getElem?_eq_some_iff.mp hd).1
    simp at hs
    subst hs
    simp
    omega
  · intro G f x a b _ _ _ _ hf hx s hs
    simp at hs ⊢
    rcases hs with hs | hs | hs
    · omega
    · have := hf s hs; omega
    · have := hx s hs; omega
  · intro G a t b ha _ _ ht s hs
    simp at hs ⊢
    rcases hs with hs | hs | hs
    · omega
    · have := isTy_sym ha s hs; omega
    · have := ht s hs; simp at this; omega
/-- more abstractions around change nothing -/
theorem isTm_weak (h : isTm G t a) : ∀ D, isTm (G ++ D) t a := by
  refine isTm_ind (P := fun G t a => ∀ D, isTm (G ++ D) t a) ?_ ?_ ?_ ?_ ?_ ?_ h
  · intro G n a h0 h7 ha D; exact isTm_v h0 h7 ha
  · intro G n a h0 h7 ha D; exact isTm_c h0 h7 ha
  · intro G a ha D; exact isTm_e ha
  · intro G d a hd ha D
    refine isTm_b ?_ ha
    rw [List.getElem?_append_left (List.getElem?_eq_some_iff.mp hd).1]
    exact hd
  · intro G f x a b ha hb _ _ hf hx D; exact isTm_a ha hb (hf D) (hx D)
  · intro G a t b ha hb _ ht D; exact isTm_l ha hb (ht D)
/-- behind n terms -/
def tmS : List Int → Nat → List Int
  | [], _ => []
  | s :: l, n => if s < 10 then tmS l n else if n = 0 then s :: l else if s = 12 then tmS l (n + 1) else if s = 13 then tmS l n else tmS l (n - 1)
theorem tmS_low {l : List Int} (hl : ∀ s ∈ l, s < 10) : ∀ (r : List Int) (n : Nat), tmS (l ++ r) n = tmS r n := by
  induction l with
  | nil => intro r n; rfl
  | cons s l ih =>
    intro r n
    have h1 : s < 10 := hl s List.mem_cons_self
    simp only [List.cons_append, tmS, if_pos h1]
    exact ih (fun z hz => hl z (List.mem_cons_of_mem _ hz)) r n
theorem isTy_low {l : List Int} (h : isTy l) : ∀ s ∈ l, s < 10 := fun s hs => by have := isTy_sym h s hs; omega
theorem tmS_tm (h : isTm G t a) : ∀ (r : List Int) (n : Nat), tmS (t ++ r) (n + 1) = tmS r n := by
  refine isTm_ind (P := fun _ t _ => ∀ (r : List Int) (n : Nat), tmS (t ++ r) (n + 1) = tmS r n) ?_ ?_ ?_ ?_ ?_ ?_ h
  · intro G m a h0 h7 ha r n
    have h1 : m < 10 := by omega
    simp [tmS, h1, tmS_low (isTy_low ha)]
  · intro G m a h0 h7 ha r n
    have h1 : m < 10 := by omega
    simp [tmS, h1, tmS_low (isTy_low ha)]
  · intro G a ha r n
    simp [tmS, tmS_low (isTy_low ha)]
  · intro G d a hd ha r n
    have h1 : ¬ (20 + (d : Int)) < 10 := by omega
    have h2 : ¬ (20 + (d : Int)) = 12 := by omega
    have h3 : ¬ (20 + (d : Int)) = 13 := by omega
    simp [tmS, h1, h2, h3]
  · intro G f x a b _ _ _ _ hf hx r n
    simp [tmS, hf, hx]
  · intro G a t b ha _ _ ht r n
    simp [tmS, tmS_low (isTy_low ha), ht]
def hdT (r : List Int) : Prop := r = [] ∨ ∃ s l, r = s :: l ∧ 10 ≤ s
theorem tmS_0 {r : List Int} (h : hdT r) : tmS r 0 = r := by
  rcases h with h | ⟨s, l, h, hs⟩
  · subst h; rfl
  · subst h
    have : ¬ s < 10 := by omega
    simp [tmS, this]
theorem isTm_cut {G' : List (List Int)} {t' a' r r' : List Int} (h : isTm G t a) (h' : isTm G' t' a') (hr : hdT r) (hr' : hdT r') (e : t ++ r = t' ++ r') : t = t' ∧ r = r' := by
  have h1 := tmS_tm h r 0
  have h2 := tmS_tm h' r' 0
  rw [e, h2, tmS_0 hr, tmS_0 hr'] at h1
  subst h1
  exact ⟨List.append_cancel_right e, rfl⟩
theorem isTm_hdT (h : isTm G t a) (r : List Int) : hdT (t ++ r) := by
  obtain ⟨s, l, e, hs⟩ := isTm_hd h
  subst e
  exact Or.inr ⟨s, l ++ r, rfl, hs⟩
/-- a term has one type -/
theorem isTm_uni (h : isTm G t a) : ∀ a', isTm G t a' → a = a' := by
  refine isTm_ind (P := fun G t a => ∀ a', isTm G t a' → a = a') ?_ ?_ ?_ ?_ ?_ ?_ h
  · intro G n a h0 h7 ha a' h'
    rcases isTm_inv h' with ⟨n', _, _, _, e⟩ | ⟨c, _, _, _, e⟩ | ⟨s, _, e, _⟩ | ⟨d, _, _, e⟩ | ⟨f, x, s, _, _, _, _, e⟩ | ⟨s, u, b, _, _, _, e, _⟩ <;> simp at e
    · exact e.2
  · intro G n a h0 h7 ha a' h'
    rcases isTm_inv h' with ⟨n', _, _, _, e⟩ | ⟨c, _, _, _, e⟩ | ⟨s, _, e, _⟩ | ⟨d, _, _, e⟩ | ⟨f, x, s, _, _, _, _, e⟩ | ⟨s, u, b, _, _, _, e, _⟩ <;> simp at e
    · exact e.2
    · omega
  · intro G a ha a' h'
    rcases isTm_inv h' with ⟨n', _, _, _, e⟩ | ⟨c, _, _, _, e⟩ | ⟨s, _, e, e2⟩ | ⟨d, _, _, e⟩ | ⟨f, x, s, _, _, _, _, e⟩ | ⟨s, u, b, _, _, _, e, _⟩ <;> simp at e
    · omega
    · subst e; exact e2.symm
  · intro G d a hd ha a' h'
    rcases isTm_inv h' with ⟨n', _, _, _, e⟩ | ⟨c, _, _, _, e⟩ | ⟨s, _, e, e2⟩ | ⟨d', hd', _, e⟩ | ⟨f, x, s, _, _, _, _, e⟩ | ⟨s, u, b, _, _, _, e, _⟩ <;> simp at e
    · have e1 : d = d' := by omega
      subst e1
      exact Option.some.inj (hd.symm.trans hd')
    · omega
    · omega
  · intro G f x a b ha hb hf hx ihf ihx a' h'
    rcases isTm_inv h' with ⟨n', _, _, _, e⟩ | ⟨c, _, _, _, e⟩ | ⟨s, _, e, e2⟩ | ⟨d', hd', _, e⟩ | ⟨f', x', s, hs, ha', hf', hx', e⟩ | ⟨s, u, b, _, _, _, e, _⟩ <;> simp at e
    · omega
    · have hz := isTm_cut hf hf' (by have := isTm_hdT hx []; simpa using this) (by have := isTm_hdT hx' []; simpa using this) e
      obtain ⟨e1, e2⟩ := hz
      subst e1; subst e2
      have := ihf _ hf'
      exact (isTy_fi ha hs this).2
  · intro G a t b ha hb ht ih a' h'
    rcases isTm_inv h' with ⟨n', _, _, _, e⟩ | ⟨c, _, _, _, e⟩ | ⟨s, _, e, e2⟩ | ⟨d', hd', _, e⟩ | ⟨f', x', s, hs, ha', hf', hx', e⟩ | ⟨s, u, b', hs, _, hu, e, e2⟩ <;> simp at e
    · omega
    · obtain ⟨e1, e3⟩ := isTy_cut ha hs e
      subst e1; subst e3
      rw [e2, ih _ hu]
end TM
end
section
/-! what the rules do to a term's row -/
section OP
variable {G : List (List Int)} {a b t f x : List Int}
/-- where 10 stands a variable stands -/
theorem isTm_10 (h : isTm G t a) : ∀ (i : Nat), t[i]? = some 10 → ∃ (m : Int) (c r : List Int), isTy c ∧ 0 ≤ m ∧ m ≤ 7 ∧ t.drop i = 10 :: m :: (c ++ r) := by
  have low : ∀ (l : List Int), (∀ s ∈ l, s < 10) → ∀ i : Nat, l[i]? = some 10 → False := by
    intro l hl i hi
    have := hl 10 (List.mem_of_getElem? hi)
    omega
  refine isTm_ind (P := fun _ t _ => ∀ (i : Nat), t[i]? = some 10 → ∃ (m : Int) (c r : List Int), isTy c ∧ 0 ≤ m ∧ m ≤ 7 ∧ t.drop i = 10 :: m :: (c ++ r)) ?_ ?_ ?_ ?_ ?_ ?_ h
  · intro G n a h0 h7 ha i hi
    cases i with
    | zero => exact ⟨n, a, [], ha, h0, h7, by simp⟩
    | succ i =>
      cases i with
      | zero => simp at hi; omega
      | succ i => simp at hi; exact (low a (isTy_low ha) i hi).elim
  · intro G n a h0 h7 ha i hi
    cases i with
    | zero => simp at hi
    | succ i =>
      cases i with
      | zero => simp at hi; omega
      | succ i => simp at hi; exact (low a (isTy_low ha) i hi).elim
  · intro G a ha i hi
    cases i with
    | zero => simp at hi
    | succ i =>
      cases i with
      | zero => simp at hi
      | succ i => simp at hi; exact (low a (isTy_low ha) i hi).elim
  · intro G d a hd ha i hi
    cases i with
    | zero => simp at hi; omega
    | succ i => simp at hi
  · intro G f x a b _ _ _ _ hf hx i hi
    cases i with
    | zero => simp at hi
    | succ i =>
      simp at hi
      by_cases hl : i < f.length
      · rw [List.getElem?_append_left hl] at hi
        obtain ⟨m, c, r, h1, h2, h3, h4⟩ := hf i hi
        refine ⟨m, c, r ++ x, h1, h2, h3, ?_⟩
        simp only [List.drop_succ_cons]
        rw [List.drop_append_of_le_length (by omega), h4]
        simp
      · rw [List.getElem?_append_right (by omega)] at hi
        obtain ⟨m, c, r, h1, h2, h3, h4⟩ := hx _ hi
        refine ⟨m, c, r, h1, h2, h3, ?_⟩
        simp only [List.drop_succ_cons]
        rw [List.drop_append, List.drop_eq_nil_of_le (by omega), List.nil_append]
        exact h4
  · intro G a t b ha _ _ ht i hi
    cases i with
    | zero => simp at hi
    | succ i =>
      simp at hi
      by_cases hl : i < a.length
      · rw [List.getElem?_append_left hl] at hi
        exact (low a (isTy_low ha) i hi).elim
      · rw [List.getElem?_append_right (by omega)] at hi
        obtain ⟨m, c, r, h1, h2, h3, h4⟩ := ht _ hi
        refine ⟨m, c, r, h1, h2, h3, ?_⟩
        simp only [List.drop_succ_cons]
        rw [List.drop_append, List.drop_eq_nil_of_le (by omega), List.nil_append]
        exact h4
theorem isTm_13 (h : isTm G t a) : ∀ (i : Nat), t[i]? = some 13 → ∃ (D : List (List Int)) (u c r : List Int), isTm D u c ∧ t.drop i = u ++ r ∧ hdT r := by
  have low : ∀ (l : List Int), (∀ s ∈ l, s < 10) → ∀ i : Nat, l[i]? = some 13 → False := by
    intro l hl i hi
    have := hl 13 (List.mem_of_getElem? hi)
    omega
  refine isTm_ind (P := fun _ t _ => ∀ (i : Nat), t[i]? = some 13 → ∃ (D : List (List Int)) (u c r : List Int), isTm D u c ∧ t.drop i = u ++ r ∧ hdT r) ?_ ?_ ?_ ?_ ?_ ?_ h
  · intro G n a h0 h7 ha i hi
    cases i with
    | zero => simp at hi
    | succ i =>
      cases i with
      | zero => simp at hi; omega
      | succ i => simp at hi; exact (low a (isTy_low ha) i hi).elim
  · intro G n a h0 h7 ha i hi
    cases i with
    | zero => simp at hi
    | succ i =>
      cases i with
      | zero => simp at hi; omega
      | succ i => simp at hi; exact (low a (isTy_low ha) i hi).elim
  · intro G a ha i hi
    cases i with
    | zero => simp at hi
    | succ i =>
      cases i with
      | zero => simp at hi
      | succ i => simp at hi; exact (low a (isTy_low ha) i hi).elim
  · intro G d a hd ha i hi
    cases i with
    | zero => simp at hi; omega
    | succ i => simp at hi
  · intro G f x a b _ _ _ hx0 hf hx i hi
    cases i with
    | zero => simp at hi
    | succ i =>
      simp at hi
      by_cases hl : i < f.length
      · rw [List.getElem?_append_left hl] at hi
        obtain ⟨D, u, c, r, h1, h2, h3⟩ := hf i hi
        refine ⟨D, u, c, r ++ x, h1, ?_, ?_⟩
        · simp only [List.drop_succ_cons]
          rw [List.drop_append_of_le_length (by omega), h2]
          simp
        · rcases h3 with h3 | ⟨s, l, h3, hs⟩
          · subst h3; exact (by have := isTm_hdT hx0 []; simpa using this)
          · subst h3; exact Or.inr ⟨s, l ++ x, rfl, hs⟩
      · rw [List.getElem?_append_right (by omega)] at hi
        obtain ⟨D, u, c, r, h1, h2, h3⟩ := hx _ hi
        refine ⟨D, u, c, r, h1, ?_, h3⟩
        simp only [List.drop_succ_cons]
        rw [List.drop_append, List.drop_eq_nil_of_le (by omega), List.nil_append]
        exact h2
  · intro G a t b ha hb ht0 ht i hi
    cases i with
    | zero => exact ⟨G, 13 :: (a ++ t), _, [], isTm_l ha hb ht0, by simp, Or.inl rfl⟩
    | succ i =>
      simp at hi
      by_cases hl : i < a.length
      · rw [List.getElem?_append_left hl] at hi
        exact (low a (isTy_low ha) i hi).elim
      · rw [List.getElem?_append_right (by omega)] at hi
        obtain ⟨D, u, c, r, h1, h2, h3⟩ := ht _ hi
        refine ⟨D, u, c, r, h1, ?_, h3⟩
        simp only [List.drop_succ_cons]
        rw [List.drop_append, List.drop_eq_nil_of_le (by omega), List.nil_append]
        exact h2
/-! a variable's row at the front -/
theorem pf_v {n m : Int} {c a r : List Int} (hc : isTy c) (ha : isTy a) : (10 :: n :: c).isPrefixOf (10 :: m :: (a ++ r)) = true ↔ n = m ∧ c = a := by
  rw [List.isPrefixOf_iff_prefix]
  constructor
  · rintro ⟨z, e⟩
    simp at e
    exact ⟨e.1, (isTy_cut hc ha e.2).1⟩
  · rintro ⟨e1, e2⟩
    subst e1; subst e2
    exact ⟨r, by simp⟩
theorem pf_n {s n : Int} {c l : List Int} (hs : ¬ s = 10) : (10 :: n :: c).isPrefixOf (s :: l) = false := by
  simp [List.isPrefixOf]
  intro h
  exact absurd h.symm hs
/-! a variable replaced by a term -/
def rplC (v u : List Int) : List Int → Nat → List Int
  | [], _ => []
  | s :: l, k => if v.isPrefixOf (s :: l) = true then u ++ rplC v u l (v.length - 1) else if k = 0 then s :: rplC v u l 0 else rplC v u l (k - 1)
section RP
variable {n : Int} {c u : List Int}
theorem rpl_low {l : List Int} (hl : ∀ s ∈ l, s < 10) (r : List Int) : rplC (10 :: n :: c) u (l ++ r) 0 = l ++ rplC (10 :: n :: c) u r 0 := by
  induction l with
  | nil => rfl
  | cons s l ih =>
    have h1 : ¬ s = 10 := by have := hl s List.mem_cons_self; omega
    simp [rplC, pf_n h1, ih (fun z hz => hl z (List.mem_cons_of_mem _ hz))]
theorem rpl_skip {l : List Int} (hl : ∀ s ∈ l, s < 10) (r : List Int) : rplC (10 :: n :: c) u (l ++ r) l.length = rplC (10 :: n :: c) u r 0 := by
  induction l with
  | nil => rfl
  | cons s l ih =>
    have h1 : ¬ s = 10 := by have := hl s List.mem_cons_self; omega
    simp [rplC, pf_n h1, ih (fun z hz => hl z (List.mem_cons_of_mem _ hz))]
theorem rpl_hit (hn : n < 10) (hc : isTy c) (r : List Int) : rplC (10 :: n :: c) u (10 :: n :: (c ++ r)) 0 = u ++ rplC (10 :: n :: c) u r 0 := by
  have h1 : (10 :: n :: c).isPrefixOf (10 :: n :: (c ++ r)) = true := (pf_v hc hc).mpr ⟨rfl, rfl⟩
  have hl : ∀ s ∈ n :: c, s < 10 := by
    intro s hs
    rcases List.mem_cons.mp hs with h | h
    · omega
    · exact isTy_low hc s h
  have h2 := rpl_skip (n := n) (c := c) (u := u) hl r
  rw [rplC, if_pos h1]
  simp only [List.length_cons, Nat.add_sub_cancel, List.cons_append] at h2 ⊢
  rw [h2]
theorem rpl_tm (hn : n < 10) (hc : isTy c) (hu : isTm [] u c) (h : isTm G t b) : ∃ t', isTm G t' b ∧ ∀ r, rplC (10 :: n :: c) u (t ++ r) 0 = t' ++ rplC (10 :: n :: c) u r 0 := by
  refine isTm_ind (P := fun G t b => ∃ t', isTm G t' b ∧ ∀ r, rplC (10 :: n :: c) u (t ++ r) 0 = t' ++ rplC (10 :: n :: c) u r 0) ?_ ?_ ?_ ?_ ?_ ?_ h
  · intro G m a h0 h7 ha
    by_cases he : n = m ∧ c = a
    · obtain ⟨e1, e2⟩ := he
      subst e1; subst e2
      exact ⟨u, isTm_weak hu G, fun r => by have := rpl_hit (u := u) hn hc r; simpa using this⟩
    · refine ⟨10 :: m :: a, isTm_v h0 h7 ha, fun r => ?_⟩
      have h1 : ¬ (10 :: n :: c).isPrefixOf (10 :: m :: (a ++ r)) = true := fun q => he ((pf_v hc ha).mp q)
      have hm : ¬ m = 10 := by omega
      simp only [List.cons_append]
      rw [rplC, if_neg h1, if_pos rfl, rplC, pf_n hm, if_neg (by decide), if_pos rfl, rpl_low (isTy_low ha)]
  · intro G m a h0 h7 ha
    refine ⟨11 :: m :: a, isTm_c h0 h7 ha, fun r => ?_⟩
    have hm : ¬ m = 10 := by omega
    simp only [List.cons_append]
    rw [rplC, pf_n (by decide), if_neg (by decide), if_pos rfl, rplC, pf_n hm, if_neg (by decide), if_pos rfl, rpl_low (isTy_low ha)]
  · intro G a ha
    refine ⟨11 :: 0 :: a, isTm_e ha, fun r => ?_⟩
    simp only [List.cons_append]
    rw [rplC, pf_n (by decide), if_neg (by decide), if_pos rfl, rplC, pf_n (by decide), if_neg (by decide), if_pos rfl, rpl_low (isTy_low ha)]
  · intro G d a hd ha
    refine ⟨[20 + (d : Int)], isTm_b hd ha, fun r => ?_⟩
    have hm : ¬ (20 + (d : Int)) = 10 := by omega
    simp only [List.cons_append, List.nil_append]
    rw [rplC, pf_n hm, if_neg (by decide), if_pos rfl]
  · intro G f x a b ha hb _ _ hf hx
    obtain ⟨f', hf1, hf2⟩ := hf
    obtain ⟨x', hx1, hx2⟩ := hx
    refine ⟨12 :: (f' ++ x'), isTm_a ha hb hf1 hx1, fun r => ?_⟩
    simp only [List.cons_append, List.append_assoc]
    rw [rplC, pf_n (by decide), if_neg (by decide), if_pos rfl, hf2, hx2]
  · intro G a t b ha hb _ ht
    obtain ⟨t', ht1, ht2⟩ := ht
    refine ⟨13 :: (a ++ t'), isTm_l ha hb ht1, fun r => ?_⟩
    simp only [List.cons_append, List.append_assoc]
    rw [rplC, pf_n (by decide), if_neg (by decide), if_pos rfl, rpl_low (isTy_low ha), ht2]
theorem rpl_ok (hn : n < 10) (hc : isTy c) (hu : isTm [] u c) (h : isTm G t b) : isTm G (rplC (10 :: n :: c) u t 0) b := by
  obtain ⟨t', h1, h2⟩ := rpl_tm hn hc hu h
  have := h2 []
  simp [rplC] at this
  rw [this]
  exact h1
end RP
end OP
end
section
/-! how many abstractions stand around: by the class's way (a stack of what is still to come) and by the reference's (ends of abstractions) -/
def dpP (R : List Int) (m : Int) : List Int := R.dropWhile (fun r => decide (m ≤ r))
def dpS (s : Int) (q : List Int × Int) : List Int × Int :=
  if s < 10 then q else if s = 12 then (dpP q.1 q.2, q.2 + 1) else if s = 13 then ((q.2 - 1) :: dpP q.1 q.2, q.2) else (dpP q.1 q.2, q.2 - 1)
theorem dpP_lo {R : List Int} {m m' : Int} (h : m' ≤ m) : dpP (dpP R m) m' = dpP R m' := by
  unfold dpP
  induction R with
  | nil => rfl
  | cons r R ih =>
    by_cases hr : m ≤ r
    · have h1 : m' ≤ r := by omega
      simp [List.dropWhile_cons, hr, h1, ih]
    · simp [List.dropWhile_cons, hr]
theorem dpP_up {R : List Int} {m m' : Int} (h : m ≤ m') : dpP (dpP R m) m' = dpP R m := by
  unfold dpP
  induction R with
  | nil => rfl
  | cons r R ih =>
    by_cases hr : m ≤ r
    · simp [List.dropWhile_cons, hr, ih]
    · have h1 : ¬ m' ≤ r := by omega
      simp [List.dropWhile_cons, hr, h1]
theorem dpP_le (R : List Int) (m : Int) : (dpP R m).length ≤ R.length := by
  unfold dpP
  induction R with
  | nil => simp
  | cons r R ih =>
    by_cases hr : m ≤ r
    · simp [List.dropWhile_cons, hr]; omega
    · simp [List.dropWhile_cons, hr]
def szT (l : List Int) : Nat := l.length - (tmS l 1).length
theorem szT_tm {G : List (List Int)} {t a r : List Int} (h : isTm G t a) (hr : hdT r) : szT (t ++ r) = t.length := by
  unfold szT
  rw [tmS_tm h r 0, tmS_0 hr]
  simp
def cnt (E : List Nat) (p : Nat) : Nat := (E.filter (fun e => decide (p < e))).length
theorem cnt_app (E F : List Nat) (p : Nat) : cnt (E ++ F) p = cnt E p + cnt F p := by
  unfold cnt
  simp
theorem cnt_0 {E : List Nat} {p : Nat} (h : ∀ e ∈ E, e ≤ p) : cnt E p = 0 := by
  unfold cnt
  rw [List.length_eq_zero_iff, List.filter_eq_nil_iff]
  intro e he
  have := h e he
  simp
  omega
theorem cnt_eq {E : List Nat} {p p' : Nat} (h : ∀ e ∈ E, p < e ↔ p' < e) : cnt E p = cnt E p' := by
  unfold cnt
  congr 1
  apply List.filter_congr
  intro e he
  have := h e he
  simp [this]
/-! a variable bound -/
def absC (v : List Int) : List Int → List Int × Int → Nat → List Int
  | [], _, _ => []
  | s :: l, q, k => if v.isPrefixOf (s :: l) = true then (20 + ((dpS s q).1.length : Int)) :: absC v l (dpS s q) (v.length - 1) else if k = 0 then s :: absC v l (dpS s q) 0 else absC v l (dpS s q) (k - 1)
def absR (v : List Int) : List Int → Nat → List Nat → Nat → List Int
  | [], _, _, _ => []
  | s :: l, p, E, k => if k = 0 then (if v.isPrefixOf (s :: l) = true then (20 + (cnt E p : Int)) :: absR v l (p + 1) (if s = 13 then (p + szT (s :: l)) :: E else E) (v.length - 1) else s :: absR v l (p + 1) (if s = 13 then (p + szT (s :: l)) :: E else E) 0) else absR v l (p + 1) (if s = 13 then (p + szT (s :: l)) :: E else E) (k - 1)
section AB
variable {G : List (List Int)} {b t c : List Int} {n : Int}
theorem dpS_low {s : Int} (h : s < 10) (q : List Int × Int) : dpS s q = q := by
  unfold dpS
  rw [if_pos h]
theorem absC_low {l : List Int} (hl : ∀ s ∈ l, s < 10) (r : List Int) (q : List Int × Int) : absC (10 :: n :: c) (l ++ r) q 0 = l ++ absC (10 :: n :: c) r q 0 := by
  induction l with
  | nil => rfl
  | cons s l ih =>
    have h0 := hl s List.mem_cons_self
    have h1 : ¬ s = 10 := by omega
    simp [absC, pf_n h1, dpS_low h0, ih (fun z hz => hl z (List.mem_cons_of_mem _ hz))]
theorem absC_skip {l : List Int} (hl : ∀ s ∈ l, s < 10) (r : List Int) (q : List Int × Int) : absC (10 :: n :: c) (l ++ r) q l.length = absC (10 :: n :: c) r q 0 := by
  induction l with
  | nil => rfl
  | cons s l ih =>
    have h0 := hl s List.mem_cons_self
    have h1 : ¬ s = 10 := by omega
    simp [absC, pf_n h1, dpS_low h0, ih (fun z hz => hl z (List.mem_cons_of_mem _ hz))]
theorem absR_low {l : List Int} (hl : ∀ s ∈ l, s < 10) (r : List Int) (E : List Nat) : ∀ p, absR (10 :: n :: c) (l ++ r) p E 0 = l ++ absR (10 :: n :: c) r (p + l.length) E 0 := by
  induction l with
  | nil => intro p; rfl
  | cons s l ih =>
    intro p
    have h0 := hl s List.mem_cons_self
    have h1 : ¬ s = 10 := by omega
    have h2 : ¬ s = 13 := by omega
    simp [absR, pf_n h1, h2, ih (fun z hz => hl z (List.mem_cons_of_mem _ hz))]
    congr 1
    omega
theorem absR_skip {l : List Int} (hl : ∀ s ∈ l, s < 10) (r : List Int) (E : List Nat) : ∀ p, absR (10 :: n :: c) (l ++ r) p E l.length = absR (10 :: n :: c) r (p + l.length) E 0 := by
  induction l with
  | nil => intro p; rfl
  | cons s l ih =>
    intro p
    have h0 := hl s List.mem_cons_self
    have h2 : ¬ s = 13 := by omega
    simp [absR, h2, ih (fun z hz => hl z (List.mem_cons_of_mem _ hz))]
    congr 1
    omega
theorem abs_low {m : Int} {a : List Int} (hm : m < 10) (ha : isTy a) : ∀ s ∈ m :: a, s < 10 := by
  intro s hs
  rcases List.mem_cons.mp hs with h | h
  · omega
  · exact isTy_low ha s h
/-- both ways write one term -/
theorem abs_tm (hn : n < 10) (hc : isTy c) (h : isTm G t b) : ∃ t', isTm (G ++ [c]) t' b ∧
    (∀ R m r, (dpP R m).length = G.length → ∃ R', dpP R' (m - 1) = dpP R (m - 1) ∧ absC (10 :: n :: c) (t ++ r) (R, m) 0 = t' ++ absC (10 :: n :: c) r (R', m - 1) 0) ∧
    (∀ p E r, hdT r → cnt E p = G.length → (∀ e ∈ E, e ≤ p ∨ p + t.length ≤ e) → ∃ E', (∀ e ∈ E', e ≤ p + t.length) ∧ absR (10 :: n :: c) (t ++ r) p E 0 = t' ++ absR (10 :: n :: c) r (p + t.length) (E' ++ E) 0) := by
  refine isTm_ind (P := fun G t b => ∃ t', isTm (G ++ [c]) t' b ∧
    (∀ R m r, (dpP R m).length = G.length → ∃ R', dpP R' (m - 1) = dpP R (m - 1) ∧ absC (10 :: n :: c) (t ++ r) (R, m) 0 = t' ++ absC (10 :: n :: c) r (R', m - 1) 0) ∧
    (∀ p E r, hdT r → cnt E p = G.length → (∀ e ∈ E, e ≤ p ∨ p + t.length ≤ e) → ∃ E', (∀ e ∈ E', e ≤ p + t.length) ∧ absR (10 :: n :: c) (t ++ r) p E 0 = t' ++ absR (10 :: n :: c) r (p + t.length) (E' ++ E) 0)) ?_ ?_ ?_ ?_ ?_ ?_ h
  · intro G m a h0 h7 ha
    have hm : m < 10 := by omega
    by_cases he : n = m ∧ c = a
    · obtain ⟨e1, e2⟩ := he
      subst e1; subst e2
      refine ⟨[20 + (G.length : Int)], isTm_b (by simp) hc, ?_, ?_⟩
      · intro R m r hR
        refine ⟨dpP R m, dpP_lo (by omega), ?_⟩
        have h1 : (10 :: n :: c).isPrefixOf (10 :: n :: (c ++ r)) = true := (pf_v hc hc).mpr ⟨rfl, rfl⟩
        have h2 := absC_skip (n := n) (c := c) (l := n :: c) (abs_low hn hc) r (dpP R m, m - 1)
        have h3 : dpS 10 (R, m) = (dpP R m, m - 1) := by simp [dpS]
        simp only [List.cons_append, List.nil_append]
        rw [absC, if_pos h1, h3]
        simp only [List.length_cons, Nat.add_sub_cancel, List.cons_append, hR] at h2 ⊢
        rw [h2]
      · intro p E r hr hE _
        refine ⟨[], by simp, ?_⟩
        have h1 : (10 :: n :: c).isPrefixOf (10 :: n :: (c ++ r)) = true := (pf_v hc hc).mpr ⟨rfl, rfl⟩
        have h2 := absR_skip (n := n) (c := c) (l := n :: c) (abs_low hn hc) r E (p + 1)
        simp only [List.cons_append, List.nil_append]
        rw [absR, if_pos rfl, if_pos h1, if_neg (by decide), hE]
        simp only [List.length_cons, Nat.add_sub_cancel, List.cons_append] at h2 ⊢
        rw [h2]
        congr 2
        omega
    · refine ⟨10 :: m :: a, isTm_v h0 h7 ha, ?_, ?_⟩
      · intro R m' r hR
        refine ⟨dpP R m', dpP_lo (by omega), ?_⟩
        have h1 : ¬ (10 :: n :: c).isPrefixOf (10 :: m :: (a ++ r)) = true := fun q => he ((pf_v hc ha).mp q)
        have h3 : dpS 10 (R, m') = (dpP R m', m' - 1) := by simp [dpS]
        have h4 := absC_low (n := n) (c := c) (l := m :: a) (abs_low hm ha) r (dpP R m', m' - 1)
        simp only [List.cons_append] at h4 ⊢
        rw [absC, if_neg h1, if_pos rfl, h3, h4]
      · intro p E r hr hE _
        refine ⟨[], by simp, ?_⟩
        have h1 : ¬ (10 :: n :: c).isPrefixOf (10 :: m :: (a ++ r)) = true := fun q => he ((pf_v hc ha).mp q)
        have h4 := absR_low (n := n) (c := c) (l := m :: a) (abs_low hm ha) r E (p + 1)
        simp only [List.cons_append, List.nil_append] at h4 ⊢
        rw [absR, if_pos rfl, if_neg h1, if_neg (by decide), h4]
        simp only [List.length_cons]
        congr 4
        omega
  · intro G m a h0 h7 ha
    have hm : m < 10 := by omega
    refine ⟨11 :: m :: a, isTm_c h0 h7 ha, ?_, ?_⟩
    · intro R m' r hR
      refine ⟨dpP R m', dpP_lo (by omega), ?_⟩
      have h3 : dpS 11 (R, m') = (dpP R m', m' - 1) := by simp [dpS]
      have h4 := absC_low (n := n) (c := c) (l := m :: a) (abs_low hm ha) r (dpP R m', m' - 1)
      simp only [List.cons_append] at h4 ⊢
      rw [absC, pf_n (by decide), if_neg (by decide), if_pos rfl, h3, h4]
    · intro p E r hr hE _
      refine ⟨[], by simp, ?_⟩
      have h4 := absR_low (n := n) (c := c) (l := m :: a) (abs_low hm ha) r E (p + 1)
      simp only [List.cons_append, List.nil_append] at h4 ⊢
      rw [absR, if_pos rfl, pf_n (by decide), if_neg (by decide), if_neg (by decide), h4]
      simp only [List.length_cons]
      congr 4
      omega
  · intro G a ha
    refine ⟨11 :: 0 :: a, isTm_e ha, ?_, ?_⟩
    · intro R m' r hR
      refine ⟨dpP R m', dpP_lo (by omega), ?_⟩
      have h3 : dpS 11 (R, m') = (dpP R m', m' - 1) := by simp [dpS]
      have h4 := absC_low (n := n) (c := c) (l := 0 :: a) (abs_low (by omega) ha) r (dpP R m', m' - 1)
      simp only [List.cons_append] at h4 ⊢
      rw [absC, pf_n (by decide), if_neg (by decide), if_pos rfl, h3, h4]
    · intro p E r hr hE _
      refine ⟨[], by simp, ?_⟩
      have h4 := absR_low (n := n) (c := c) (l := 0 :: a) (abs_low (by omega) ha) r E (p + 1)
      simp only [List.cons_append, List.nil_append] at h4 ⊢
      rw [absR, if_pos rfl, pf_n (by decide), if_neg (by decide), if_neg (by decide), h4]
      simp only [List.length_cons]
      congr 4
      omega
  · intro G d a hd ha
    have e1 : ¬ (20 + (d : Int)) = 10 := by omega
    have e2 : ¬ (20 + (d : Int)) < 10 := by omega
    have e3 : ¬ (20 + (d : Int)) = 12 := by omega
    have e4 : ¬ (20 + (d : Int)) = 13 := by omega
    refine ⟨[20 + (d : Int)], isTm_b (by rw [List.getElem?_append_left (List.getElem?_eq_some_iff.mp hd).1]; exact hd) ha, ?_, ?_⟩
    · intro R m' r hR
      refine ⟨dpP R m', dpP_lo (by omega), ?_⟩
      have h3 : dpS (20 + (d : Int)) (R, m') = (dpP R m', m' - 1) := by simp [dpS, e2, e3, e4]
      simp only [List.cons_append, List.nil_append]
      rw [absC, pf_n e1, if_neg (by decide), if_pos rfl, h3]
    · intro p E r hr hE _
      refine ⟨[], by simp, ?_⟩
      simp only [List.cons_append, List.nil_append]
      rw [absR, if_pos rfl, pf_n e1, if_neg (by decide), if_neg e4]
      simp
  · intro G f x a b ha hb hf0 hx0 hf hx
    obtain ⟨f', hf1, hf2, hf3⟩ := hf
    obtain ⟨x', hx1, hx2, hx3⟩ := hx
    refine ⟨12 :: (f' ++ x'), isTm_a ha hb hf1 hx1, ?_, ?_⟩
    · intro R m r hR
      have h3 : dpS 12 (R, m) = (dpP R m, m + 1) := by simp [dpS]
      obtain ⟨R2, k1, k2⟩ := hf2 (dpP R m) (m + 1) (x ++ r) (by rw [dpP_up (by omega)]; exact hR)
      rw [show m + 1 - 1 = m by omega] at k1 k2
      rw [dpP_lo (Int.le_refl _)] at k1
      obtain ⟨R3, k3, k4⟩ := hx2 R2 m r (by rw [k1]; exact hR)
      refine ⟨R3, ?_, ?_⟩
      · rw [k3, ← dpP_lo (R := R2) (m := m) (by omega), k1, dpP_lo (by omega)]
      · simp only [List.cons_append, List.append_assoc]
        rw [absC, pf_n (by decide), if_neg (by decide), if_pos rfl, h3, k2, k4]
    · intro p E r hr hE hE2
      have hlf := isTm_len hf0
      have hlx := isTm_len hx0
      simp only [List.length_cons, List.length_append] at hE2
      obtain ⟨E1, k1, k2⟩ := hf3 (p + 1) E (x ++ r) (isTm_hdT hx0 r) (by rw [← hE]; exact cnt_eq (fun e he => by have := hE2 e he; omega)) (fun e he => by have := hE2 e he; omega)
      obtain ⟨E2, k3, k4⟩ := hx3 (p + 1 + f.length) (E1 ++ E) r hr (by rw [cnt_app, cnt_0 k1, ← hE, Nat.zero_add]; exact cnt_eq (fun e he => by have := hE2 e he; omega)) (fun e he => by
        rcases List.mem_append.mp he with he | he
        · exact Or.inl (k1 e he)
        · have := hE2 e he; omega)
      refine ⟨E2 ++ E1, fun e he => ?_, ?_⟩
      · simp only [List.length_cons, List.length_append]
        rcases List.mem_append.mp he with he | he
        · have := k3 e he; omega
        · have := k1 e he; omega
      · simp only [List.cons_append, List.append_assoc]
        rw [absR, if_pos rfl, pf_n (by decide), if_neg (by decide), if_neg (by decide), k2, k4]
        simp only [List.length_cons, List.length_append, List.append_assoc]
        congr 4
        omega
  · intro G a t b ha hb ht0 ht
    obtain ⟨t', ht1, ht2, ht3⟩ := ht
    refine ⟨13 :: (a ++ t'), isTm_l ha hb ht1, ?_, ?_⟩
    · intro R m r hR
      have h3 : dpS 13 (R, m) = ((m - 1) :: dpP R m, m) := by simp [dpS]
      have h5 : dpP ((m - 1) :: dpP R m) m = (m - 1) :: dpP R m := by
        have : ¬ m ≤ m - 1 := by omega
        simp [dpP, List.dropWhile_cons, this]
      obtain ⟨R2, k1, k2⟩ := ht2 ((m - 1) :: dpP R m) m r (by rw [h5]; simp [hR])
      refine ⟨R2, ?_, ?_⟩
      · rw [k1]
        have : dpP ((m - 1) :: dpP R m) (m - 1) = dpP (dpP R m) (m - 1) := by simp [dpP, List.dropWhile_cons]
        rw [this, dpP_lo (by omega)]
      · simp only [List.cons_append, List.append_assoc]
        rw [absC, pf_n (by decide), if_neg (by decide), if_pos rfl, h3, absC_low (isTy_low ha), k2]
    · intro p E r hr hE hE2
      have hlt := isTm_len ht0
      simp only [List.length_cons, List.length_append] at hE2
      have hz := szT_tm (isTm_l ha hb ht0) hr
      obtain ⟨E1, k1, k2⟩ := ht3 (p + 1 + a.length) ((p + (a.length + t.length + 1)) :: E) r hr (by
          have e0 : cnt ((p + (a.length + t.length + 1)) :: E) (p + 1 + a.length) = 1 + cnt E (p + 1 + a.length) := by
            have : p + 1 + a.length < p + (a.length + t.length + 1) := by omega
            simp [cnt, this]; omega
          rw [e0, cnt_eq (E := E) (p := p + 1 + a.length) (p' := p) (fun e he => by have := hE2 e he; omega), hE]
          simp; omega) (fun e he => by
        rcases List.mem_cons.mp he with he | he
        · subst he; right; omega
        · have := hE2 e he; omega)
      refine ⟨E1 ++ [p + (a.length + t.length + 1)], fun e he => ?_, ?_⟩
      · simp only [List.length_cons, List.length_append]
        rcases List.mem_append.mp he with he | he
        · have := k1 e he; omega
        · simp at he; omega
      · simp only [List.cons_append, List.append_assoc] at hz ⊢
        rw [absR, if_pos rfl, pf_n (by decide), if_neg (by decide), if_pos rfl, hz, absR_low (isTy_low ha)]
        simp only [List.length_cons, List.length_append, List.nil_append, List.singleton_append, List.cons_append] at k2 ⊢
        rw [k2]
        congr 4
        omega
theorem abs_ok (hn : n < 10) (hc : isTy c) (h : isTm [] t b) : isTm [c] (absC (10 :: n :: c) t ([], 1) 0) b ∧ absR (10 :: n :: c) t 0 [] 0 = absC (10 :: n :: c) t ([], 1) 0 := by
  obtain ⟨t', h1, h2, h3⟩ := abs_tm hn hc h
  obtain ⟨R', -, e1⟩ := h2 [] 1 [] (by rfl)
  obtain ⟨E', -, e2⟩ := h3 0 [] [] (Or.inl rfl) (by rfl) (by simp)
  simp [absC, absR] at e1 e2
  rw [e1, e2]
  exact ⟨by simpa using h1, rfl⟩
end AB
end
section
/-! an abstraction's own variable replaced by a term -/
def betC (u : List Int) : List Int → List Int × Int → List Int
  | [], _ => []
  | s :: l, q => if s = 20 + ((dpS s q).1.length : Int) then u ++ betC u l (dpS s q) else s :: betC u l (dpS s q)
def betR (u : List Int) : List Int → Nat → List Nat → List Int
  | [], _, _ => []
  | s :: l, p, E => if 20 ≤ s ∧ s - 20 = (cnt E p : Int) then u ++ betR u l (p + 1) (if s = 13 then (p + szT (s :: l)) :: E else E) else s :: betR u l (p + 1) (if s = 13 then (p + szT (s :: l)) :: E else E)
section BE
variable {G : List (List Int)} {b t c u : List Int}
theorem betC_low {l : List Int} (hl : ∀ s ∈ l, s < 10) (r : List Int) (q : List Int × Int) : betC u (l ++ r) q = l ++ betC u r q := by
  induction l with
  | nil => rfl
  | cons s l ih =>
    have h0 := hl s List.mem_cons_self
    have h1 : ¬ s = 20 + ((dpS s q).1.length : Int) := by omega
    rw [List.cons_append, betC, if_neg h1, dpS_low h0, ih (fun z hz => hl z (List.mem_cons_of_mem _ hz))]
    rfl
theorem betC_11 {s : Int} (hs : s < 20) (r : List Int) (q : List Int × Int) : betC u (s :: r) q = s :: betC u r (dpS s q) := by
  have h1 : ¬ s = 20 + ((dpS s q).1.length : Int) := by omega
  rw [betC, if_neg h1]
theorem betR_11 {s : Int} (hs : s < 20) (r : List Int) (p : Nat) (E : List Nat) : betR u (s :: r) p E = s :: betR u r (p + 1) (if s = 13 then (p + szT (s :: r)) :: E else E) := by
  have h1 : ¬ (20 ≤ s ∧ s - 20 = (cnt E p : Int)) := by omega
  rw [betR, if_neg h1]
theorem betR_low {l : List Int} (hl : ∀ s ∈ l, s < 10) (r : List Int) (E : List Nat) : ∀ p, betR u (l ++ r) p E = l ++ betR u r (p + l.length) E := by
  induction l with
  | nil => intro p; rfl
  | cons s l ih =>
    intro p
    have h0 := hl s List.mem_cons_self
    have h2 : ¬ s = 13 := by omega
    rw [List.cons_append, betR_11 (by omega), if_neg h2, ih (fun z hz => hl z (List.mem_cons_of_mem _ hz))]
    simp only [List.cons_append, List.length_cons]
    congr 3
    omega
theorem bet_tm {H : List (List Int)} (hu : isTm [] u c) (h : isTm H t b) : ∀ G, H = G ++ [c] → ∃ t', isTm G t' b ∧
    (∀ R m r, (dpP R m).length = G.length → ∃ R', dpP R' (m - 1) = dpP R (m - 1) ∧ betC u (t ++ r) (R, m) = t' ++ betC u r (R', m - 1)) ∧
    (∀ p E r, hdT r → cnt E p = G.length → (∀ e ∈ E, e ≤ p ∨ p + t.length ≤ e) → ∃ E', (∀ e ∈ E', e ≤ p + t.length) ∧ betR u (t ++ r) p E = t' ++ betR u r (p + t.length) (E' ++ E)) := by
  refine isTm_ind (P := fun H t b => ∀ G, H = G ++ [c] → ∃ t', isTm G t' b ∧
    (∀ R m r, (dpP R m).length = G.length → ∃ R', dpP R' (m - 1) = dpP R (m - 1) ∧ betC u (t ++ r) (R, m) = t' ++ betC u r (R', m - 1)) ∧
    (∀ p E r, hdT r → cnt E p = G.length → (∀ e ∈ E, e ≤ p ∨ p + t.length ≤ e) → ∃ E', (∀ e ∈ E', e ≤ p + t.length) ∧ betR u (t ++ r) p E = t' ++ betR u r (p + t.length) (E' ++ E))) ?_ ?_ ?_ ?_ ?_ ?_ h
  · intro H m a h0 h7 ha G hG
    have hm : m < 10 := by omega
    refine ⟨10 :: m :: a, isTm_v h0 h7 ha, ?_, ?_⟩
    · intro R m' r hR
      refine ⟨dpP R m', dpP_lo (by omega), ?_⟩
      have h3 : dpS 10 (R, m') = (dpP R m', m' - 1) := by simp [dpS]
      have h4 := betC_low (u := u) (l := m :: a) (abs_low hm ha) r (dpP R m', m' - 1)
      simp only [List.cons_append] at h4 ⊢
      rw [betC_11 (by decide), h3, h4]
    · intro p E r hr hE _
      refine ⟨[], by simp, ?_⟩
      have h4 := betR_low (u := u) (l := m :: a) (abs_low hm ha) r E (p + 1)
      simp only [List.cons_append, List.nil_append] at h4 ⊢
      rw [betR_11 (by decide), if_neg (by decide), h4]
      simp only [List.length_cons]
      congr 4
      omega
  · intro H m a h0 h7 ha G hG
    have hm : m < 10 := by omega
    refine ⟨11 :: m :: a, isTm_c h0 h7 ha, ?_, ?_⟩
    · intro R m' r hR
      refine ⟨dpP R m', dpP_lo (by omega), ?_⟩
      have h3 : dpS 11 (R, m') = (dpP R m', m' - 1) := by simp [dpS]
      have h4 := betC_low (u := u) (l := m :: a) (abs_low hm ha) r (dpP R m', m' - 1)
      simp only [List.cons_append] at h4 ⊢
      rw [betC_11 (by decide), h3, h4]
    · intro p E r hr hE _
      refine ⟨[], by simp, ?_⟩
      have h4 := betR_low (u := u) (l := m :: a) (abs_low hm ha) r E (p + 1)
      simp only [List.cons_append, List.nil_append] at h4 ⊢
      rw [betR_11 (by decide), if_neg (by decide), h4]
      simp only [List.length_cons]
      congr 4
      omega
  · intro H a ha G hG
    refine ⟨11 :: 0 :: a, isTm_e ha, ?_, ?_⟩
    · intro R m' r hR
      refine ⟨dpP R m', dpP_lo (by omega), ?_⟩
      have h3 : dpS 11 (R, m') = (dpP R m', m' - 1) := by simp [dpS]
      have h4 := betC_low (u := u) (l := 0 :: a) (abs_low (by omega) ha) r (dpP R m', m' - 1)
      simp only [List.cons_append] at h4 ⊢
      rw [betC_11 (by decide), h3, h4]
    · intro p E r hr hE _
      refine ⟨[], by simp, ?_⟩
      have h4 := betR_low (u := u) (l := 0 :: a) (abs_low (by omega) ha) r E (p + 1)
      simp only [List.cons_append, List.nil_append] at h4 ⊢
      rw [betR_11 (by decide), if_neg (by decide), h4]
      simp only [List.length_cons]
      congr 4
      omega
  · intro H d a hd ha G hG
    subst hG
    have e2 : ¬ (20 + (d : Int)) < 10 := by omega
    have e3 : ¬ (20 + (d : Int)) = 12 := by omega
    have e4 : ¬ (20 + (d : Int)) = 13 := by omega
    have hl := (List.getElem?_eq_some_iff.mp hd).1
    simp only [List.length_append, List.length_cons, List.length_nil] at hl
    by_cases hdG : d = G.length
    · subst hdG
      simp at hd
      subst hd
      refine ⟨u, by have := isTm_weak hu G; simpa using this, ?_, ?_⟩
      · intro R m' r hR
        refine ⟨dpP R m', dpP_lo (by omega), ?_⟩
        have h3 : dpS (20 + (G.length : Int)) (R, m') = (dpP R m', m' - 1) := by simp [dpS, e2, e3, e4]
        simp only [List.cons_append, List.nil_append]
        rw [betC, h3, if_pos (by rw [hR])]
      · intro p E r hr hE _
        refine ⟨[], by simp, ?_⟩
        simp only [List.cons_append, List.nil_append]
        rw [betR, if_pos (by rw [hE]; omega), if_neg e4]
        simp
    · refine ⟨[20 + (d : Int)], isTm_b (by rw [List.getElem?_append_left (by omega)] at hd; exact hd) ha, ?_, ?_⟩
      · intro R m' r hR
        refine ⟨dpP R m', dpP_lo (by omega), ?_⟩
        have h3 : dpS (20 + (d : Int)) (R, m') = (dpP R m', m' - 1) := by simp [dpS, e2, e3, e4]
        simp only [List.cons_append, List.nil_append]
        rw [betC, h3, if_neg (by rw [hR]; omega)]
      · intro p E r hr hE _
        refine ⟨[], by simp, ?_⟩
        simp only [List.cons_append, List.nil_append]
        rw [betR, if_neg (by rw [hE]; omega), if_neg e4]
        simp
  · intro H f x a b ha hb hf0 hx0 hf hx G hG
    obtain ⟨f', hf1, hf2, hf3⟩ := hf G hG
    obtain ⟨x', hx1, hx2, hx3⟩ := hx G hG
    refine ⟨12 :: (f' ++ x'), isTm_a ha hb hf1 hx1, ?_, ?_⟩
    · intro R m r hR
      have h3 : dpS 12 (R, m) = (dpP R m, m + 1) := by simp [dpS]
      obtain ⟨R2, k1, k2⟩ := hf2 (dpP R m) (m + 1) (x ++ r) (by rw [dpP_up (by omega)]; exact hR)
      rw [show m + 1 - 1 = m by omega] at k1 k2
      rw [dpP_lo (Int.le_refl _)] at k1
      obtain ⟨R3, k3, k4⟩ := hx2 R2 m r (by rw [k1]; exact hR)
      refine ⟨R3, ?_, ?_⟩
      · rw [k3, ← dpP_lo (R := R2) (m := m) (by omega), k1, dpP_lo (by omega)]
      · simp only [List.cons_append, List.append_assoc]
        rw [betC_11 (by decide), h3, k2, k4]
    · intro p E r hr hE hE2
      have hlf := isTm_len hf0
      have hlx := isTm_len hx0
      simp only [List.length_cons, List.length_append] at hE2
      obtain ⟨E1, k1, k2⟩ := hf3 (p + 1) E (x ++ r) (isTm_hdT hx0 r) (by rw [← hE]; exact cnt_eq (fun e he => by have := hE2 e he; omega)) (fun e he => by have := hE2 e he; omega)
      obtain ⟨E2, k3, k4⟩ := hx3 (p + 1 + f.length) (E1 ++ E) r hr (by rw [cnt_app, cnt_0 k1, ← hE, Nat.zero_add]; exact cnt_eq (fun e he => by have := hE2 e he; omega)) (fun e he => by
        rcases List.mem_append.mp he with he | he
        · exact Or.inl (k1 e he)
        · have := hE2 e he; omega)
      refine ⟨E2 ++ E1, fun e he => ?_, ?_⟩
      · simp only [List.length_cons, List.length_append]
        rcases List.mem_append.mp he with he | he
        · have := k3 e he; omega
        · have := k1 e he; omega
      · simp only [List.cons_append, List.append_assoc]
        rw [betR_11 (by decide), if_neg (by decide), k2, k4]
        simp only [List.length_cons, List.length_append, List.append_assoc]
        congr 4
        omega
  · intro H a t b ha hb ht0 ht G hG
    obtain ⟨t', ht1, ht2, ht3⟩ := ht (a :: G) (by rw [hG]; rfl)
    refine ⟨13 :: (a ++ t'), isTm_l ha hb ht1, ?_, ?_⟩
    · intro R m r hR
      have h3 : dpS 13 (R, m) = ((m - 1) :: dpP R m, m) := by simp [dpS]
      have h5 : dpP ((m - 1) :: dpP R m) m = (m - 1) :: dpP R m := by
        have : ¬ m ≤ m - 1 := by omega
        simp [dpP, List.dropWhile_cons, this]
      obtain ⟨R2, k1, k2⟩ := ht2 ((m - 1) :: dpP R m) m r (by rw [h5]; simp [hR])
      refine ⟨R2, ?_, ?_⟩
      · rw [k1]
        have : dpP ((m - 1) :: dpP R m) (m - 1) = dpP (dpP R m) (m - 1) := by simp [dpP, List.dropWhile_cons]
        rw [this, dpP_lo (by omega)]
      · simp only [List.cons_append, List.append_assoc]
        rw [betC_11 (by decide), h3, betC_low (isTy_low ha), k2]
    · intro p E r hr hE hE2
      have hlt := isTm_len ht0
      simp only [List.length_cons, List.length_append] at hE2
      have hz := szT_tm (isTm_l ha hb ht0) hr
      obtain ⟨E1, k1, k2⟩ := ht3 (p + 1 + a.length) ((p + (a.length + t.length + 1)) :: E) r hr (by
          have e0 : cnt ((p + (a.length + t.length + 1)) :: E) (p + 1 + a.length) = 1 + cnt E (p + 1 + a.length) := by
            have : p + 1 + a.length < p + (a.length + t.length + 1) := by omega
            simp [cnt, this]; omega
          rw [e0, cnt_eq (E := E) (p := p + 1 + a.length) (p' := p) (fun e he => by have := hE2 e he; omega), hE]
          simp; omega) (fun e he => by
        rcases List.mem_cons.mp he with he | he
        · subst he; right; omega
        · have := hE2 e he; omega)
      refine ⟨E1 ++ [p + (a.length + t.length + 1)], fun e he => ?_, ?_⟩
      · simp only [List.length_cons, List.length_append]
        rcases List.mem_append.mp he with he | he
        · have := k1 e he; omega
        · simp at he; omega
      · simp only [List.cons_append, List.append_assoc] at hz ⊢
        rw [betR_11 (by decide), if_pos rfl, hz, betR_low (isTy_low ha)]
        simp only [List.length_cons, List.length_append, List.nil_append, List.singleton_append, List.cons_append] at k2 ⊢
        rw [k2]
        congr 4
        omega
theorem bet_ok (hu : isTm [] u c) (h : isTm [c] t b) : isTm [] (betC u t ([], 1)) b ∧ betR u t 0 [] = betC u t ([], 1) := by
  obtain ⟨t', h1, h2, h3⟩ := bet_tm hu h [] rfl
  obtain ⟨R', -, e1⟩ := h2 [] 1 [] (by rfl)
  obtain ⟨E', -, e2⟩ := h3 0 [] [] (Or.inl rfl) (by rfl) (by simp)
  simp [betC, betR] at e1 e2
  rw [e1, e2]
  exact ⟨h1, rfl⟩
end BE
/-! a type variable replaced by a type -/
def tsb (k : Int) (T : List Int) (l : List Int) : List Int := l.flatMap (fun s => if s = 2 + k then T else [s])
def rtC (k : Int) (T : List Int) : List Int → Int → List Int
  | [], _ => []
  | s :: l, p => if (s < 10 ∧ p ≠ 10 ∧ p ≠ 11) ∧ s = 2 + k then T ++ rtC k T l s else s :: rtC k T l s
section RT
variable {k : Int} {T : List Int} {G : List (List Int)} {t b : List Int}
theorem tsb_app (a b : List Int) : tsb k T (a ++ b) = tsb k T a ++ tsb k T b := by
  unfold tsb
  simp
theorem tsb_0 (hk : 0 ≤ k) (a : List Int) : tsb k T (0 :: a) = 0 :: tsb k T a := by
  have : ¬ (0 : Int) = 2 + k := by omega
  unfold tsb
  simp [this]
theorem tsb_ty (hk : 0 ≤ k) (hT : isTy T) {a : List Int} (ha : isTy a) : isTy (tsb k T a) := by
  refine isTy_ind (P := fun a => isTy (tsb k T a)) ?_ ?_ ?_ ha
  · have : ¬ (1 : Int) = 2 + k := by omega
    simp [tsb, this]
    exact isTy_b
  · intro j h1 h2
    by_cases h : j = 2 + k
    · simp [tsb, h]; exact hT
    · simp [tsb, h]; exact isTy_v h1 h2
  · intro a b _ _ ha hb
    rw [tsb_0 hk, tsb_app]
    exact isTy_f ha hb
theorem rtC_hd {r : List Int} (h : hdT r) (p p' : Int) : rtC k T r p = rtC k T r p' := by
  rcases h with h | ⟨s, l, h, hs⟩
  · subst h; rfl
  · subst h
    have : ¬ s < 10 := by omega
    simp [rtC, this]
theorem rtC_low {l : List Int} (hl : ∀ s ∈ l, s < 10) {r : List Int} (hr : hdT r) : ∀ p, p ≠ 10 → p ≠ 11 → ∀ p', rtC k T (l ++ r) p = tsb k T l ++ rtC k T r p' := by
  induction l with
  | nil => intro p _ _ p'; simp [tsb]; exact rtC_hd hr p p'
  | cons s l ih =>
    intro p h10 h11 p'
    have h0 := hl s List.mem_cons_self
    have i1 := ih (fun z hz => hl z (List.mem_cons_of_mem _ hz)) s (by omega) (by omega) p'
    by_cases he : s = 2 + k
    · rw [List.cons_append, rtC, if_pos ⟨⟨h0, h10, h11⟩, he⟩, i1]
      simp [tsb, he]
    · rw [List.cons_append, rtC, if_neg (fun q => he q.2), i1]
      simp [tsb, he]
theorem rtC_up {s : Int} (hs : ¬ s < 10) (l : List Int) (p : Int) : rtC k T (s :: l) p = s :: rtC k T l s := by
  rw [rtC, if_neg (fun q => hs q.1.1)]
theorem rtC_nm {s p : Int} (hp : p = 10 ∨ p = 11) (l : List Int) : rtC k T (s :: l) p = s :: rtC k T l s := by
  rw [rtC, if_neg (fun q => by omega)]
theorem rt_tm (hk : 0 ≤ k) (hT : isTy T) (h : isTm G t b) : ∃ t', isTm (G.map (tsb k T)) t' (tsb k T b) ∧ ∀ r, hdT r → ∀ p p', rtC k T (t ++ r) p = t' ++ rtC k T r p' := by
  refine isTm_ind (P := fun G t b => ∃ t', isTm (G.map (tsb k T)) t' (tsb k T b) ∧ ∀ r, hdT r → ∀ p p', rtC k T (t ++ r) p = t' ++ rtC k T r p') ?_ ?_ ?_ ?_ ?_ ?_ h
  · intro G m a h0 h7 ha
    refine ⟨10 :: m :: tsb k T a, isTm_v h0 h7 (tsb_ty hk hT ha), fun r hr p p' => ?_⟩
    simp only [List.cons_append]
    rw [rtC_up (by decide), rtC_nm (Or.inl rfl), rtC_low (isTy_low ha) hr m (by omega) (by omega) p']
  · intro G m a h0 h7 ha
    refine ⟨11 :: m :: tsb k T a, isTm_c h0 h7 (tsb_ty hk hT ha), fun r hr p p' => ?_⟩
    simp only [List.cons_append]
    rw [rtC_up (by decide), rtC_nm (Or.inr rfl), rtC_low (isTy_low ha) hr m (by omega) (by omega) p']
  · intro G a ha
    have h1 : ¬ (1 : Int) = 2 + k := by omega
    refine ⟨11 :: 0 :: tsb k T a, ?_, fun r hr p p' => ?_⟩
    · have e1 : tsb k T [1] = [1] := by simp [tsb, h1]
      rw [tsb_0 hk, tsb_app, tsb_0 hk, tsb_app, e1]
      exact isTm_e (tsb_ty hk hT ha)
    · simp only [List.cons_append]
      rw [rtC_up (by decide), rtC_nm (Or.inr rfl), rtC_low (isTy_low ha) hr 0 (by omega) (by omega) p']
  · intro G d a hd ha
    refine ⟨[20 + (d : Int)], isTm_b (by rw [List.getElem?_map, hd]; rfl) (tsb_ty hk hT ha), fun r hr p p' => ?_⟩
    simp only [List.cons_append, List.nil_append]
    rw [rtC_up (by omega), rtC_hd hr _ p']
  · intro G f x a b ha hb _ hx0 hf hx
    obtain ⟨f', hf1, hf2⟩ := hf
    obtain ⟨x', hx1, hx2⟩ := hx
    refine ⟨12 :: (f' ++ x'), ?_, fun r hr p p' => ?_⟩
    · rw [tsb_0 hk, tsb_app] at hf1
      exact isTm_a (tsb_ty hk hT ha) (tsb_ty hk hT hb) hf1 hx1
    · simp only [List.cons_append, List.append_assoc]
      rw [rtC_up (by decide), hf2 (x ++ r) (isTm_hdT hx0 r) 12 0, hx2 r hr 0 p']
  · intro G a t b ha hb ht0 ht
    obtain ⟨t', ht1, ht2⟩ := ht
    refine ⟨13 :: (tsb k T a ++ t'), ?_, fun r hr p p' => ?_⟩
    · rw [tsb_0 hk, tsb_app]
      exact isTm_l (tsb_ty hk hT ha) (tsb_ty hk hT hb) ht1
    · simp only [List.cons_append, List.append_assoc]
      rw [rtC_up (by decide), rtC_low (isTy_low ha) (isTm_hdT ht0 r) 13 (by decide) (by decide) 0, ht2 r hr 0 p']
theorem rt_ok (hk : 0 ≤ k) (hT : isTy T) (h : isTm [] t b) (p : Int) : isTm [] (rtC k T t p) (tsb k T b) := by
  obtain ⟨t', h1, h2⟩ := rt_tm hk hT h
  have := h2 [] (Or.inl rfl) p p
  simp [rtC] at this
  rw [this]
  simpa using h1
end RT
end

section
-- ===== PART A: goes FIRST, ahead of the names: the tables' words, and 'selects' of the private methods out of them =====
/-- a private method of a class that the tables say can be made, by its rows of tables_1 -/
def lw_okq (q : MethodName × Nat) : Prop := (q.1.cls ≠ "java/lang/invoke/MethodHandle" ∧ q.1.cls ≠ "java/lang/invoke/VarHandle") ∧ Cond.instantiable q.1.cls q.2 ∈ tables_1 ∧ Cond.privateMethod q.1 ∈ tables_1 ∧ Cond.instanceMethod q.1 ∈ tables_1
theorem lw_p0 : lw_okq (⟨"SequentMachine$Scribe", "put", "(I)V"⟩, 4) := ⟨⟨by decide +kernel, by decide +kernel⟩, List.mem_of_getElem? (i := 22) (by decide +kernel), List.mem_of_getElem? (i := 131) (by decide +kernel), List.mem_of_getElem? (i := 132) (by decide +kernel)⟩
theorem lw_p1 : lw_okq (⟨"SequentMachine$Scribe", "finishedRow", "()LSequentMachine$Row;"⟩, 4) := ⟨⟨by decide +kernel, by decide +kernel⟩, List.mem_of_getElem? (i := 22) (by decide +kernel), List.mem_of_getElem? (i := 135) (by decide +kernel), List.mem_of_getElem? (i := 136) (by decide +kernel)⟩
theorem lw_p2 : lw_okq (⟨"SequentMachine", "finishType", "(ILSequentMachine$Row;)I"⟩, 9) := ⟨⟨by decide +kernel, by decide +kernel⟩, List.mem_of_getElem? (i := 14) (by decide +kernel), List.mem_of_getElem? (i := 175) (by decide +kernel), List.mem_of_getElem? (i := 176) (by decide +kernel)⟩
theorem lw_p3 : lw_okq (⟨"SequentMachine", "finish", "(ILSequentMachine$Item;)I"⟩, 9) := ⟨⟨by decide +kernel, by decide +kernel⟩, List.mem_of_getElem? (i := 14) (by decide +kernel), List.mem_of_getElem? (i := 197) (by decide +kernel), List.mem_of_getElem? (i := 198) (by decide +kernel)⟩
theorem lw_p4 : lw_okq (⟨"SequentMachine", "finishEmptyHanded", "(I)I"⟩, 9) := ⟨⟨by decide +kernel, by decide +kernel⟩, List.mem_of_getElem? (i := 14) (by decide +kernel), List.mem_of_getElem? (i := 209) (by decide +kernel), List.mem_of_getElem? (i := 210) (by decide +kernel)⟩
theorem lw_p5 : lw_okq (⟨"SequentMachine", "rowBelow", "(II)LSequentMachine$Row;"⟩, 9) := ⟨⟨by decide +kernel, by decide +kernel⟩, List.mem_of_getElem? (i := 14) (by decide +kernel), List.mem_of_getElem? (i := 224) (by decide +kernel), List.mem_of_getElem? (i := 225) (by decide +kernel)⟩
theorem lw_p6 : lw_okq (⟨"SequentMachine", "itemBelow", "(II)LSequentMachine$Item;"⟩, 9) := ⟨⟨by decide +kernel, by decide +kernel⟩, List.mem_of_getElem? (i := 14) (by decide +kernel), List.mem_of_getElem? (i := 228) (by decide +kernel), List.mem_of_getElem? (i := 229) (by decide +kernel)⟩
theorem lw_p7 : lw_okq (⟨"SequentMachine$Scribe", "putRow", "(LSequentMachine$Row;)V"⟩, 4) := ⟨⟨by decide +kernel, by decide +kernel⟩, List.mem_of_getElem? (i := 22) (by decide +kernel), List.mem_of_getElem? (i := 240) (by decide +kernel), List.mem_of_getElem? (i := 241) (by decide +kernel)⟩
theorem lw_p8 : lw_okq (⟨"SequentMachine", "finishTerm", "(ILSequentMachine$Row;)I"⟩, 9) := ⟨⟨by decide +kernel, by decide +kernel⟩, List.mem_of_getElem? (i := 14) (by decide +kernel), List.mem_of_getElem? (i := 256) (by decide +kernel), List.mem_of_getElem? (i := 257) (by decide +kernel)⟩
theorem lw_p9 : lw_okq (⟨"SequentMachine$Scribe", "putLeafType", "(LSequentMachine$Row;III)V"⟩, 4) := ⟨⟨by decide +kernel, by decide +kernel⟩, List.mem_of_getElem? (i := 22) (by decide +kernel), List.mem_of_getElem? (i := 283) (by decide +kernel), List.mem_of_getElem? (i := 284) (by decide +kernel)⟩
theorem lw_p10 : lw_okq (⟨"SequentMachine$Scribe", "putEqualType", "(LSequentMachine$Row;I)V"⟩, 4) := ⟨⟨by decide +kernel, by decide +kernel⟩, List.mem_of_getElem? (i := 22) (by decide +kernel), List.mem_of_getElem? (i := 287) (by decide +kernel), List.mem_of_getElem? (i := 288) (by decide +kernel)⟩
theorem lw_p11 : lw_okq (⟨"SequentMachine", "takesArgument", "(LSequentMachine$Row;LSequentMachine$Row;)Z"⟩, 9) := ⟨⟨by decide +kernel, by decide +kernel⟩, List.mem_of_getElem? (i := 14) (by decide +kernel), List.mem_of_getElem? (i := 295) (by decide +kernel), List.mem_of_getElem? (i := 296) (by decide +kernel)⟩
theorem lw_p12 : lw_okq (⟨"SequentMachine", "variableBelow", "(I)LSequentMachine$Row;"⟩, 9) := ⟨⟨by decide +kernel, by decide +kernel⟩, List.mem_of_getElem? (i := 14) (by decide +kernel), List.mem_of_getElem? (i := 321) (by decide +kernel), List.mem_of_getElem? (i := 322) (by decide +kernel)⟩
theorem lw_p13 : lw_okq (⟨"SequentMachine", "finishTheorem", "(ILSequentMachine$Hypotheses;LSequentMachine$Row;)I"⟩, 9) := ⟨⟨by decide +kernel, by decide +kernel⟩, List.mem_of_getElem? (i := 14) (by decide +kernel), List.mem_of_getElem? (i := 349) (by decide +kernel), List.mem_of_getElem? (i := 350) (by decide +kernel)⟩
theorem lw_p14 : lw_okq (⟨"SequentMachine", "assume", "(LSequentMachine$Row;)I"⟩, 9) := ⟨⟨by decide +kernel, by decide +kernel⟩, List.mem_of_getElem? (i := 14) (by decide +kernel), List.mem_of_getElem? (i := 353) (by decide +kernel), List.mem_of_getElem? (i := 354) (by decide +kernel)⟩
theorem lw_p15 : lw_okq (⟨"SequentMachine", "reduce", "(LSequentMachine$Row;)I"⟩, 9) := ⟨⟨by decide +kernel, by decide +kernel⟩, List.mem_of_getElem? (i := 14) (by decide +kernel), List.mem_of_getElem? (i := 366) (by decide +kernel), List.mem_of_getElem? (i := 367) (by decide +kernel)⟩
def lw_privs_1 : List (MethodName × Nat) := [(⟨"SequentMachine$Scribe", "put", "(I)V"⟩, 4), (⟨"SequentMachine$Scribe", "finishedRow", "()LSequentMachine$Row;"⟩, 4), (⟨"SequentMachine", "finishType", "(ILSequentMachine$Row;)I"⟩, 9), (⟨"SequentMachine", "finish", "(ILSequentMachine$Item;)I"⟩, 9), (⟨"SequentMachine", "finishEmptyHanded", "(I)I"⟩, 9), (⟨"SequentMachine", "rowBelow", "(II)LSequentMachine$Row;"⟩, 9), (⟨"SequentMachine", "itemBelow", "(II)LSequentMachine$Item;"⟩, 9), (⟨"SequentMachine$Scribe", "putRow", "(LSequentMachine$Row;)V"⟩, 4), (⟨"SequentMachine", "finishTerm", "(ILSequentMachine$Row;)I"⟩, 9), (⟨"SequentMachine$Scribe", "putLeafType", "(LSequentMachine$Row;III)V"⟩, 4), (⟨"SequentMachine$Scribe", "putEqualType", "(LSequentMachine$Row;I)V"⟩, 4), (⟨"SequentMachine", "takesArgument", "(LSequentMachine$Row;LSequentMachine$Row;)Z"⟩, 9), (⟨"SequentMachine", "variableBelow", "(I)LSequentMachine$Row;"⟩, 9), (⟨"SequentMachine", "finishTheorem", "(ILSequentMachine$Hypotheses;LSequentMachine$Row;)I"⟩, 9), (⟨"SequentMachine", "assume", "(LSequentMachine$Row;)I"⟩, 9), (⟨"SequentMachine", "reduce", "(LSequentMachine$Row;)I"⟩, 9)]
theorem lw_r1 : ∀ q ∈ lw_privs_1, lw_okq q := List.forall_mem_cons.mpr ⟨lw_p0, List.forall_mem_cons.mpr ⟨lw_p1, List.forall_mem_cons.mpr ⟨lw_p2, List.forall_mem_cons.mpr ⟨lw_p3, List.forall_mem_cons.mpr ⟨lw_p4, List.forall_mem_cons.mpr ⟨lw_p5, List.forall_mem_cons.mpr ⟨lw_p6, List.forall_mem_cons.mpr ⟨lw_p7, List.forall_mem_cons.mpr ⟨lw_p8, List.forall_mem_cons.mpr ⟨lw_p9, List.forall_mem_cons.mpr ⟨lw_p10, List.forall_mem_cons.mpr ⟨lw_p11, List.forall_mem_cons.mpr ⟨lw_p12, List.forall_mem_cons.mpr ⟨lw_p13, List.forall_mem_cons.mpr ⟨lw_p14, List.forall_mem_cons.mpr ⟨lw_p15, fun _ h => absurd h List.not_mem_nil⟩⟩⟩⟩⟩⟩⟩⟩⟩⟩⟩⟩⟩⟩⟩⟩
theorem lw_p16 : lw_okq (⟨"SequentMachine", "addAxiom", "(LSequentMachine$Row;)I"⟩, 9) := ⟨⟨by decide +kernel, by decide +kernel⟩, List.mem_of_getElem? (i := 14) (by decide +kernel), List.mem_of_getElem? (i := 384) (by decide +kernel), List.mem_of_getElem? (i := 385) (by decide +kernel)⟩
theorem lw_p17 : lw_okq (⟨"SequentMachine", "define", "(LSequentMachine$Row;)I"⟩, 9) := ⟨⟨by decide +kernel, by decide +kernel⟩, List.mem_of_getElem? (i := 14) (by decide +kernel), List.mem_of_getElem? (i := 392) (by decide +kernel), List.mem_of_getElem? (i := 393) (by decide +kernel)⟩
theorem lw_p18 : lw_okq (⟨"SequentMachine", "followEquation", "(LSequentMachine$Item;LSequentMachine$Item;)I"⟩, 9) := ⟨⟨by decide +kernel, by decide +kernel⟩, List.mem_of_getElem? (i := 14) (by decide +kernel), List.mem_of_getElem? (i := 416) (by decide +kernel), List.mem_of_getElem? (i := 417) (by decide +kernel)⟩
theorem lw_p19 : lw_okq (⟨"SequentMachine", "equationIn", "(LSequentMachine$Row;)LSequentMachine$Equation;"⟩, 9) := ⟨⟨by decide +kernel, by decide +kernel⟩, List.mem_of_getElem? (i := 14) (by decide +kernel), List.mem_of_getElem? (i := 420) (by decide +kernel), List.mem_of_getElem? (i := 421) (by decide +kernel)⟩
theorem lw_p20 : lw_okq (⟨"SequentMachine", "hypothesesOfBoth", "(LSequentMachine$Item;LSequentMachine$Item;)LSequentMachine$Hypotheses;"⟩, 9) := ⟨⟨by decide +kernel, by decide +kernel⟩, List.mem_of_getElem? (i := 14) (by decide +kernel), List.mem_of_getElem? (i := 446) (by decide +kernel), List.mem_of_getElem? (i := 447) (by decide +kernel)⟩
theorem lw_p21 : lw_okq (⟨"SequentMachine", "applyEquations", "(LSequentMachine$Item;LSequentMachine$Item;)I"⟩, 9) := ⟨⟨by decide +kernel, by decide +kernel⟩, List.mem_of_getElem? (i := 14) (by decide +kernel), List.mem_of_getElem? (i := 455) (by decide +kernel), List.mem_of_getElem? (i := 456) (by decide +kernel)⟩
theorem lw_p22 : lw_okq (⟨"SequentMachine", "deduct", "(LSequentMachine$Item;LSequentMachine$Item;)I"⟩, 9) := ⟨⟨by decide +kernel, by decide +kernel⟩, List.mem_of_getElem? (i := 14) (by decide +kernel), List.mem_of_getElem? (i := 460) (by decide +kernel), List.mem_of_getElem? (i := 461) (by decide +kernel)⟩
theorem lw_p23 : lw_okq (⟨"SequentMachine", "keptFor", "(I)LSequentMachine$Item;"⟩, 9) := ⟨⟨by decide +kernel, by decide +kernel⟩, List.mem_of_getElem? (i := 14) (by decide +kernel), List.mem_of_getElem? (i := 505) (by decide +kernel), List.mem_of_getElem? (i := 506) (by decide +kernel)⟩
theorem lw_p24 : lw_okq (⟨"SequentMachine", "itemAt", "(I)LSequentMachine$Item;"⟩, 9) := ⟨⟨by decide +kernel, by decide +kernel⟩, List.mem_of_getElem? (i := 14) (by decide +kernel), List.mem_of_getElem? (i := 525) (by decide +kernel), List.mem_of_getElem? (i := 526) (by decide +kernel)⟩
theorem lw_p25 : lw_okq (⟨"SequentMachine", "partAt", "(II)LSequentMachine$Row;"⟩, 9) := ⟨⟨by decide +kernel, by decide +kernel⟩, List.mem_of_getElem? (i := 14) (by decide +kernel), List.mem_of_getElem? (i := 541) (by decide +kernel), List.mem_of_getElem? (i := 542) (by decide +kernel)⟩
theorem lw_p26 : lw_okq (⟨"SequentMachineModel", "top", "(I)I"⟩, 15) := ⟨⟨by decide +kernel, by decide +kernel⟩, List.mem_of_getElem? (i := 553) (by decide +kernel), List.mem_of_getElem? (i := 609) (by decide +kernel), List.mem_of_getElem? (i := 610) (by decide +kernel)⟩
theorem lw_p27 : lw_okq (⟨"SequentMachineModel", "begin", "()V"⟩, 15) := ⟨⟨by decide +kernel, by decide +kernel⟩, List.mem_of_getElem? (i := 553) (by decide +kernel), List.mem_of_getElem? (i := 613) (by decide +kernel), List.mem_of_getElem? (i := 614) (by decide +kernel)⟩
theorem lw_p28 : lw_okq (⟨"SequentMachineModel", "emit", "(I)V"⟩, 15) := ⟨⟨by decide +kernel, by decide +kernel⟩, List.mem_of_getElem? (i := 553) (by decide +kernel), List.mem_of_getElem? (i := 617) (by decide +kernel), List.mem_of_getElem? (i := 618) (by decide +kernel)⟩
theorem lw_p29 : lw_okq (⟨"SequentMachineModel", "part", "(II)V"⟩, 15) := ⟨⟨by decide +kernel, by decide +kernel⟩, List.mem_of_getElem? (i := 553) (by decide +kernel), List.mem_of_getElem? (i := 621) (by decide +kernel), List.mem_of_getElem? (i := 622) (by decide +kernel)⟩
theorem lw_p30 : lw_okq (⟨"SequentMachineModel", "done", "(I)I"⟩, 15) := ⟨⟨by decide +kernel, by decide +kernel⟩, List.mem_of_getElem? (i := 553) (by decide +kernel), List.mem_of_getElem? (i := 628) (by decide +kernel), List.mem_of_getElem? (i := 629) (by decide +kernel)⟩
theorem lw_p31 : lw_okq (⟨"SequentMachineModel", "copyObject", "(II)V"⟩, 15) := ⟨⟨by decide +kernel, by decide +kernel⟩, List.mem_of_getElem? (i := 553) (by decide +kernel), List.mem_of_getElem? (i := 632) (by decide +kernel), List.mem_of_getElem? (i := 633) (by decide +kernel)⟩
def lw_privs_2 : List (MethodName × Nat) := [(⟨"SequentMachine", "addAxiom", "(LSequentMachine$Row;)I"⟩, 9), (⟨"SequentMachine", "define", "(LSequentMachine$Row;)I"⟩, 9), (⟨"SequentMachine", "followEquation", "(LSequentMachine$Item;LSequentMachine$Item;)I"⟩, 9), (⟨"SequentMachine", "equationIn", "(LSequentMachine$Row;)LSequentMachine$Equation;"⟩, 9), (⟨"SequentMachine", "hypothesesOfBoth", "(LSequentMachine$Item;LSequentMachine$Item;)LSequentMachine$Hypotheses;"⟩, 9), (⟨"SequentMachine", "applyEquations", "(LSequentMachine$Item;LSequentMachine$Item;)I"⟩, 9), (⟨"SequentMachine", "deduct", "(LSequentMachine$Item;LSequentMachine$Item;)I"⟩, 9), (⟨"SequentMachine", "keptFor", "(I)LSequentMachine$Item;"⟩, 9), (⟨"SequentMachine", "itemAt", "(I)LSequentMachine$Item;"⟩, 9), (⟨"SequentMachine", "partAt", "(II)LSequentMachine$Row;"⟩, 9), (⟨"SequentMachineModel", "top", "(I)I"⟩, 15), (⟨"SequentMachineModel", "begin", "()V"⟩, 15), (⟨"SequentMachineModel", "emit", "(I)V"⟩, 15), (⟨"SequentMachineModel", "part", "(II)V"⟩, 15), (⟨"SequentMachineModel", "done", "(I)I"⟩, 15), (⟨"SequentMachineModel", "copyObject", "(II)V"⟩, 15)]
theorem lw_r2 : ∀ q ∈ lw_privs_2, lw_okq q := List.forall_mem_cons.mpr ⟨lw_p16, List.forall_mem_cons.mpr ⟨lw_p17, List.forall_mem_cons.mpr ⟨lw_p18, List.forall_mem_cons.mpr ⟨lw_p19, List.forall_mem_cons.mpr ⟨lw_p20, List.forall_mem_cons.mpr ⟨lw_p21, List.forall_mem_cons.mpr ⟨lw_p22, List.forall_mem_cons.mpr ⟨lw_p23, List.forall_mem_cons.mpr ⟨lw_p24, List.forall_mem_cons.mpr ⟨lw_p25, List.forall_mem_cons.mpr ⟨lw_p26, List.forall_mem_cons.mpr ⟨lw_p27, List.forall_mem_cons.mpr ⟨lw_p28, List.forall_mem_cons.mpr ⟨lw_p29, List.forall_mem_cons.mpr ⟨lw_p30, List.forall_mem_cons.mpr ⟨lw_p31, fun _ h => absurd h List.not_mem_nil⟩⟩⟩⟩⟩⟩⟩⟩⟩⟩⟩⟩⟩⟩⟩⟩
theorem lw_p32 : lw_okq (⟨"SequentMachineModel", "movePart", "(IIII)V"⟩, 15) := ⟨⟨by decide +kernel, by decide +kernel⟩, List.mem_of_getElem? (i := 553) (by decide +kernel), List.mem_of_getElem? (i := 636) (by decide +kernel), List.mem_of_getElem? (i := 637) (by decide +kernel)⟩
theorem lw_p33 : lw_okq (⟨"SequentMachineModel", "rowOf", "(I)I"⟩, 15) := ⟨⟨by decide +kernel, by decide +kernel⟩, List.mem_of_getElem? (i := 553) (by decide +kernel), List.mem_of_getElem? (i := 640) (by decide +kernel), List.mem_of_getElem? (i := 641) (by decide +kernel)⟩
theorem lw_p34 : lw_okq (⟨"SequentMachineModel", "rowEnd", "(I)I"⟩, 15) := ⟨⟨by decide +kernel, by decide +kernel⟩, List.mem_of_getElem? (i := 553) (by decide +kernel), List.mem_of_getElem? (i := 644) (by decide +kernel), List.mem_of_getElem? (i := 645) (by decide +kernel)⟩
theorem lw_p35 : lw_okq (⟨"SequentMachineModel", "emitRow", "(II)V"⟩, 15) := ⟨⟨by decide +kernel, by decide +kernel⟩, List.mem_of_getElem? (i := 553) (by decide +kernel), List.mem_of_getElem? (i := 648) (by decide +kernel), List.mem_of_getElem? (i := 649) (by decide +kernel)⟩
theorem lw_p36 : lw_okq (⟨"SequentMachineModel", "leaf", "(II)I"⟩, 15) := ⟨⟨by decide +kernel, by decide +kernel⟩, List.mem_of_getElem? (i := 553) (by decide +kernel), List.mem_of_getElem? (i := 656) (by decide +kernel), List.mem_of_getElem? (i := 657) (by decide +kernel)⟩
theorem lw_p37 : lw_okq (⟨"SequentMachineModel", "fits", "(II)Z"⟩, 15) := ⟨⟨by decide +kernel, by decide +kernel⟩, List.mem_of_getElem? (i := 553) (by decide +kernel), List.mem_of_getElem? (i := 668) (by decide +kernel), List.mem_of_getElem? (i := 669) (by decide +kernel)⟩
theorem lw_p38 : lw_okq (⟨"SequentMachineModel", "typeOf", "(I)I"⟩, 15) := ⟨⟨by decide +kernel, by decide +kernel⟩, List.mem_of_getElem? (i := 553) (by decide +kernel), List.mem_of_getElem? (i := 672) (by decide +kernel), List.mem_of_getElem? (i := 673) (by decide +kernel)⟩
theorem lw_p39 : lw_okq (⟨"SequentMachineModel", "skipType", "(I)I"⟩, 15) := ⟨⟨by decide +kernel, by decide +kernel⟩, List.mem_of_getElem? (i := 553) (by decide +kernel), List.mem_of_getElem? (i := 676) (by decide +kernel), List.mem_of_getElem? (i := 677) (by decide +kernel)⟩
theorem lw_p40 : lw_okq (⟨"SequentMachineModel", "equalAt", "(II)V"⟩, 15) := ⟨⟨by decide +kernel, by decide +kernel⟩, List.mem_of_getElem? (i := 553) (by decide +kernel), List.mem_of_getElem? (i := 680) (by decide +kernel), List.mem_of_getElem? (i := 681) (by decide +kernel)⟩
theorem lw_p41 : lw_okq (⟨"SequentMachineModel", "sameRow", "(IIII)Z"⟩, 15) := ⟨⟨by decide +kernel, by decide +kernel⟩, List.mem_of_getElem? (i := 553) (by decide +kernel), List.mem_of_getElem? (i := 684) (by decide +kernel), List.mem_of_getElem? (i := 685) (by decide +kernel)⟩
theorem lw_p42 : lw_okq (⟨"SequentMachineModel", "variable", "(I)Z"⟩, 15) := ⟨⟨by decide +kernel, by decide +kernel⟩, List.mem_of_getElem? (i := 553) (by decide +kernel), List.mem_of_getElem? (i := 692) (by decide +kernel), List.mem_of_getElem? (i := 693) (by decide +kernel)⟩
theorem lw_p43 : lw_okq (⟨"SequentMachineModel", "emitAbs", "(IIII)V"⟩, 15) := ⟨⟨by decide +kernel, by decide +kernel⟩, List.mem_of_getElem? (i := 553) (by decide +kernel), List.mem_of_getElem? (i := 696) (by decide +kernel), List.mem_of_getElem? (i := 697) (by decide +kernel)⟩
theorem lw_p44 : lw_okq (⟨"SequentMachineModel", "stands", "(III)Z"⟩, 15) := ⟨⟨by decide +kernel, by decide +kernel⟩, List.mem_of_getElem? (i := 553) (by decide +kernel), List.mem_of_getElem? (i := 700) (by decide +kernel), List.mem_of_getElem? (i := 701) (by decide +kernel)⟩
theorem lw_p45 : lw_okq (⟨"SequentMachineModel", "depth", "(II)I"⟩, 15) := ⟨⟨by decide +kernel, by decide +kernel⟩, List.mem_of_getElem? (i := 553) (by decide +kernel), List.mem_of_getElem? (i := 704) (by decide +kernel), List.mem_of_getElem? (i := 705) (by decide +kernel)⟩
theorem lw_p46 : lw_okq (⟨"SequentMachineModel", "skipTerm", "(I)I"⟩, 15) := ⟨⟨by decide +kernel, by decide +kernel⟩, List.mem_of_getElem? (i := 553) (by decide +kernel), List.mem_of_getElem? (i := 708) (by decide +kernel), List.mem_of_getElem? (i := 709) (by decide +kernel)⟩
theorem lw_p47 : lw_okq (⟨"SequentMachineModel", "isBool", "(II)Z"⟩, 15) := ⟨⟨by decide +kernel, by decide +kernel⟩, List.mem_of_getElem? (i := 553) (by decide +kernel), List.mem_of_getElem? (i := 716) (by decide +kernel), List.mem_of_getElem? (i := 717) (by decide +kernel)⟩
def lw_privs_3 : List (MethodName × Nat) := [(⟨"SequentMachineModel", "movePart", "(IIII)V"⟩, 15), (⟨"SequentMachineModel", "rowOf", "(I)I"⟩, 15), (⟨"SequentMachineModel", "rowEnd", "(I)I"⟩, 15), (⟨"SequentMachineModel", "emitRow", "(II)V"⟩, 15), (⟨"SequentMachineModel", "leaf", "(II)I"⟩, 15), (⟨"SequentMachineModel", "fits", "(II)Z"⟩, 15), (⟨"SequentMachineModel", "typeOf", "(I)I"⟩, 15), (⟨"SequentMachineModel", "skipType", "(I)I"⟩, 15), (⟨"SequentMachineModel", "equalAt", "(II)V"⟩, 15), (⟨"SequentMachineModel", "sameRow", "(IIII)Z"⟩, 15), (⟨"SequentMachineModel", "variable", "(I)Z"⟩, 15), (⟨"SequentMachineModel", "emitAbs", "(IIII)V"⟩, 15), (⟨"SequentMachineModel", "stands", "(III)Z"⟩, 15), (⟨"SequentMachineModel", "depth", "(II)I"⟩, 15), (⟨"SequentMachineModel", "skipTerm", "(I)I"⟩, 15), (⟨"SequentMachineModel", "isBool", "(II)Z"⟩, 15)]
theorem lw_r3 : ∀ q ∈ lw_privs_3, lw_okq q := List.forall_mem_cons.mpr ⟨lw_p32, List.forall_mem_cons.mpr ⟨lw_p33, List.forall_mem_cons.mpr ⟨lw_p34, List.forall_mem_cons.mpr ⟨lw_p35, List.forall_mem_cons.mpr ⟨lw_p36, List.forall_mem_cons.mpr ⟨lw_p37, List.forall_mem_cons.mpr ⟨lw_p38, List.forall_mem_cons.mpr ⟨lw_p39, List.forall_mem_cons.mpr ⟨lw_p40, List.forall_mem_cons.mpr ⟨lw_p41, List.forall_mem_cons.mpr ⟨lw_p42, List.forall_mem_cons.mpr ⟨lw_p43, List.forall_mem_cons.mpr ⟨lw_p44, List.forall_mem_cons.mpr ⟨lw_p45, List.forall_mem_cons.mpr ⟨lw_p46, List.forall_mem_cons.mpr ⟨lw_p47, fun _ h => absurd h List.not_mem_nil⟩⟩⟩⟩⟩⟩⟩⟩⟩⟩⟩⟩⟩⟩⟩⟩
theorem lw_p48 : lw_okq (⟨"SequentMachineModel", "claim", "(III)I"⟩, 15) := ⟨⟨by decide +kernel, by decide +kernel⟩, List.mem_of_getElem? (i := 553) (by decide +kernel), List.mem_of_getElem? (i := 720) (by decide +kernel), List.mem_of_getElem? (i := 721) (by decide +kernel)⟩
theorem lw_p49 : lw_okq (⟨"SequentMachineModel", "hypothesis", "(I)V"⟩, 15) := ⟨⟨by decide +kernel, by decide +kernel⟩, List.mem_of_getElem? (i := 553) (by decide +kernel), List.mem_of_getElem? (i := 724) (by decide +kernel), List.mem_of_getElem? (i := 725) (by decide +kernel)⟩
theorem lw_p50 : lw_okq (⟨"SequentMachineModel", "compare", "(IIII)I"⟩, 15) := ⟨⟨by decide +kernel, by decide +kernel⟩, List.mem_of_getElem? (i := 553) (by decide +kernel), List.mem_of_getElem? (i := 728) (by decide +kernel), List.mem_of_getElem? (i := 729) (by decide +kernel)⟩
theorem lw_p51 : lw_okq (⟨"SequentMachineModel", "closed", "(IIII)Z"⟩, 15) := ⟨⟨by decide +kernel, by decide +kernel⟩, List.mem_of_getElem? (i := 553) (by decide +kernel), List.mem_of_getElem? (i := 732) (by decide +kernel), List.mem_of_getElem? (i := 733) (by decide +kernel)⟩
theorem lw_p52 : lw_okq (⟨"SequentMachineModel", "occurs", "(III)Z"⟩, 15) := ⟨⟨by decide +kernel, by decide +kernel⟩, List.mem_of_getElem? (i := 553) (by decide +kernel), List.mem_of_getElem? (i := 736) (by decide +kernel), List.mem_of_getElem? (i := 737) (by decide +kernel)⟩
theorem lw_p53 : lw_okq (⟨"SequentMachineModel", "beginEquation", "(II)V"⟩, 15) := ⟨⟨by decide +kernel, by decide +kernel⟩, List.mem_of_getElem? (i := 553) (by decide +kernel), List.mem_of_getElem? (i := 740) (by decide +kernel), List.mem_of_getElem? (i := 741) (by decide +kernel)⟩
theorem lw_p54 : lw_okq (⟨"SequentMachineModel", "reduce", "(II)V"⟩, 15) := ⟨⟨by decide +kernel, by decide +kernel⟩, List.mem_of_getElem? (i := 553) (by decide +kernel), List.mem_of_getElem? (i := 744) (by decide +kernel), List.mem_of_getElem? (i := 745) (by decide +kernel)⟩
theorem lw_p55 : lw_okq (⟨"SequentMachineModel", "define", "(II)I"⟩, 15) := ⟨⟨by decide +kernel, by decide +kernel⟩, List.mem_of_getElem? (i := 553) (by decide +kernel), List.mem_of_getElem? (i := 748) (by decide +kernel), List.mem_of_getElem? (i := 749) (by decide +kernel)⟩
theorem lw_p56 : lw_okq (⟨"SequentMachineModel", "bring", "(III)V"⟩, 15) := ⟨⟨by decide +kernel, by decide +kernel⟩, List.mem_of_getElem? (i := 553) (by decide +kernel), List.mem_of_getElem? (i := 756) (by decide +kernel), List.mem_of_getElem? (i := 757) (by decide +kernel)⟩
theorem lw_p57 : lw_okq (⟨"SequentMachineModel", "isEquation", "(I)Z"⟩, 15) := ⟨⟨by decide +kernel, by decide +kernel⟩, List.mem_of_getElem? (i := 553) (by decide +kernel), List.mem_of_getElem? (i := 760) (by decide +kernel), List.mem_of_getElem? (i := 761) (by decide +kernel)⟩
theorem lw_p58 : lw_okq (⟨"SequentMachineModel", "left", "(I)I"⟩, 15) := ⟨⟨by decide +kernel, by decide +kernel⟩, List.mem_of_getElem? (i := 553) (by decide +kernel), List.mem_of_getElem? (i := 764) (by decide +kernel), List.mem_of_getElem? (i := 765) (by decide +kernel)⟩
theorem lw_p59 : lw_okq (⟨"SequentMachineModel", "applied", "(IIIII)V"⟩, 15) := ⟨⟨by decide +kernel, by decide +kernel⟩, List.mem_of_getElem? (i := 553) (by decide +kernel), List.mem_of_getElem? (i := 768) (by decide +kernel), List.mem_of_getElem? (i := 769) (by decide +kernel)⟩
theorem lw_p60 : lw_okq (⟨"SequentMachineModel", "free", "(IIII)Z"⟩, 15) := ⟨⟨by decide +kernel, by decide +kernel⟩, List.mem_of_getElem? (i := 553) (by decide +kernel), List.mem_of_getElem? (i := 776) (by decide +kernel), List.mem_of_getElem? (i := 777) (by decide +kernel)⟩
theorem lw_p61 : lw_okq (⟨"SequentMachineModel", "replaced", "(IIIIII)V"⟩, 15) := ⟨⟨by decide +kernel, by decide +kernel⟩, List.mem_of_getElem? (i := 553) (by decide +kernel), List.mem_of_getElem? (i := 784) (by decide +kernel), List.mem_of_getElem? (i := 785) (by decide +kernel)⟩
theorem lw_p62 : lw_okq (⟨"SequentMachineModel", "retyped", "(IIIII)V"⟩, 15) := ⟨⟨by decide +kernel, by decide +kernel⟩, List.mem_of_getElem? (i := 553) (by decide +kernel), List.mem_of_getElem? (i := 792) (by decide +kernel), List.mem_of_getElem? (i := 793) (by decide +kernel)⟩
theorem lw_p63 : lw_okq (⟨"SequentMachineModel", "at", "(I)I"⟩, 15) := ⟨⟨by decide +kernel, by decide +kernel⟩, List.mem_of_getElem? (i := 553) (by decide +kernel), List.mem_of_getElem? (i := 820) (by decide +kernel), List.mem_of_getElem? (i := 821) (by decide +kernel)⟩
def lw_privs_4 : List (MethodName × Nat) := [(⟨"SequentMachineModel", "claim", "(III)I"⟩, 15), (⟨"SequentMachineModel", "hypothesis", "(I)V"⟩, 15), (⟨"SequentMachineModel", "compare", "(IIII)I"⟩, 15), (⟨"SequentMachineModel", "closed", "(IIII)Z"⟩, 15), (⟨"SequentMachineModel", "occurs", "(III)Z"⟩, 15), (⟨"SequentMachineModel", "beginEquation", "(II)V"⟩, 15), (⟨"SequentMachineModel", "reduce", "(II)V"⟩, 15), (⟨"SequentMachineModel", "define", "(II)I"⟩, 15), (⟨"SequentMachineModel", "bring", "(III)V"⟩, 15), (⟨"SequentMachineModel", "isEquation", "(I)Z"⟩, 15), (⟨"SequentMachineModel", "left", "(I)I"⟩, 15), (⟨"SequentMachineModel", "applied", "(IIIII)V"⟩, 15), (⟨"SequentMachineModel", "free", "(IIII)Z"⟩, 15), (⟨"SequentMachineModel", "replaced", "(IIIIII)V"⟩, 15), (⟨"SequentMachineModel", "retyped", "(IIIII)V"⟩, 15), (⟨"SequentMachineModel", "at", "(I)I"⟩, 15)]
theorem lw_r4 : ∀ q ∈ lw_privs_4, lw_okq q := List.forall_mem_cons.mpr ⟨lw_p48, List.forall_mem_cons.mpr ⟨lw_p49, List.forall_mem_cons.mpr ⟨lw_p50, List.forall_mem_cons.mpr ⟨lw_p51, List.forall_mem_cons.mpr ⟨lw_p52, List.forall_mem_cons.mpr ⟨lw_p53, List.forall_mem_cons.mpr ⟨lw_p54, List.forall_mem_cons.mpr ⟨lw_p55, List.forall_mem_cons.mpr ⟨lw_p56, List.forall_mem_cons.mpr ⟨lw_p57, List.forall_mem_cons.mpr ⟨lw_p58, List.forall_mem_cons.mpr ⟨lw_p59, List.forall_mem_cons.mpr ⟨lw_p60, List.forall_mem_cons.mpr ⟨lw_p61, List.forall_mem_cons.mpr ⟨lw_p62, List.forall_mem_cons.mpr ⟨lw_p63, fun _ h => absurd h List.not_mem_nil⟩⟩⟩⟩⟩⟩⟩⟩⟩⟩⟩⟩⟩⟩⟩⟩
def lw_privs : List (MethodName × Nat) := lw_privs_1 ++ (lw_privs_2 ++ (lw_privs_3 ++ (lw_privs_4)))
def lw_tbl : List Cond := k2_sels lw_privs ++ tables_1
theorem lw_privs_ok : ∀ q ∈ lw_privs, lw_okq q := by
  show ∀ q ∈ lw_privs_1 ++ (lw_privs_2 ++ (lw_privs_3 ++ (lw_privs_4))), lw_okq q
  exact List.forall_mem_append.mpr ⟨lw_r1, List.forall_mem_append.mpr ⟨lw_r2, List.forall_mem_append.mpr ⟨lw_r3, lw_r4⟩⟩⟩
-- ===== end of PART A; then your names; then what follows =====
/-! THE CLAIM OUT OF ONE WALK OF THE LAW'S BODY. Your part is whole_start (and what it stands on); all else here is the same for every law, but numbers. -/
end
section
/-! names: classes, their fields in the order of their slots, the tables' words -/
def ct_0 : u_T := fun k => match k with
  | 0 => ("SequentMachine$Depth", "restAfter", "[I", true)
  | 1 => ("SequentMachine$Depth", "around", "I", false)
  | _ => ("SequentMachine$Depth", "missing", "I", false)
def cy_0 : Nat → FieldType := fun k => match k with
  | 0 => .array .int
  | 1 => .int
  | _ => .int
theorem cq_0 : ∀ a, a < 3 → ∀ b, b < 3 → a ≠ b → (ct_0 a).2.1 ≠ (ct_0 b).2.1 := by decide +kernel
theorem cp_0 : ∀ k, k < 3 → parseFieldDescriptor (ct_0 k).2.2.1 = some (cy_0 k) := by decide +kernel
def ct_1 : u_T := fun k => match k with
  | 0 => ("SequentMachine$Equation", "type", "LSequentMachine$Row;", true)
  | 1 => ("SequentMachine$Equation", "left", "LSequentMachine$Row;", true)
  | _ => ("SequentMachine$Equation", "right", "LSequentMachine$Row;", true)
def cy_1 : Nat → FieldType := fun k => match k with
  | 0 => .object "SequentMachine$Row"
  | 1 => .object "SequentMachine$Row"
  | _ => .object "SequentMachine$Row"
theorem cq_1 : ∀ a, a < 3 → ∀ b, b < 3 → a ≠ b → (ct_1 a).2.1 ≠ (ct_1 b).2.1 := by decide +kernel
theorem cp_1 : ∀ k, k < 3 → parseFieldDescriptor (ct_1 k).2.2.1 = some (cy_1 k) := by decide +kernel
def ct_2 : u_T := fun k => match k with
  | 0 => ("SequentMachine$Hypotheses", "rows", "[LSequentMachine$Row;", true)
  | _ => ("SequentMachine$Hypotheses", "size", "I", false)
def cy_2 : Nat → FieldType := fun k => match k with
  | 0 => .array (.object "SequentMachine$Row")
  | _ => .int
theorem cq_2 : ∀ a, a < 2 → ∀ b, b < 2 → a ≠ b → (ct_2 a).2.1 ≠ (ct_2 b).2.1 := by decide +kernel
theorem cp_2 : ∀ k, k < 2 → parseFieldDescriptor (ct_2 k).2.2.1 = some (cy_2 k) := by decide +kernel
def ct_3 : u_T := fun k => match k with
  | 0 => ("SequentMachine$Item", "sort", "I", true)
  | 1 => ("SequentMachine$Item", "main", "LSequentMachine$Row;", true)
  | _ => ("SequentMachine$Item", "hypotheses", "LSequentMachine$Hypotheses;", true)
def cy_3 : Nat → FieldType := fun k => match k with
  | 0 => .int
  | 1 => .object "SequentMachine$Row"
  | _ => .object "SequentMachine$Hypotheses"
theorem cq_3 : ∀ a, a < 3 → ∀ b, b < 3 → a ≠ b → (ct_3 a).2.1 ≠ (ct_3 b).2.1 := by decide +kernel
theorem cp_3 : ∀ k, k < 3 → parseFieldDescriptor (ct_3 k).2.2.1 = some (cy_3 k) := by decide +kernel
def ct_4 : u_T := fun k => match k with
  | 0 => ("SequentMachine$Row", "symbols", "[I", true)
  | 1 => ("SequentMachine$Row", "from", "I", true)
  | _ => ("SequentMachine$Row", "size", "I", true)
def cy_4 : Nat → FieldType := fun k => match k with
  | 0 => .array .int
  | 1 => .int
  | _ => .int
theorem cq_4 : ∀ a, a < 3 → ∀ b, b < 3 → a ≠ b → (ct_4 a).2.1 ≠ (ct_4 b).2.1 := by decide +kernel
theorem cp_4 : ∀ k, k < 3 → parseFieldDescriptor (ct_4 k).2.2.1 = some (cy_4 k) := by decide +kernel
def ct_5 : u_T := fun k => match k with
  | 0 => ("SequentMachine$Scribe", "page", "[I", true)
  | 1 => ("SequentMachine$Scribe", "used", "I", false)
  | 2 => ("SequentMachine$Scribe", "depth", "LSequentMachine$Depth;", true)
  | _ => ("SequentMachine$Scribe", "binders", "[LSequentMachine$Row;", true)
def cy_5 : Nat → FieldType := fun k => match k with
  | 0 => .array .int
  | 1 => .int
  | 2 => .object "SequentMachine$Depth"
  | _ => .array (.object "SequentMachine$Row")
theorem cq_5 : ∀ a, a < 4 → ∀ b, b < 4 → a ≠ b → (ct_5 a).2.1 ≠ (ct_5 b).2.1 := by decide +kernel
theorem cp_5 : ∀ k, k < 4 → parseFieldDescriptor (ct_5 k).2.2.1 = some (cy_5 k) := by decide +kernel
def ct_6 : u_T := fun k => match k with
  | 0 => ("SequentMachine$Shelf", "items", "[LSequentMachine$Item;", true)
  | _ => ("SequentMachine$Shelf", "size", "I", false)
def cy_6 : Nat → FieldType := fun k => match k with
  | 0 => .array (.object "SequentMachine$Item")
  | _ => .int
theorem cq_6 : ∀ a, a < 2 → ∀ b, b < 2 → a ≠ b → (ct_6 a).2.1 ≠ (ct_6 b).2.1 := by decide +kernel
theorem cp_6 : ∀ k, k < 2 → parseFieldDescriptor (ct_6 k).2.2.1 = some (cy_6 k) := by decide +kernel
def ct_7 : u_T := fun k => match k with
  | 0 => ("SequentMachine", "scribe", "LSequentMachine$Scribe;", true)
  | 1 => ("SequentMachine", "stack", "LSequentMachine$Shelf;", true)
  | 2 => ("SequentMachine", "assumed", "LSequentMachine$Shelf;", true)
  | 3 => ("SequentMachine", "exported", "LSequentMachine$Shelf;", true)
  | 4 => ("SequentMachine", "dictionary", "[LSequentMachine$Item;", true)
  | 5 => ("SequentMachine", "definedTypes", "[LSequentMachine$Row;", true)
  | 6 => ("SequentMachine", "noHypotheses", "LSequentMachine$Hypotheses;", true)
  | 7 => ("SequentMachine", "constants", "I", false)
  | _ => ("SequentMachine", "commands", "I", false)
def cy_7 : Nat → FieldType := fun k => match k with
  | 0 => .object "SequentMachine$Scribe"
  | 1 => .object "SequentMachine$Shelf"
  | 2 => .object "SequentMachine$Shelf"
  | 3 => .object "SequentMachine$Shelf"
  | 4 => .array (.object "SequentMachine$Item")
  | 5 => .array (.object "SequentMachine$Row")
  | 6 => .object "SequentMachine$Hypotheses"
  | 7 => .int
  | _ => .int
theorem cq_7 : ∀ a, a < 9 → ∀ b, b < 9 → a ≠ b → (ct_7 a).2.1 ≠ (ct_7 b).2.1 := by decide +kernel
theorem cp_7 : ∀ k, k < 9 → parseFieldDescriptor (ct_7 k).2.2.1 = some (cy_7 k) := by decide +kernel
def ct_8 : u_T := fun k => match k with
  | 0 => ("SequentMachineModel", "mem", "[I", true)
  | 1 => ("SequentMachineModel", "len", "[I", true)
  | 2 => ("SequentMachineModel", "kinds", "[I", true)
  | 3 => ("SequentMachineModel", "hyps", "[I", true)
  | 4 => ("SequentMachineModel", "size", "I", false)
  | 5 => ("SequentMachineModel", "assumed", "I", false)
  | 6 => ("SequentMachineModel", "exported", "I", false)
  | 7 => ("SequentMachineModel", "constants", "I", false)
  | 8 => ("SequentMachineModel", "commands", "I", false)
  | 9 => ("SequentMachineModel", "constLen", "[I", true)
  | 10 => ("SequentMachineModel", "binder", "[I", true)
  | 11 => ("SequentMachineModel", "out", "I", false)
  | 12 => ("SequentMachineModel", "big", "Z", false)
  | 13 => ("SequentMachineModel", "typeFrom", "I", false)
  | _ => ("SequentMachineModel", "typeEnd", "I", false)
def cy_8 : Nat → FieldType := fun k => match k with
  | 0 => .array .int
  | 1 => .array .int
  | 2 => .array .int
  | 3 => .array .int
  | 4 => .int
  | 5 => .int
  | 6 => .int
  | 7 => .int
  | 8 => .int
  | 9 => .array .int
  | 10 => .array .int
  | 11 => .int
  | 12 => .boolean
  | 13 => .int
  | _ => .int
theorem cq_8 : ∀ a, a < 15 → ∀ b, b < 15 → a ≠ b → (ct_8 a).2.1 ≠ (ct_8 b).2.1 := by decide +kernel
theorem cp_8 : ∀ k, k < 15 → parseFieldDescriptor (ct_8 k).2.2.1 = some (cy_8 k) := by decide +kernel
abbrev cl_s : List vw_C := [("SequentMachine$Depth", ct_0, 3), ("SequentMachine$Equation", ct_1, 3), ("SequentMachine$Hypotheses", ct_2, 2), ("SequentMachine$Item", ct_3, 3), ("SequentMachine$Row", ct_4, 3), ("SequentMachine$Scribe", ct_5, 4), ("SequentMachine$Shelf", ct_6, 2), ("SequentMachine", ct_7, 9), ("SequentMachineModel", ct_8, 15)]
def x_ws : List Cond := lw_tbl.filter goodWord
theorem x_good : ∀ w ∈ x_ws, (w.onTables && w.keeps) = true ∨ ∃ ty, w = .arrayClass ty := fun w h => good_of_word (List.mem_filter.mp h).2
theorem x_at {w : Cond} (i : Nat) (h : tables_1[i]? = some w) (hg : goodWord w = true) : w ∈ x_ws := List.mem_filter.mpr ⟨List.mem_append_right _ (List.mem_of_getElem? h), hg⟩
theorem x_sel {q : MethodName × Nat} (i : Nat) (h : lw_privs[i]? = some q) : Cond.selects q.1.cls q.1 q.1 ∈ x_ws := List.mem_filter.mpr ⟨List.mem_append_left _ (List.mem_map.mpr ⟨q, List.mem_of_getElem? h, rfl⟩), rfl⟩
def x_NF : List (String × Nat × String × String × String × String) := [("SequentMachine$Scribe", 62, "SequentMachine$Depth", "around", "I", "SequentMachine"), ("SequentMachine", 200, "SequentMachine$Shelf", "size", "I", "SequentMachine"), ("SequentMachine", 164, "SequentMachine$Hypotheses", "rows", "[LSequentMachine$Row;", "SequentMachine"), ("SequentMachine", 161, "SequentMachine$Hypotheses", "size", "I", "SequentMachine"), ("SequentMachine$Equation", 29, "SequentMachine$Row", "size", "I", "SequentMachine"), ("SequentMachine$Item", 23, "SequentMachine$Row", "size", "I", "SequentMachine"), ("SequentMachine$Hypotheses", 35, "SequentMachine$Row", "size", "I", "SequentMachine"), ("SequentMachine$Scribe", 47, "SequentMachine$Row", "size", "I", "SequentMachine"), ("SequentMachine", 210, "SequentMachine$Row", "size", "I", "SequentMachine"), ("SequentMachine", 204, "SequentMachine$Item", "sort", "I", "SequentMachine"), ("SequentMachine", 132, "SequentMachine$Item", "main", "LSequentMachine$Row;", "SequentMachine"), ("SequentMachine", 140, "SequentMachine$Item", "hypotheses", "LSequentMachine$Hypotheses;", "SequentMachine"), ("SequentMachine", 155, "SequentMachine$Equation", "type", "LSequentMachine$Row;", "SequentMachine"), ("SequentMachine", 147, "SequentMachine$Equation", "left", "LSequentMachine$Row;", "SequentMachine"), ("SequentMachine", 152, "SequentMachine$Equation", "right", "LSequentMachine$Row;", "SequentMachine")]
def x_NM : List (String × Nat × MethodName × String) := [("SequentMachine", 9, ⟨"SequentMachine$Scribe", "<init>", "()V"⟩, "SequentMachine"), ("SequentMachine$Scribe", 17, ⟨"SequentMachine$Depth", "<init>", "()V"⟩, "SequentMachine"), ("SequentMachine", 45, ⟨"SequentMachine$Hypotheses", "<init>", "()V"⟩, "SequentMachine")]
def x_N : List Cond := x_NF.map (fun q => Cond.fieldLinkNest q.1 q.2.1 q.2.2.1 q.2.2.2.1 q.2.2.2.2.1 q.2.2.2.2.2) ++ x_NM.map (fun q => Cond.methodLinkNest q.1 q.2.1 q.2.2.1 q.2.2.2)
theorem ck_0 : ∀ w ∈ u_ws "SequentMachine$Depth" ct_0 3, w ∈ x_ws := by
  intro w hw
  obtain ⟨k, hk, rfl⟩ := List.mem_map.mp hw
  have hk := List.mem_range.mp hk
  rcases (show k = 0 ∨ k = 1 ∨ k = 2 by omega) with rfl | rfl | rfl
  · exact x_at 37 (by decide +kernel) rfl
  · exact x_at 39 (by decide +kernel) rfl
  · exact x_at 41 (by decide +kernel) rfl
theorem ck_1 : ∀ w ∈ u_ws "SequentMachine$Equation" ct_1 3, w ∈ x_ws := by
  intro w hw
  obtain ⟨k, hk, rfl⟩ := List.mem_map.mp hw
  have hk := List.mem_range.mp hk
  rcases (show k = 0 ∨ k = 1 ∨ k = 2 by omega) with rfl | rfl | rfl
  · exact x_at 438 (by decide +kernel) rfl
  · exact x_at 440 (by decide +kernel) rfl
  · exact x_at 442 (by decide +kernel) rfl
theorem ck_2 : ∀ w ∈ u_ws "SequentMachine$Hypotheses" ct_2 2, w ∈ x_ws := by
  intro w hw
  obtain ⟨k, hk, rfl⟩ := List.mem_map.mp hw
  have hk := List.mem_range.mp hk
  rcases (show k = 0 ∨ k = 1 by omega) with rfl | rfl
  · exact x_at 89 (by decide +kernel) rfl
  · exact x_at 91 (by decide +kernel) rfl
theorem ck_3 : ∀ w ∈ u_ws "SequentMachine$Item" ct_3 3, w ∈ x_ws := by
  intro w hw
  obtain ⟨k, hk, rfl⟩ := List.mem_map.mp hw
  have hk := List.mem_range.mp hk
  rcases (show k = 0 ∨ k = 1 ∨ k = 2 by omega) with rfl | rfl | rfl
  · exact x_at 189 (by decide +kernel) rfl
  · exact x_at 191 (by decide +kernel) rfl
  · exact x_at 193 (by decide +kernel) rfl
theorem ck_4 : ∀ w ∈ u_ws "SequentMachine$Row" ct_4 3, w ∈ x_ws := by
  intro w hw
  obtain ⟨k, hk, rfl⟩ := List.mem_map.mp hw
  have hk := List.mem_range.mp hk
  rcases (show k = 0 ∨ k = 1 ∨ k = 2 by omega) with rfl | rfl | rfl
  · exact x_at 167 (by decide +kernel) rfl
  · exact x_at 169 (by decide +kernel) rfl
  · exact x_at 171 (by decide +kernel) rfl
theorem ck_5 : ∀ w ∈ u_ws "SequentMachine$Scribe" ct_5 4, w ∈ x_ws := by
  intro w hw
  obtain ⟨k, hk, rfl⟩ := List.mem_map.mp hw
  have hk := List.mem_range.mp hk
  rcases (show k = 0 ∨ k = 1 ∨ k = 2 ∨ k = 3 by omega) with rfl | rfl | rfl | rfl
  · exact x_at 51 (by decide +kernel) rfl
  · exact x_at 53 (by decide +kernel) rfl
  · exact x_at 55 (by decide +kernel) rfl
  · exact x_at 57 (by decide +kernel) rfl
theorem ck_6 : ∀ w ∈ u_ws "SequentMachine$Shelf" ct_6 2, w ∈ x_ws := by
  intro w hw
  obtain ⟨k, hk, rfl⟩ := List.mem_map.mp hw
  have hk := List.mem_range.mp hk
  rcases (show k = 0 ∨ k = 1 by omega) with rfl | rfl
  · exact x_at 71 (by decide +kernel) rfl
  · exact x_at 73 (by decide +kernel) rfl
theorem ck_7 : ∀ w ∈ u_ws "SequentMachine" ct_7 9, w ∈ x_ws := by
  intro w hw
  obtain ⟨k, hk, rfl⟩ := List.mem_map.mp hw
  have hk := List.mem_range.mp hk
  rcases (show k = 0 ∨ k = 1 ∨ k = 2 ∨ k = 3 ∨ k = 4 ∨ k = 5 ∨ k = 6 ∨ k = 7 ∨ k = 8 by omega) with rfl | rfl | rfl | rfl | rfl | rfl | rfl | rfl | rfl
  · exact x_at 103 (by decide +kernel) rfl
  · exact x_at 105 (by decide +kernel) rfl
  · exact x_at 107 (by decide +kernel) rfl
  · exact x_at 109 (by decide +kernel) rfl
  · exact x_at 111 (by decide +kernel) rfl
  · exact x_at 113 (by decide +kernel) rfl
  · exact x_at 115 (by decide +kernel) rfl
  · exact x_at 117 (by decide +kernel) rfl
  · exact x_at 119 (by decide +kernel) rfl
theorem ck_8 : ∀ w ∈ u_ws "SequentMachineModel" ct_8 15, w ∈ x_ws := by
  intro w hw
  obtain ⟨k, hk, rfl⟩ := List.mem_map.mp hw
  have hk := List.mem_range.mp hk
  rcases (show k = 0 ∨ k = 1 ∨ k = 2 ∨ k = 3 ∨ k = 4 ∨ k = 5 ∨ k = 6 ∨ k = 7 ∨ k = 8 ∨ k = 9 ∨ k = 10 ∨ k = 11 ∨ k = 12 ∨ k = 13 ∨ k = 14 by omega) with rfl | rfl | rfl | rfl | rfl | rfl | rfl | rfl | rfl | rfl | rfl | rfl | rfl | rfl | rfl
  · exact x_at 573 (by decide +kernel) rfl
  · exact x_at 575 (by decide +kernel) rfl
  · exact x_at 577 (by decide +kernel) rfl
  · exact x_at 579 (by decide +kernel) rfl
  · exact x_at 581 (by decide +kernel) rfl
  · exact x_at 583 (by decide +kernel) rfl
  · exact x_at 585 (by decide +kernel) rfl
  · exact x_at 587 (by decide +kernel) rfl
  · exact x_at 589 (by decide +kernel) rfl
  · exact x_at 591 (by decide +kernel) rfl
  · exact x_at 593 (by decide +kernel) rfl
  · exact x_at 595 (by decide +kernel) rfl
  · exact x_at 597 (by decide +kernel) rfl
  · exact x_at 599 (by decide +kernel) rfl
  · exact x_at 601 (by decide +kernel) rfl
end
section
/-! The plain machine: ints are whole numbers, references are places in one list of cells; a step of it is a step of the real one -/
abbrev xV : Type := Int ⊕ Option Nat
abbrev xC : Type := List Int ⊕ ((Nat × List (Option Nat)) ⊕ (Nat × List xV))
abbrev xH : Type := List xC × Nat
abbrev xD : Type := Nat × va_G × (Nat → ClassId)
abbrev xM : Type := MethodName × ByteArray × Nat × Option FieldType × Nat × Nat
def x_r (b : Nat) (r : Option Nat) : Option Nat := r.map (fun a => b + a)
def x_v (b : Nat) : xV → Value
  | .inl i => .int (Int32.ofInt i)
  | .inr r => va_rf (x_r b r)
def x_e (d : xD) : xC → va_E
  | .inl l => .inl (d.2.2 0, l.length, .inl (fun j => Int32.ofInt (l.getD j 0)))
  | .inr (.inl q) => .inl (d.2.2 (q.1 + 1), q.2.length, .inr (.inr (.inr (.inr (fun j => x_r d.1 (q.2.getD j none))))))
  | .inr (.inr o) => .inr (o.1, o.2.map (x_v d.1))
def x_R (d : xD) (h : xH) (H : Heap) : Prop := H.size = d.1 + h.1.length ∧ ∀ (i : Nat) (c : xC), h.1[i]? = some c → va_at d.2.1 cl_s (d.1 + i, x_e d c) H
theorem x_R.sing {d : xD} {h : xH} {H : Heap} {i : Nat} {c : xC} (hR : x_R d h H) (hi : h.1[i]? = some c) : va_P d.2.1 cl_s [(d.1 + i, x_e d c)] H := by
  intro k q hk
  cases k with
  | zero => cases hk; exact hR.2 i c hi
  | succ k => simp at hk
theorem x_R.set {d : xD} {h : xH} {H H1 : Heap} {i : Nat} {c' : xC} (hR : x_R d h H) (hi : i < h.1.length) (hz : H1.size = H.size) (ho : ∀ q : Nat, q ≠ d.1 + i → H1[q]? = H[q]?) (hc : va_at d.2.1 cl_s (d.1 + i, x_e d c') H1) : x_R d (h.1.set i c', h.2) H1 := by
  refine ⟨by rw [hz, hR.1]; simp, fun j c hj => ?_⟩
  by_cases hij : j = i
  · subst hij
    rw [List.getElem?_set_self hi] at hj
    cases hj
    exact hc
  · rw [List.getElem?_set_ne (Ne.symm hij)] at hj
    exact (hR.2 j c hj).kept (ho _ (fun e => hij (Nat.add_left_cancel e)))
theorem x_R.push {d : xD} {h : xH} {H H1 : Heap} {c' : xC} {n : Nat} (hR : x_R d h H) (hz : H1.size = H.size + 1) (ho : ∀ q : Nat, q < H.size → H1[q]? = H[q]?) (hc : va_at d.2.1 cl_s (H.size, x_e d c') H1) : x_R d (h.1 ++ [c'], n) H1 := by
  refine ⟨by rw [hz, hR.1]; simp; omega, fun j c hj => ?_⟩
  by_cases hlt : j < h.1.length
  · rw [List.getElem?_append_left hlt] at hj
    exact (hR.2 j c hj).kept (ho _ (by rw [hR.1]; exact Nat.add_lt_add_left hlt _))
  · rw [List.getElem?_append_right (by omega)] at hj
    have hz : j - h.1.length < 1 := (List.getElem?_eq_some_iff.mp hj).1
    have e : j = h.1.length := by omega
    subst e
    simp at hj
    subst hj
    rw [← hR.1]
    exact hc
/-! ints -/
def wr (x : Int) : Int := (x + 2147483648) % 4294967296 - 2147483648
def ir (x : Int) : Prop := -2147483648 ≤ x ∧ x < 2147483648
theorem wr_toInt (x : Int) : (Int32.ofInt x).toInt = wr x := by
  rw [Int32.toInt_ofInt]
  show Int.bmod x 4294967296 = wr x
  unfold Int.bmod wr
  simp only
  split <;> omega
theorem wr_id {x : Int} (h : ir x) : wr x = x := by
  unfold ir at h
  unfold wr
  omega
theorem wr_ir (x : Int) : ir (wr x) := by
  unfold ir wr
  omega
theorem x_i32 (x : Int32) : ir x.toInt := ⟨Int32.le_toInt x, Int32.toInt_lt x⟩
theorem x_wr (x : Int) : Int32.ofInt (wr x) = Int32.ofInt x := Int32.toInt_inj.mp (by rw [wr_toInt, wr_toInt, wr_id (wr_ir x)])
theorem x_le {a b : Int} (ha : ir a) (hb : ir b) : Int32.ofInt a ≤ Int32.ofInt b ↔ a ≤ b := by rw [Int32.le_iff_toInt_le, wr_toInt, wr_toInt, wr_id ha, wr_id hb]
theorem x_lt {a b : Int} (ha : ir a) (hb : ir b) : Int32.ofInt a < Int32.ofInt b ↔ a < b := by rw [Int32.lt_iff_toInt_lt, wr_toInt, wr_toInt, wr_id ha, wr_id hb]
theorem x_eq {a b : Int} (ha : ir a) (hb : ir b) : Int32.ofInt a = Int32.ofInt b ↔ a = b := by rw [← Int32.toInt_inj, wr_toInt, wr_toInt, wr_id ha, wr_id hb]
theorem ir_0 : ir 0 := by unfold ir; decide
theorem x_z : (0 : Int32) = Int32.ofInt 0 := by decide +kernel
theorem x_eq0 {a : Int} (ha : ir a) : Int32.ofInt a = 0 ↔ a = 0 := by rw [x_z, x_eq ha ir_0]
theorem x_lt0 {a : Int} (ha : ir a) : Int32.ofInt a < 0 ↔ a < 0 := by rw [x_z, x_lt ha ir_0]
theorem x_0lt {a : Int} (ha : ir a) : 0 < Int32.ofInt a ↔ 0 < a := by rw [x_z, x_lt ir_0 ha]
theorem x_le0 {a : Int} (ha : ir a) : Int32.ofInt a ≤ 0 ↔ a ≤ 0 := by rw [x_z, x_le ha ir_0]
theorem x_0le {a : Int} (ha : ir a) : 0 ≤ Int32.ofInt a ↔ 0 ≤ a := by rw [x_z, x_le ir_0 ha]
theorem x_cl {j : Int} (h0 : 0 ≤ j) (h1 : j < 2147483648) : (Int32.ofInt j).toNatClampNeg = j.toNat := by
  show (Int32.ofInt j).toInt.toNat = j.toNat
  rw [wr_toInt, wr_id ⟨by omega, h1⟩]
theorem x_n0 {j : Int} (h0 : 0 ≤ j) (h1 : j < 2147483648) : ¬ Int32.ofInt j < 0 := by
  rw [x_z, x_lt ⟨by omega, h1⟩ ir_0]
  omega
theorem x_in {j : Int} {n : Nat} (h0 : 0 ≤ j) (h1 : j.toNat < n) (hn : n < 2147483648) : vp_in (Int32.ofInt j) n := by
  intro q
  rcases q with q | q
  · exact x_n0 h0 (by omega) q
  · rw [x_cl h0 (by omega)] at q
    omega
/-! locals -/
def x_ll (b : Nat) (L : List (Option xV)) : List (Nat × Value) := (List.range L.length).filterMap (fun i => (L.getD i none).map (fun v => (i, x_v b v)))
theorem x_ll_mem {b : Nat} {L : List (Option xV)} {q : Nat × Value} : q ∈ x_ll b L ↔ ∃ v, L[q.1]? = some (some v) ∧ q.2 = x_v b v := by
  unfold x_ll
  rw [List.mem_filterMap]
  constructor
  · rintro ⟨i, hi, e⟩
    rw [List.mem_range] at hi
    rw [List.getD_eq_getElem?_getD] at e
    cases hL : L[i]? with
    | none => rw [hL] at e; simp at e
    | some o =>
      rw [hL] at e
      cases o with
      | none => simp at e
      | some v =>
        simp at e
        subst e
        exact ⟨v, hL, rfl⟩
  · rintro ⟨v, h1, h2⟩
    refine ⟨q.1, List.mem_range.mpr (List.getElem?_eq_some_iff.mp h1).1, ?_⟩
    rw [List.getD_eq_getElem?_getD, h1]
    simp
    rw [← h2]
theorem x_cat (b : Nat) (v : xV) : (x_v b v).category = 1 := by
  cases v with
  | inl i => rfl
  | inr r => cases r <;> rfl
abbrev x_L (b : Nat) (ls : Array Slot) (n : Nat) (L : List (Option xV)) : Prop := lv_has ls n (x_ll b L)
theorem x_L_get {b : Nat} {ls : Array Slot} {n : Nat} {L : List (Option xV)} {i : Nat} {v : xV} (h : x_L b ls n L) (hi : L[i]? = some (some v)) : ls[i]? = some (.val (x_v b v)) :=
  h.2.2 (i, x_v b v) (x_ll_mem.mpr ⟨v, hi, rfl⟩)
theorem x_L_set {b : Nat} {ls : Array Slot} {n : Nat} {L : List (Option xV)} {i : Nat} {v : xV} (h : lv_has ls n ((i, x_v b v) :: (x_ll b L).filter (fun q => !(q.1 == i) && !(q.1 + 1 == i && q.2.category == 2)))) : x_L b ls n (L.set i (some v)) := by
  refine ⟨h.1, h.2.1, fun q hq => h.2.2 q ?_⟩
  obtain ⟨u, h1, h2⟩ := x_ll_mem.mp hq
  obtain ⟨j, w0⟩ := q
  dsimp only at h1 h2
  subst h2
  by_cases hij : j = i
  · subst hij
    have hl : j < L.length := by
      have := (List.getElem?_eq_some_iff.mp h1).1
      simpa using this
    rw [List.getElem?_set_self hl] at h1
    cases h1
    exact List.mem_cons_self
  · rw [List.getElem?_set_ne (Ne.symm hij)] at h1
    refine List.mem_cons_of_mem _ (List.mem_filter.mpr ⟨x_ll_mem.mpr ⟨u, h1, rfl⟩, ?_⟩)
    simp [hij, x_cat]
/-! the judgements -/
def x_rm (M : xM) (mc ms : Nat) : Room := { frames := M.2.2.2.2.1, cells := mc, slots := ms, locals := M.2.2.2.2.2 }
def x_wM (M : xM) : List Cond := Cond.code M.1 M.2.1 M.2.2.1 M.2.2.2.1 :: x_ws
def x_tys (d : xD) : List (ClassId × FieldType) := [(d.2.2 0, .int), (d.2.2 1, .object "SequentMachine$Row"), (d.2.2 2, .object "SequentMachine$Item")]
def x_K (d : xD) (U : State) : Prop := va_K d.2.1 cl_s (x_tys d) U ∧ (∀ w ∈ x_N, va_Nw w U) ∧ va_AO "SequentMachine$Row" U ∧ va_AO "SequentMachine$Item" U
def x_Cx (M : xM) (p : Program) (s : State) (m : MethodId) (args : Array Value) (meth : Method) (c : Code) (d : xD) : Prop :=
  p.tables.exec = Jvm.exec ∧ c.code = M.2.1 ∧ c.maxLocals = M.2.2.1 ∧ s.vm.findClass M.1.cls = some m.cls ∧ (∀ w ∈ x_wM M, w.before args s = true) ∧ meth.sig.returnType = M.2.2.2.1 ∧ meth.locks = false ∧ meth.name = M.1.name ∧ x_K d s
def x_Q (d : xD) (r : Option xV) (hf : xH) : Array Value → State → Outcome → State → Prop := fun _ _ o t => o = .returned (r.map (x_v d.1)) ∧ x_R d hf t.heap
def x_B (M : xM) (pc : Nat) (L : List (Option xV)) (st : List xV) (h : xH) (r : Option xV) (hf : xH) : Prop :=
  (h.1.length ≤ hf.1.length ∧ h.2 ≤ hf.2) ∧ ∀ (p : Program) (l : Launch) (e : Env) (s : State) (m : MethodId) (args : Array Value) (below : List Frame) (meth : Method) (c : Code) (H : Heap) (locs : List Loc) (ls : Array Slot) (d : xD) (k0 n0 : Nat),
    x_Cx M p s m args meth c d → x_R d h H → x_L d.1 ls M.2.2.1 L → k0 ≤ h.1.length → n0 ≤ h.2 → (∀ q ∈ locs, d.1 ≤ q.base) →
    W p l e (x_rm M (hf.1.length - k0) (hf.2 - n0)) s m args below meth c H locs (h.1.length - k0) (h.2 - n0) (MQ below (x_Q d r hf) args s (hf.1.length - k0) (hf.2 - n0) (fun q => d.1 ≤ q)) (F0 m pc ls (st.map (x_v d.1)))
def x_S (M : xM) (pc : Nat) (L : List (Option xV)) (st : List xV) (h : xH) (pc' : Nat) (L' : List (Option xV)) (st' : List xV) (h' : xH) : Prop := ∀ (r : Option xV) (hf : xH), x_B M pc' L' st' h' r hf → x_B M pc L st h r hf
def x_X (M : xM) (pc : Nat) (L : List (Option xV)) (st : List xV) (h : xH) (Q : Option xV → xH → Prop) : Prop := ∃ r hf, x_B M pc L st h r hf ∧ Q r hf
def x_M (M : xM) (as : List xV) (h : xH) (r : Option xV) (hf : xH) : Prop := (h.1.length ≤ hf.1.length ∧ h.2 ≤ hf.2) ∧ ∀ (l : Launch) (d : xD), Met l M.1 (x_wM M) (x_rm M (hf.1.length - h.1.length) (hf.2 - h.2)) (va_Pc (as.map (x_v d.1)) (fun U => x_R d h U.heap ∧ x_K d U)) (x_Q d r hf) (hf.1.length - h.1.length) (hf.2 - h.2) (fun q => d.1 ≤ q)
theorem xx {M : xM} {pc : Nat} {L : List (Option xV)} {st : List xV} {h : xH} {pc' : Nat} {L' : List (Option xV)} {st' : List xV} {h' : xH} {Q : Option xV → xH → Prop} (hs : x_S M pc L st h pc' L' st' h') (hx : x_X M pc' L' st' h' Q) : x_X M pc L st h Q := by
  obtain ⟨r, hf, hb, hq⟩ := hx
  exact ⟨r, hf, hs r hf hb, hq⟩

section XS
variable {M : xM} {pc : Nat} {L : List (Option xV)} {st : List xV} {h : xH}
theorem xs_iconst {n : Int} (hd : decode M.2.1 pc = .ok (.iconst n, 1)) : x_S M pc L st h (pc + 1) L (.inl n :: st) h := by
  intro r hf hb
  obtain ⟨hle, hw⟩ := hb
  refine ⟨hle, fun p l e s m args below meth c H locs ls d k0 n0 hC hR hL h1 h2 hq => ?_⟩
  exact lv_iconst hC.1 hC.2.1 hd rfl (hw p l e s m args below meth c H locs ls d k0 n0 hC hR hL h1 h2 hq)
theorem xs_bipush {n : Int} (hd : decode M.2.1 pc = .ok (.bipush n, 2)) (hn : -128 ≤ n ∧ n < 128) : x_S M pc L st h (pc + 2) L (.inl n :: st) h := by
  intro r hf hb
  obtain ⟨hle, hw⟩ := hb
  refine ⟨hle, fun p l e s m args below meth c H locs ls d k0 n0 hC hR hL h1 h2 hq => ?_⟩
  have hv : (Int8.ofInt n).toInt32 = Int32.ofInt n := Int32.toInt_inj.mp (by rw [Int8.toInt_toInt32, Int8.toInt_ofInt_of_le (by omega) (by omega), Int32.toInt_ofInt_of_le (by omega) (by omega)])
  exact lv_bipush hC.1 hC.2.1 hd hv (hw p l e s m args below meth c H locs ls d k0 n0 hC hR hL h1 h2 hq)
theorem xs_sipush {n : Int} (hd : decode M.2.1 pc = .ok (.sipush n, 3)) (hn : -32768 ≤ n ∧ n < 32768) : x_S M pc L st h (pc + 3) L (.inl n :: st) h := by
  intro r hf hb
  obtain ⟨hle, hw⟩ := hb
  refine ⟨hle, fun p l e s m args below meth c H locs ls d k0 n0 hC hR hL h1 h2 hq => ?_⟩
  have hv : (Int16.ofInt n).toInt32 = Int32.ofInt n := Int32.toInt_inj.mp (by rw [Int16.toInt_toInt32, Int16.toInt_ofInt_of_le (by omega) (by omega), Int32.toInt_ofInt_of_le (by omega) (by omega)])
  exact lv_sipush hC.1 hC.2.1 hd hv (hw p l e s m args below meth c H locs ls d k0 n0 hC hR hL h1 h2 hq)
theorem xs_null (hd : decode M.2.1 pc = .ok (.aconst_null, 1)) : x_S M pc L st h (pc + 1) L (.inr none :: st) h := by
  intro r hf hb
  obtain ⟨hle, hw⟩ := hb
  refine ⟨hle, fun p l e s m args below meth c H locs ls d k0 n0 hC hR hL h1 h2 hq => ?_⟩
  exact lv_null hC.1 hC.2.1 hd (hw p l e s m args below meth c H locs ls d k0 n0 hC hR hL h1 h2 hq)
theorem xs_iload_n {k : Fin 4} {x : Int} (hd : decode M.2.1 pc = .ok (.iload_n k, 1)) (hl : L[(k : Nat)]? = some (some (.inl x))) : x_S M pc L st h (pc + 1) L (.inl x :: st) h := by
  intro r hf hb
  obtain ⟨hle, hw⟩ := hb
  refine ⟨hle, fun p l e s m args below meth c H locs ls d k0 n0 hC hR hL h1 h2 hq => ?_⟩
  exact lv_iload_n hC.1 hC.2.1 hd rfl (x_L_get hL hl) (hw p l e s m args below meth c H locs ls d k0 n0 hC hR hL h1 h2 hq)
theorem xs_iload {k : Nat} {x : Int} (hd : decode M.2.1 pc = .ok (.iload k, 2)) (hl : L[k]? = some (some (.inl x))) : x_S M pc L st h (pc + 2) L (.inl x :: st) h := by
  intro r hf hb
  obtain ⟨hle, hw⟩ := hb
  refine ⟨hle, fun p l e s m args below meth c H locs ls d k0 n0 hC hR hL h1 h2 hq => ?_⟩
  exact lv_iload hC.1 hC.2.1 hd (x_L_get hL hl) (hw p l e s m args below meth c H locs ls d k0 n0 hC hR hL h1 h2 hq)
theorem xs_aload_n {k : Fin 4} {x : Option Nat} (hd : decode M.2.1 pc = .ok (.aload_n k, 1)) (hl : L[(k : Nat)]? = some (some (.inr x))) : x_S M pc L st h (pc + 1) L (.inr x :: st) h := by
  intro r hf hb
  obtain ⟨hle, hw⟩ := hb
  refine ⟨hle, fun p l e s m args below meth c H locs ls d k0 n0 hC hR hL h1 h2 hq => ?_⟩
  cases x with
  | none => exact lv_aload_nN hC.1 hC.2.1 hd rfl (x_L_get hL hl) (hw p l e s m args below meth c H locs ls d k0 n0 hC hR hL h1 h2 hq)
  | some x => exact lv_aload_n hC.1 hC.2.1 hd rfl (x_L_get hL hl) (hw p l e s m args below meth c H locs ls d k0 n0 hC hR hL h1 h2 hq)
theorem xs_aload {k : Nat} {x : Option Nat} (hd : decode M.2.1 pc = .ok (.aload k, 2)) (hl : L[k]? = some (some (.inr x))) : x_S M pc L st h (pc + 2) L (.inr x :: st) h := by
  intro r hf hb
  obtain ⟨hle, hw⟩ := hb
  refine ⟨hle, fun p l e s m args below meth c H locs ls d k0 n0 hC hR hL h1 h2 hq => ?_⟩
  cases x with
  | none => exact lv_aloadN hC.1 hC.2.1 hd (x_L_get hL hl) (hw p l e s m args below meth c H locs ls d k0 n0 hC hR hL h1 h2 hq)
  | some x => exact lv_aload hC.1 hC.2.1 hd (x_L_get hL hl) (hw p l e s m args below meth c H locs ls d k0 n0 hC hR hL h1 h2 hq)
theorem xs_istore_n {k : Fin 4} {x : Int} (hd : decode M.2.1 pc = .ok (.istore_n k, 1)) (hn : (k : Nat) < M.2.2.1) : x_S M pc L (.inl x :: st) h (pc + 1) (L.set k (some (.inl x))) st h := by
  intro r hf hb
  obtain ⟨hle, hw⟩ := hb
  refine ⟨hle, fun p l e s m args below meth c H locs ls d k0 n0 hC hR hL h1 h2 hq => ?_⟩
  exact lv_istore_n hC.1 hC.2.1 hd rfl hL hn rfl (fun ls' hl' => hw p l e s m args below meth c H locs ls' d k0 n0 hC hR (x_L_set hl') h1 h2 hq)
theorem xs_istore {k : Nat} {x : Int} (hd : decode M.2.1 pc = .ok (.istore k, 2)) (hn : k < M.2.2.1) : x_S M pc L (.inl x :: st) h (pc + 2) (L.set k (some (.inl x))) st h := by
  intro r hf hb
  obtain ⟨hle, hw⟩ := hb
  refine ⟨hle, fun p l e s m args below meth c H locs ls d k0 n0 hC hR hL h1 h2 hq => ?_⟩
  exact lv_istore hC.1 hC.2.1 hd hL hn rfl (fun ls' hl' => hw p l e s m args below meth c H locs ls' d k0 n0 hC hR (x_L_set hl') h1 h2 hq)
theorem xs_astore_n {k : Fin 4} {x : Option Nat} (hd : decode M.2.1 pc = .ok (.astore_n k, 1)) (hn : (k : Nat) < M.2.2.1) : x_S M pc L (.inr x :: st) h (pc + 1) (L.set k (some (.inr x))) st h := by
  intro r hf hb
  obtain ⟨hle, hw⟩ := hb
  refine ⟨hle, fun p l e s m args below meth c H locs ls d k0 n0 hC hR hL h1 h2 hq => ?_⟩
  cases x with
  | none => exact lv_astore_nN hC.1 hC.2.1 hd rfl hL hn rfl (fun ls' hl' => hw p l e s m args below meth c H locs ls' d k0 n0 hC hR (x_L_set hl') h1 h2 hq)
  | some x => exact lv_astore_n hC.1 hC.2.1 hd rfl hL hn rfl (fun ls' hl' => hw p l e s m args below meth c H locs ls' d k0 n0 hC hR (x_L_set hl') h1 h2 hq)
theorem xs_astore {k : Nat} {x : Option Nat} (hd : decode M.2.1 pc = .ok (.astore k, 2)) (hn : k < M.2.2.1) : x_S M pc L (.inr x :: st) h (pc + 2) (L.set k (some (.inr x))) st h := by
  intro r hf hb
  obtain ⟨hle, hw⟩ := hb
  refine ⟨hle, fun p l e s m args below meth c H locs ls d k0 n0 hC hR hL h1 h2 hq => ?_⟩
  cases x with
  | none => exact lv_astoreN hC.1 hC.2.1 hd hL hn rfl (fun ls' hl' => hw p l e s m args below meth c H locs ls' d k0 n0 hC hR (x_L_set hl') h1 h2 hq)
  | some x => exact lv_astore hC.1 hC.2.1 hd hL hn rfl (fun ls' hl' => hw p l e s m args below meth c H locs ls' d k0 n0 hC hR (x_L_set hl') h1 h2 hq)
theorem xs_iinc {k : Nat} {x n : Int} (hd : decode M.2.1 pc = .ok (.iinc k n, 3)) (hl : L[k]? = some (some (.inl x))) (hn : k < M.2.2.1) : x_S M pc L st h (pc + 3) (L.set k (some (.inl (x + n)))) st h := by
  intro r hf hb
  obtain ⟨hle, hw⟩ := hb
  refine ⟨hle, fun p l e s m args below meth c H locs ls d k0 n0 hC hR hL h1 h2 hq => ?_⟩
  obtain ⟨i, hi⟩ := List.getElem?_of_mem (x_ll_mem (b := d.1) (q := (k, x_v d.1 (.inl x))).mpr ⟨_, hl, rfl⟩)
  exact lv_iinc hC.1 hC.2.1 hd hL hi (Int32.ofInt_add x n).symm hn rfl (fun ls' hl' => hw p l e s m args below meth c H locs ls' d k0 n0 hC hR (x_L_set hl') h1 h2 hq)
theorem xs_iadd {x y : Int} (hd : decode M.2.1 pc = .ok (.iadd, 1)) : x_S M pc L (.inl y :: .inl x :: st) h (pc + 1) L (.inl (x + y) :: st) h := by
  intro r hf hb
  obtain ⟨hle, hw⟩ := hb
  refine ⟨hle, fun p l e s m args below meth c H locs ls d k0 n0 hC hR hL h1 h2 hq => ?_⟩
  refine lv_iadd hC.1 hC.2.1 hd ?_
  rw [← Int32.ofInt_add]
  exact hw p l e s m args below meth c H locs ls d k0 n0 hC hR hL h1 h2 hq
theorem xs_isub {x y : Int} (hd : decode M.2.1 pc = .ok (.isub, 1)) : x_S M pc L (.inl y :: .inl x :: st) h (pc + 1) L (.inl (x - y) :: st) h := by
  intro r hf hb
  obtain ⟨hle, hw⟩ := hb
  refine ⟨hle, fun p l e s m args below meth c H locs ls d k0 n0 hC hR hL h1 h2 hq => ?_⟩
  refine lv_isub hC.1 hC.2.1 hd ?_
  rw [← Int32.ofInt_sub]
  exact hw p l e s m args below meth c H locs ls d k0 n0 hC hR hL h1 h2 hq
theorem xs_imul {x y : Int} (hd : decode M.2.1 pc = .ok (.imul, 1)) : x_S M pc L (.inl y :: .inl x :: st) h (pc + 1) L (.inl (x * y) :: st) h := by
  intro r hf hb
  obtain ⟨hle, hw⟩ := hb
  refine ⟨hle, fun p l e s m args below meth c H locs ls d k0 n0 hC hR hL h1 h2 hq => ?_⟩
  refine lv_imul hC.1 hC.2.1 hd ?_
  rw [← Int32.ofInt_mul]
  exact hw p l e s m args below meth c H locs ls d k0 n0 hC hR hL h1 h2 hq
theorem xs_dup {v : xV} (hd : decode M.2.1 pc = .ok (.dup, 1)) : x_S M pc L (v :: st) h (pc + 1) L (v :: v :: st) h := by
  intro r hf hb
  obtain ⟨hle, hw⟩ := hb
  refine ⟨hle, fun p l e s m args below meth c H locs ls d k0 n0 hC hR hL h1 h2 hq => ?_⟩
  exact lv_dup hC.1 hC.2.1 hd (x_cat _ _) (hw p l e s m args below meth c H locs ls d k0 n0 hC hR hL h1 h2 hq)
theorem xs_pop {v : xV} (hd : decode M.2.1 pc = .ok (.pop, 1)) : x_S M pc L (v :: st) h (pc + 1) L st h := by
  intro r hf hb
  obtain ⟨hle, hw⟩ := hb
  refine ⟨hle, fun p l e s m args below meth c H locs ls d k0 n0 hC hR hL h1 h2 hq => ?_⟩
  exact lv_pop hC.1 hC.2.1 hd (x_cat _ _) (hw p l e s m args below meth c H locs ls d k0 n0 hC hR hL h1 h2 hq)
theorem xs_dup_x1 {v u : xV} (hd : decode M.2.1 pc = .ok (.dup_x1, 1)) : x_S M pc L (v :: u :: st) h (pc + 1) L (v :: u :: v :: st) h := by
  intro r hf hb
  obtain ⟨hle, hw⟩ := hb
  refine ⟨hle, fun p l e s m args below meth c H locs ls d k0 n0 hC hR hL h1 h2 hq => ?_⟩
  exact lv_dup_x1 hC.1 hC.2.1 hd (x_cat _ _) (x_cat _ _) (hw p l e s m args below meth c H locs ls d k0 n0 hC hR hL h1 h2 hq)
theorem xs_dup_x2 {v u t : xV} (hd : decode M.2.1 pc = .ok (.dup_x2, 1)) : x_S M pc L (v :: u :: t :: st) h (pc + 1) L (v :: u :: t :: v :: st) h := by
  intro r hf hb
  obtain ⟨hle, hw⟩ := hb
  refine ⟨hle, fun p l e s m args below meth c H locs ls d k0 n0 hC hR hL h1 h2 hq => ?_⟩
  exact lv_dup_x2 hC.1 hC.2.1 hd (x_cat _ _) (x_cat _ _) (x_cat _ _) (hw p l e s m args below meth c H locs ls d k0 n0 hC hR hL h1 h2 hq)
theorem xs_dup2 {v u : xV} (hd : decode M.2.1 pc = .ok (.dup2, 1)) : x_S M pc L (v :: u :: st) h (pc + 1) L (v :: u :: v :: u :: st) h := by
  intro r hf hb
  obtain ⟨hle, hw⟩ := hb
  refine ⟨hle, fun p l e s m args below meth c H locs ls d k0 n0 hC hR hL h1 h2 hq => ?_⟩
  exact lv_dup2_11 hC.1 hC.2.1 hd (x_cat _ _) (x_cat _ _) (hw p l e s m args below meth c H locs ls d k0 n0 hC hR hL h1 h2 hq)
theorem xs_goto {off : Int} {tgt : Nat} (hd : decode M.2.1 pc = .ok (.goto off, 3)) (ht : (pc : Int) + off = (tgt : Int)) : x_S M pc L st h tgt L st h := by
  intro r hf hb
  obtain ⟨hle, hw⟩ := hb
  refine ⟨hle, fun p l e s m args below meth c H locs ls d k0 n0 hC hR hL h1 h2 hq => ?_⟩
  exact lv_goto hC.1 hC.2.1 hd ht (hw p l e s m args below meth c H locs ls d k0 n0 hC hR hL h1 h2 hq)
theorem xs_norm {x : Int} : x_S M pc L (.inl x :: st) h pc L (.inl (wr x) :: st) h := by
  intro r hf hb
  obtain ⟨hle, hw⟩ := hb
  refine ⟨hle, fun p l e s m args below meth c H locs ls d k0 n0 hC hR hL h1 h2 hq => ?_⟩
  have k := hw p l e s m args below meth c H locs ls d k0 n0 hC hR hL h1 h2 hq
  simp only [List.map_cons, x_v, x_wr] at k ⊢
  exact k
theorem xs_icmp_eq_t {x y : Int} {off : Int} {tgt : Nat} (hd : decode M.2.1 pc = .ok (.if_icmp .eq off, 3)) (ht : (pc : Int) + off = (tgt : Int)) (hx : ir x) (hy : ir y) (hc : x = y) : x_S M pc L (.inl y :: .inl x :: st) h tgt L st h := by
  intro r hf hb
  obtain ⟨hle, hw⟩ := hb
  refine ⟨hle, fun p l e s m args below meth c H locs ls d k0 n0 hC hR hL h1 h2 hq => ?_⟩
  exact lv_icmp_eq hC.1 hC.2.1 hd ht (fun _ => hw p l e s m args below meth c H locs ls d k0 n0 hC hR hL h1 h2 hq) (fun q => absurd ((x_eq hx hy).mpr hc) q)
theorem xs_icmp_eq_f {x y : Int} {off : Int} {tgt : Nat} (hd : decode M.2.1 pc = .ok (.if_icmp .eq off, 3)) (ht : (pc : Int) + off = (tgt : Int)) (hx : ir x) (hy : ir y) (hc : ¬ x = y) : x_S M pc L (.inl y :: .inl x :: st) h (pc + 3) L st h := by
  intro r hf hb
  obtain ⟨hle, hw⟩ := hb
  refine ⟨hle, fun p l e s m args below meth c H locs ls d k0 n0 hC hR hL h1 h2 hq => ?_⟩
  exact lv_icmp_eq hC.1 hC.2.1 hd ht (fun q => absurd ((x_eq hx hy).mp q) hc) (fun _ => hw p l e s m args below meth c H locs ls d k0 n0 hC hR hL h1 h2 hq)
theorem xx_icmp_eq {x y : Int} {off : Int} {tgt : Nat} (hd : decode M.2.1 pc = .ok (.if_icmp .eq off, 3)) (ht : (pc : Int) + off = (tgt : Int)) (hx : ir x) (hy : ir y) {Q : Option xV → xH → Prop} (kt : x = y → x_X M tgt L st h Q) (kf : ¬ x = y → x_X M (pc + 3) L st h Q) : x_X M pc L (.inl y :: .inl x :: st) h Q := by
  by_cases hc : x = y
  · exact xx (xs_icmp_eq_t hd ht hx hy hc) (kt hc)
  · exact xx (xs_icmp_eq_f hd ht hx hy hc) (kf hc)
theorem xs_if_eq_t {x : Int} {off : Int} {tgt : Nat} (hd : decode M.2.1 pc = .ok (.ifCond .eq off, 3)) (ht : (pc : Int) + off = (tgt : Int)) (hx : ir x) (hc : x = 0) : x_S M pc L (.inl x :: st) h tgt L st h := by
  intro r hf hb
  obtain ⟨hle, hw⟩ := hb
  refine ⟨hle, fun p l e s m args below meth c H locs ls d k0 n0 hC hR hL h1 h2 hq => ?_⟩
  exact lv_if_eq hC.1 hC.2.1 hd ht (fun _ => hw p l e s m args below meth c H locs ls d k0 n0 hC hR hL h1 h2 hq) (fun q => absurd ((x_eq0 hx).mpr hc) q)
theorem xs_if_eq_f {x : Int} {off : Int} {tgt : Nat} (hd : decode M.2.1 pc = .ok (.ifCond .eq off, 3)) (ht : (pc : Int) + off = (tgt : Int)) (hx : ir x) (hc : ¬ x = 0) : x_S M pc L (.inl x :: st) h (pc + 3) L st h := by
  intro r hf hb
  obtain ⟨hle, hw⟩ := hb
  refine ⟨hle, fun p l e s m args below meth c H locs ls d k0 n0 hC hR hL h1 h2 hq => ?_⟩
  exact lv_if_eq hC.1 hC.2.1 hd ht (fun q => absurd ((x_eq0 hx).mp q) hc) (fun _ => hw p l e s m args below meth c H locs ls d k0 n0 hC hR hL h1 h2 hq)
theorem xx_if_eq {x : Int} {off : Int} {tgt : Nat} (hd : decode M.2.1 pc = .ok (.ifCond .eq off, 3)) (ht : (pc : Int) + off = (tgt : Int)) (hx : ir x) {Q : Option xV → xH → Prop} (kt : x = 0 → x_X M tgt L st h Q) (kf : ¬ x = 0 → x_X M (pc + 3) L st h Q) : x_X M pc L (.inl x :: st) h Q := by
  by_cases hc : x = 0
  · exact xx (xs_if_eq_t hd ht hx hc) (kt hc)
  · exact xx (xs_if_eq_f hd ht hx hc) (kf hc)
theorem xs_icmp_ne_t {x y : Int} {off : Int} {tgt : Nat} (hd : decode M.2.1 pc = .ok (.if_icmp .ne off, 3)) (ht : (pc : Int) + off = (tgt : Int)) (hx : ir x) (hy : ir y) (hc : ¬ x = y) : x_S M pc L (.inl y :: .inl x :: st) h tgt L st h := by
  intro r hf hb
  obtain ⟨hle, hw⟩ := hb
  refine ⟨hle, fun p l e s m args below meth c H locs ls d k0 n0 hC hR hL h1 h2 hq => ?_⟩
  exact lv_icmp_ne hC.1 hC.2.1 hd ht (fun _ => hw p l e s m args below meth c H locs ls d k0 n0 hC hR hL h1 h2 hq) (fun q => absurd ((x_eq hx hy).mp q) hc)
theorem xs_icmp_ne_f {x y : Int} {off : Int} {tgt : Nat} (hd : decode M.2.1 pc = .ok (.if_icmp .ne off, 3)) (ht : (pc : Int) + off = (tgt : Int)) (hx : ir x) (hy : ir y) (hc : x = y) : x_S M pc L (.inl y :: .inl x :: st) h (pc + 3) L st h := by
  intro r hf hb
  obtain ⟨hle, hw⟩ := hb
  refine ⟨hle, fun p l e s m args below meth c H locs ls d k0 n0 hC hR hL h1 h2 hq => ?_⟩
  exact lv_icmp_ne hC.1 hC.2.1 hd ht (fun q => absurd ((x_eq hx hy).mpr hc) q) (fun _ => hw p l e s m args below meth c H locs ls d k0 n0 hC hR hL h1 h2 hq)
theorem xx_icmp_ne {x y : Int} {off : Int} {tgt : Nat} (hd : decode M.2.1 pc = .ok (.if_icmp .ne off, 3)) (ht : (pc : Int) + off = (tgt : Int)) (hx : ir x) (hy : ir y) {Q : Option xV → xH → Prop} (kt : ¬ x = y → x_X M tgt L st h Q) (kf : x = y → x_X M (pc + 3) L st h Q) : x_X M pc L (.inl y :: .inl x :: st) h Q := by
  by_cases hc : x = y
  · exact xx (xs_icmp_ne_f hd ht hx hy hc) (kf hc)
  · exact xx (xs_icmp_ne_t hd ht hx hy hc) (kt hc)
theorem xs_if_ne_t {x : Int} {off : Int} {tgt : Nat} (hd : decode M.2.1 pc = .ok (.ifCond .ne off, 3)) (ht : (pc : Int) + off = (tgt : Int)) (hx : ir x) (hc : ¬ x = 0) : x_S M pc L (.inl x :: st) h tgt L st h := by
  intro r hf hb
  obtain ⟨hle, hw⟩ := hb
  refine ⟨hle, fun p l e s m args below meth c H locs ls d k0 n0 hC hR hL h1 h2 hq => ?_⟩
  exact lv_if_ne hC.1 hC.2.1 hd ht (fun _ => hw p l e s m args below meth c H locs ls d k0 n0 hC hR hL h1 h2 hq) (fun q => absurd ((x_eq0 hx).mp q) hc)
theorem xs_if_ne_f {x : Int} {off : Int} {tgt : Nat} (hd : decode M.2.1 pc = .ok (.ifCond .ne off, 3)) (ht : (pc : Int) + off = (tgt : Int)) (hx : ir x) (hc : x = 0) : x_S M pc L (.inl x :: st) h (pc + 3) L st h := by
  intro r hf hb
  obtain ⟨hle, hw⟩ := hb
  refine ⟨hle, fun p l e s m args below meth c H locs ls d k0 n0 hC hR hL h1 h2 hq => ?_⟩
  exact lv_if_ne hC.1 hC.2.1 hd ht (fun q => absurd ((x_eq0 hx).mpr hc) q) (fun _ => hw p l e s m args below meth c H locs ls d k0 n0 hC hR hL h1 h2 hq)
theorem xx_if_ne {x : Int} {off : Int} {tgt : Nat} (hd : decode M.2.1 pc = .ok (.ifCond .ne off, 3)) (ht : (pc : Int) + off = (tgt : Int)) (hx : ir x) {Q : Option xV → xH → Prop} (kt : ¬ x = 0 → x_X M tgt L st h Q) (kf : x = 0 → x_X M (pc + 3) L st h Q) : x_X M pc L (.inl x :: st) h Q := by
  by_cases hc : x = 0
  · exact xx (xs_if_ne_f hd ht hx hc) (kf hc)
  · exact xx (xs_if_ne_t hd ht hx hc) (kt hc)
theorem xs_icmp_lt_t {x y : Int} {off : Int} {tgt : Nat} (hd : decode M.2.1 pc = .ok (.if_icmp .lt off, 3)) (ht : (pc : Int) + off = (tgt : Int)) (hx : ir x) (hy : ir y) (hc : x < y) : x_S M pc L (.inl y :: .inl x :: st) h tgt L st h := by
  intro r hf hb
  obtain ⟨hle, hw⟩ := hb
  refine ⟨hle, fun p l e s m args below meth c H locs ls d k0 n0 hC hR hL h1 h2 hq => ?_⟩
  exact lv_icmp_lt hC.1 hC.2.1 hd ht (fun _ => hw p l e s m args below meth c H locs ls d k0 n0 hC hR hL h1 h2 hq) (fun q => absurd ((x_lt hx hy).mpr hc) q)
theorem xs_icmp_lt_f {x y : Int} {off : Int} {tgt : Nat} (hd : decode M.2.1 pc = .ok (.if_icmp .lt off, 3)) (ht : (pc : Int) + off = (tgt : Int)) (hx : ir x) (hy : ir y) (hc : ¬ x < y) : x_S M pc L (.inl y :: .inl x :: st) h (pc + 3) L st h := by
  intro r hf hb
  obtain ⟨hle, hw⟩ := hb
  refine ⟨hle, fun p l e s m args below meth c H locs ls d k0 n0 hC hR hL h1 h2 hq => ?_⟩
  exact lv_icmp_lt hC.1 hC.2.1 hd ht (fun q => absurd ((x_lt hx hy).mp q) hc) (fun _ => hw p l e s m args below meth c H locs ls d k0 n0 hC hR hL h1 h2 hq)
theorem xx_icmp_lt {x y : Int} {off : Int} {tgt : Nat} (hd : decode M.2.1 pc = .ok (.if_icmp .lt off, 3)) (ht : (pc : Int) + off = (tgt : Int)) (hx : ir x) (hy : ir y) {Q : Option xV → xH → Prop} (kt : x < y → x_X M tgt L st h Q) (kf : ¬ x < y → x_X M (pc + 3) L st h Q) : x_X M pc L (.inl y :: .inl x :: st) h Q := by
  by_cases hc : x < y
  · exact xx (xs_icmp_lt_t hd ht hx hy hc) (kt hc)
  · exact xx (xs_icmp_lt_f hd ht hx hy hc) (kf hc)
theorem xs_if_lt_t {x : Int} {off : Int} {tgt : Nat} (hd : decode M.2.1 pc = .ok (.ifCond .lt off, 3)) (ht : (pc : Int) + off = (tgt : Int)) (hx : ir x) (hc : x < 0) : x_S M pc L (.inl x :: st) h tgt L st h := by
  intro r hf hb
  obtain ⟨hle, hw⟩ := hb
  refine ⟨hle, fun p l e s m args below meth c H locs ls d k0 n0 hC hR hL h1 h2 hq => ?_⟩
  exact lv_if_lt hC.1 hC.2.1 hd ht (fun _ => hw p l e s m args below meth c H locs ls d k0 n0 hC hR hL h1 h2 hq) (fun q => absurd ((x_lt0 hx).mpr hc) q)
theorem xs_if_lt_f {x : Int} {off : Int} {tgt : Nat} (hd : decode M.2.1 pc = .ok (.ifCond .lt off, 3)) (ht : (pc : Int) + off = (tgt : Int)) (hx : ir x) (hc : ¬ x < 0) : x_S M pc L (.inl x :: st) h (pc + 3) L st h := by
  intro r hf hb
  obtain ⟨hle, hw⟩ := hb
  refine ⟨hle, fun p l e s m args below meth c H locs ls d k0 n0 hC hR hL h1 h2 hq => ?_⟩
  exact lv_if_lt hC.1 hC.2.1 hd ht (fun q => absurd ((x_lt0 hx).mp q) hc) (fun _ => hw p l e s m args below meth c H locs ls d k0 n0 hC hR hL h1 h2 hq)
theorem xx_if_lt {x : Int} {off : Int} {tgt : Nat} (hd : decode M.2.1 pc = .ok (.ifCond .lt off, 3)) (ht : (pc : Int) + off = (tgt : Int)) (hx : ir x) {Q : Option xV → xH → Prop} (kt : x < 0 → x_X M tgt L st h Q) (kf : ¬ x < 0 → x_X M (pc + 3) L st h Q) : x_X M pc L (.inl x :: st) h Q := by
  by_cases hc : x < 0
  · exact xx (xs_if_lt_t hd ht hx hc) (kt hc)
  · exact xx (xs_if_lt_f hd ht hx hc) (kf hc)
theorem xs_icmp_ge_t {x y : Int} {off : Int} {tgt : Nat} (hd : decode M.2.1 pc = .ok (.if_icmp .ge off, 3)) (ht : (pc : Int) + off = (tgt : Int)) (hx : ir x) (hy : ir y) (hc : y ≤ x) : x_S M pc L (.inl y :: .inl x :: st) h tgt L st h := by
  intro r hf hb
  obtain ⟨hle, hw⟩ := hb
  refine ⟨hle, fun p l e s m args below meth c H locs ls d k0 n0 hC hR hL h1 h2 hq => ?_⟩
  exact lv_icmp_ge hC.1 hC.2.1 hd ht (fun _ => hw p l e s m args below meth c H locs ls d k0 n0 hC hR hL h1 h2 hq) (fun q => absurd ((x_le hy hx).mpr hc) q)
theorem xs_icmp_ge_f {x y : Int} {off : Int} {tgt : Nat} (hd : decode M.2.1 pc = .ok (.if_icmp .ge off, 3)) (ht : (pc : Int) + off = (tgt : Int)) (hx : ir x) (hy : ir y) (hc : ¬ y ≤ x) : x_S M pc L (.inl y :: .inl x :: st) h (pc + 3) L st h := by
  intro r hf hb
  obtain ⟨hle, hw⟩ := hb
  refine ⟨hle, fun p l e s m args below meth c H locs ls d k0 n0 hC hR hL h1 h2 hq => ?_⟩
  exact lv_icmp_ge hC.1 hC.2.1 hd ht (fun q => absurd ((x_le hy hx).mp q) hc) (fun _ => hw p l e s m args below meth c H locs ls d k0 n0 hC hR hL h1 h2 hq)
theorem xx_icmp_ge {x y : Int} {off : Int} {tgt : Nat} (hd : decode M.2.1 pc = .ok (.if_icmp .ge off, 3)) (ht : (pc : Int) + off = (tgt : Int)) (hx : ir x) (hy : ir y) {Q : Option xV → xH → Prop} (kt : y ≤ x → x_X M tgt L st h Q) (kf : ¬ y ≤ x → x_X M (pc + 3) L st h Q) : x_X M pc L (.inl y :: .inl x :: st) h Q := by
  by_cases hc : y ≤ x
  · exact xx (xs_icmp_ge_t hd ht hx hy hc) (kt hc)
  · exact xx (xs_icmp_ge_f hd ht hx hy hc) (kf hc)
theorem xs_if_ge_t {x : Int} {off : Int} {tgt : Nat} (hd : decode M.2.1 pc = .ok (.ifCond .ge off, 3)) (ht : (pc : Int) + off = (tgt : Int)) (hx : ir x) (hc : 0 ≤ x) : x_S M pc L (.inl x :: st) h tgt L st h := by
  intro r hf hb
  obtain ⟨hle, hw⟩ := hb
  refine ⟨hle, fun p l e s m args below meth c H locs ls d k0 n0 hC hR hL h1 h2 hq => ?_⟩
  exact lv_if_ge hC.1 hC.2.1 hd ht (fun _ => hw p l e s m args below meth c H locs ls d k0 n0 hC hR hL h1 h2 hq) (fun q => absurd ((x_0le hx).mpr hc) q)
theorem xs_if_ge_f {x : Int} {off : Int} {tgt : Nat} (hd : decode M.2.1 pc = .ok (.ifCond .ge off, 3)) (ht : (pc : Int) + off = (tgt : Int)) (hx : ir x) (hc : ¬ 0 ≤ x) : x_S M pc L (.inl x :: st) h (pc + 3) L st h := by
  intro r hf hb
  obtain ⟨hle, hw⟩ := hb
  refine ⟨hle, fun p l e s m args below meth c H locs ls d k0 n0 hC hR hL h1 h2 hq => ?_⟩
  exact lv_if_ge hC.1 hC.2.1 hd ht (fun q => absurd ((x_0le hx).mp q) hc) (fun _ => hw p l e s m args below meth c H locs ls d k0 n0 hC hR hL h1 h2 hq)
theorem xx_if_ge {x : Int} {off : Int} {tgt : Nat} (hd : decode M.2.1 pc = .ok (.ifCond .ge off, 3)) (ht : (pc : Int) + off = (tgt : Int)) (hx : ir x) {Q : Option xV → xH → Prop} (kt : 0 ≤ x → x_X M tgt L st h Q) (kf : ¬ 0 ≤ x → x_X M (pc + 3) L st h Q) : x_X M pc L (.inl x :: st) h Q := by
  by_cases hc : 0 ≤ x
  · exact xx (xs_if_ge_t hd ht hx hc) (kt hc)
  · exact xx (xs_if_ge_f hd ht hx hc) (kf hc)
theorem xs_icmp_gt_t {x y : Int} {off : Int} {tgt : Nat} (hd : decode M.2.1 pc = .ok (.if_icmp .gt off, 3)) (ht : (pc : Int) + off = (tgt : Int)) (hx : ir x) (hy : ir y) (hc : y < x) : x_S M pc L (.inl y :: .inl x :: st) h tgt L st h := by
  intro r hf hb
  obtain ⟨hle, hw⟩ := hb
  refine ⟨hle, fun p l e s m args below meth c H locs ls d k0 n0 hC hR hL h1 h2 hq => ?_⟩
  exact lv_icmp_gt hC.1 hC.2.1 hd ht (fun _ => hw p l e s m args below meth c H locs ls d k0 n0 hC hR hL h1 h2 hq) (fun q => absurd ((x_lt hy hx).mpr hc) q)
theorem xs_icmp_gt_f {x y : Int} {off : Int} {tgt : Nat} (hd : decode M.2.1 pc = .ok (.if_icmp .gt off, 3)) (ht : (pc : Int) + off = (tgt : Int)) (hx : ir x) (hy : ir y) (hc : ¬ y < x) : x_S M pc L (.inl y :: .inl x :: st) h (pc + 3) L st h := by
  intro r hf hb
  obtain ⟨hle, hw⟩ := hb
  refine ⟨hle, fun p l e s m args below meth c H locs ls d k0 n0 hC hR hL h1 h2 hq => ?_⟩
  exact lv_icmp_gt hC.1 hC.2.1 hd ht (fun q => absurd ((x_lt hy hx).mp q) hc) (fun _ => hw p l e s m args below meth c H locs ls d k0 n0 hC hR hL h1 h2 hq)
theorem xx_icmp_gt {x y : Int} {off : Int} {tgt : Nat} (hd : decode M.2.1 pc = .ok (.if_icmp .gt off, 3)) (ht : (pc : Int) + off = (tgt : Int)) (hx : ir x) (hy : ir y) {Q : Option xV → xH → Prop} (kt : y < x → x_X M tgt L st h Q) (kf : ¬ y < x → x_X M (pc + 3) L st h Q) : x_X M pc L (.inl y :: .inl x :: st) h Q := by
  by_cases hc : y < x
  · exact xx (xs_icmp_gt_t hd ht hx hy hc) (kt hc)
  · exact xx (xs_icmp_gt_f hd ht hx hy hc) (kf hc)
theorem xs_if_gt_t {x : Int} {off : Int} {tgt : Nat} (hd : decode M.2.1 pc = .ok (.ifCond .gt off, 3)) (ht : (pc : Int) + off = (tgt : Int)) (hx : ir x) (hc : 0 < x) : x_S M pc L (.inl x :: st) h tgt L st h := by
  intro r hf hb
  obtain ⟨hle, hw⟩ := hb
  refine ⟨hle, fun p l e s m args below meth c H locs ls d k0 n0 hC hR hL h1 h2 hq => ?_⟩
  exact lv_if_gt hC.1 hC.2.1 hd ht (fun _ => hw p l e s m args below meth c H locs ls d k0 n0 hC hR hL h1 h2 hq) (fun q => absurd ((x_0lt hx).mpr hc) q)
theorem xs_if_gt_f {x : Int} {off : Int} {tgt : Nat} (hd : decode M.2.1 pc = .ok (.ifCond .gt off, 3)) (ht : (pc : Int) + off = (tgt : Int)) (hx : ir x) (hc : ¬ 0 < x) : x_S M pc L (.inl x :: st) h (pc + 3) L st h := by
  intro r hf hb
  obtain ⟨hle, hw⟩ := hb
  refine ⟨hle, fun p l e s m args below meth c H locs ls d k0 n0 hC hR hL h1 h2 hq => ?_⟩
  exact lv_if_gt hC.1 hC.2.1 hd ht (fun q => absurd ((x_0lt hx).mp q) hc) (fun _ => hw p l e s m args below meth c H locs ls d k0 n0 hC hR hL h1 h2 hq)
theorem xx_if_gt {x : Int} {off : Int} {tgt : Nat} (hd : decode M.2.1 pc = .ok (.ifCond .gt off, 3)) (ht : (pc : Int) + off = (tgt : Int)) (hx : ir x) {Q : Option xV → xH → Prop} (kt : 0 < x → x_X M tgt L st h Q) (kf : ¬ 0 < x → x_X M (pc + 3) L st h Q) : x_X M pc L (.inl x :: st) h Q := by
  by_cases hc : 0 < x
  · exact xx (xs_if_gt_t hd ht hx hc) (kt hc)
  · exact xx (xs_if_gt_f hd ht hx hc) (kf hc)
theorem xs_icmp_le_t {x y : Int} {off : Int} {tgt : Nat} (hd : decode M.2.1 pc = .ok (.if_icmp .le off, 3)) (ht : (pc : Int) + off = (tgt : Int)) (hx : ir x) (hy : ir y) (hc : x ≤ y) : x_S M pc L (.inl y :: .inl x :: st) h tgt L st h := by
  intro r hf hb
  obtain ⟨hle, hw⟩ := hb
  refine ⟨hle, fun p l e s m args below meth c H locs ls d k0 n0 hC hR hL h1 h2 hq => ?_⟩
  exact lv_icmp_le hC.1 hC.2.1 hd ht (fun _ => hw p l e s m args below meth c H locs ls d k0 n0 hC hR hL h1 h2 hq) (fun q => absurd ((x_le hx hy).mpr hc) q)
theorem xs_icmp_le_f {x y : Int} {off : Int} {tgt : Nat} (hd : decode M.2.1 pc = .ok (.if_icmp .le off, 3)) (ht : (pc : Int) + off = (tgt : Int)) (hx : ir x) (hy : ir y) (hc : ¬ x ≤ y) : x_S M pc L (.inl y :: .inl x :: st) h (pc + 3) L st h := by
  intro r hf hb
  obtain ⟨hle, hw⟩ := hb
  refine ⟨hle, fun p l e s m args below meth c H locs ls d k0 n0 hC hR hL h1 h2 hq => ?_⟩
  exact lv_icmp_le hC.1 hC.2.1 hd ht (fun q => absurd ((x_le hx hy).mp q) hc) (fun _ => hw p l e s m args below meth c H locs ls d k0 n0 hC hR hL h1 h2 hq)
theorem xx_icmp_le {x y : Int} {off : Int} {tgt : Nat} (hd : decode M.2.1 pc = .ok (.if_icmp .le off, 3)) (ht : (pc : Int) + off = (tgt : Int)) (hx : ir x) (hy : ir y) {Q : Option xV → xH → Prop} (kt : x ≤ y → x_X M tgt L st h Q) (kf : ¬ x ≤ y → x_X M (pc + 3) L st h Q) : x_X M pc L (.inl y :: .inl x :: st) h Q := by
  by_cases hc : x ≤ y
  · exact xx (xs_icmp_le_t hd ht hx hy hc) (kt hc)
  · exact xx (xs_icmp_le_f hd ht hx hy hc) (kf hc)
theorem xs_if_le_t {x : Int} {off : Int} {tgt : Nat} (hd : decode M.2.1 pc = .ok (.ifCond .le off, 3)) (ht : (pc : Int) + off = (tgt : Int)) (hx : ir x) (hc : x ≤ 0) : x_S M pc L (.inl x :: st) h tgt L st h := by
  intro r hf hb
  obtain ⟨hle, hw⟩ := hb
  refine ⟨hle, fun p l e s m args below meth c H locs ls d k0 n0 hC hR hL h1 h2 hq => ?_⟩
  exact lv_if_le hC.1 hC.2.1 hd ht (fun _ => hw p l e s m args below meth c H locs ls d k0 n0 hC hR hL h1 h2 hq) (fun q => absurd ((x_le0 hx).mpr hc) q)
theorem xs_if_le_f {x : Int} {off : Int} {tgt : Nat} (hd : decode M.2.1 pc = .ok (.ifCond .le off, 3)) (ht : (pc : Int) + off = (tgt : Int)) (hx : ir x) (hc : ¬ x ≤ 0) : x_S M pc L (.inl x :: st) h (pc + 3) L st h := by
  intro r hf hb
  obtain ⟨hle, hw⟩ := hb
  refine ⟨hle, fun p l e s m args below meth c H locs ls d k0 n0 hC hR hL h1 h2 hq => ?_⟩
  exact lv_if_le hC.1 hC.2.1 hd ht (fun q => absurd ((x_le0 hx).mp q) hc) (fun _ => hw p l e s m args below meth c H locs ls d k0 n0 hC hR hL h1 h2 hq)
theorem xx_if_le {x : Int} {off : Int} {tgt : Nat} (hd : decode M.2.1 pc = .ok (.ifCond .le off, 3)) (ht : (pc : Int) + off = (tgt : Int)) (hx : ir x) {Q : Option xV → xH → Prop} (kt : x ≤ 0 → x_X M tgt L st h Q) (kf : ¬ x ≤ 0 → x_X M (pc + 3) L st h Q) : x_X M pc L (.inl x :: st) h Q := by
  by_cases hc : x ≤ 0
  · exact xx (xs_if_le_t hd ht hx hc) (kt hc)
  · exact xx (xs_if_le_f hd ht hx hc) (kf hc)
theorem xs_ifnull_t {off : Int} {tgt : Nat} (hd : decode M.2.1 pc = .ok (.ifnull off, 3)) (ht : (pc : Int) + off = (tgt : Int)) : x_S M pc L (.inr none :: st) h tgt L st h := by
  intro r hf hb
  obtain ⟨hle, hw⟩ := hb
  refine ⟨hle, fun p l e s m args below meth c H locs ls d k0 n0 hC hR hL h1 h2 hq => ?_⟩
  exact lv_ifnullN hC.1 hC.2.1 hd ht (hw p l e s m args below meth c H locs ls d k0 n0 hC hR hL h1 h2 hq)
theorem xs_ifnull_f {off : Int} {a : Nat} (hd : decode M.2.1 pc = .ok (.ifnull off, 3)) : x_S M pc L (.inr (some a) :: st) h (pc + 3) L st h := by
  intro r hf hb
  obtain ⟨hle, hw⟩ := hb
  refine ⟨hle, fun p l e s m args below meth c H locs ls d k0 n0 hC hR hL h1 h2 hq => ?_⟩
  exact lv_ifnull hC.1 hC.2.1 hd (hw p l e s m args below meth c H locs ls d k0 n0 hC hR hL h1 h2 hq)
theorem xs_ifnonnull_t {a : Nat} {off : Int} {tgt : Nat} (hd : decode M.2.1 pc = .ok (.ifnonnull off, 3)) (ht : (pc : Int) + off = (tgt : Int)) : x_S M pc L (.inr (some a) :: st) h tgt L st h := by
  intro r hf hb
  obtain ⟨hle, hw⟩ := hb
  refine ⟨hle, fun p l e s m args below meth c H locs ls d k0 n0 hC hR hL h1 h2 hq => ?_⟩
  exact lv_ifnonnull hC.1 hC.2.1 hd ht (hw p l e s m args below meth c H locs ls d k0 n0 hC hR hL h1 h2 hq)
theorem xs_ifnonnull_f {off : Int} (hd : decode M.2.1 pc = .ok (.ifnonnull off, 3)) : x_S M pc L (.inr none :: st) h (pc + 3) L st h := by
  intro r hf hb
  obtain ⟨hle, hw⟩ := hb
  refine ⟨hle, fun p l e s m args below meth c H locs ls d k0 n0 hC hR hL h1 h2 hq => ?_⟩
  exact lv_ifnonnullN hC.1 hC.2.1 hd (hw p l e s m args below meth c H locs ls d k0 n0 hC hR hL h1 h2 hq)
theorem xs_tableIn {dflt lo hi : Int} {offs : Array Int} {len : Nat} {x : Int} {off : Int} {tgt : Nat} (hd : decode M.2.1 pc = .ok (.tableswitch dflt lo hi offs, len)) (hx : ir x) (hlo : lo ≤ x) (hhi : x ≤ hi) (ho : offs[(x - lo).toNat]? = some off) (ht : (pc : Int) + off = (tgt : Int)) : x_S M pc L (.inl x :: st) h tgt L st h := by
  intro r hf hb
  obtain ⟨hle, hw⟩ := hb
  refine ⟨hle, fun p l e s m args below meth c H locs ls d k0 n0 hC hR hL h1 h2 hq => ?_⟩
  have e0 : (Int32.ofInt x).toInt = x := by rw [wr_toInt, wr_id hx]
  exact lv_tableIn hC.1 hC.2.1 hd (by rw [e0]; omega) (by rw [e0]; omega) (by rw [e0]; exact ho) ht (hw p l e s m args below meth c H locs ls d k0 n0 hC hR hL h1 h2 hq)
theorem xs_tableOut {dflt lo hi : Int} {offs : Array Int} {len : Nat} {x : Int} {tgt : Nat} (hd : decode M.2.1 pc = .ok (.tableswitch dflt lo hi offs, len)) (hx : ir x) (ho : x < lo ∨ hi < x) (ht : (pc : Int) + dflt = (tgt : Int)) : x_S M pc L (.inl x :: st) h tgt L st h := by
  intro r hf hb
  obtain ⟨hle, hw⟩ := hb
  refine ⟨hle, fun p l e s m args below meth c H locs ls d k0 n0 hC hR hL h1 h2 hq => ?_⟩
  have e0 : (Int32.ofInt x).toInt = x := by rw [wr_toInt, wr_id hx]
  exact lv_tableOut hC.1 hC.2.1 hd (by rw [e0]; exact ho) ht (hw p l e s m args below meth c H locs ls d k0 n0 hC hR hL h1 h2 hq)
end XS
end
section
/-! cells -/
def x_fl (own : String) (idx ci k : Nat) : Prop := ∃ (C : String) (T : u_T) (N : Nat), cl_s[ci]? = some (C, T, N) ∧ k < N ∧ (∀ w ∈ u_ws C T N, w ∈ x_ws) ∧ (T k).1 = C ∧ (Cond.fieldLink own idx C (T k).2.1 (T k).2.2.1 ∈ x_ws ∨ ∃ host, Cond.fieldLinkNest own idx C (T k).2.1 (T k).2.2.1 host ∈ x_N)
def x_pl (own nm : String) (idx ci k : Nat) (ty : FieldType) : Prop := ∃ (C : String) (T : u_T) (N : Nat) (ty0 : Nat → FieldType), cl_s[ci]? = some (C, T, N) ∧ k < N ∧ (∀ w ∈ u_ws C T N, w ∈ x_ws) ∧ (T k).1 = C ∧ (∀ j, j < N → parseFieldDescriptor (T j).2.2.1 = some (ty0 j)) ∧ ty0 k = ty ∧ (∀ a, a < N → ∀ b, b < N → a ≠ b → (T a).2.1 ≠ (T b).2.1) ∧ Cond.fieldLink own idx C (T k).2.1 (T k).2.2.1 ∈ x_ws ∧ ((T k).2.2.2 = false ∨ ((T k).2.2.2 = true ∧ nm = "<init>" ∧ C = own))
def x_nl (own : String) (idx ci : Nat) (dv : List xV) : Prop := ∃ (C : String) (T : u_T) (N : Nat) (ty0 : Nat → FieldType), cl_s[ci]? = some (C, T, N) ∧ dv.length = N ∧ (∀ w ∈ u_ws C T N, w ∈ x_ws) ∧ (∀ j, j < N → parseFieldDescriptor (T j).2.2.1 = some (ty0 j)) ∧ (∀ b j, j < N → defaultValue (ty0 j) = vp_V (dv.map (x_v b)) j) ∧ Cond.classLink own idx C ∈ x_ws ∧ Cond.instantiable C N ∈ x_ws ∧ Cond.initialized C ∈ x_ws
def x_cn (t : Nat) : String := if t = 0 then "SequentMachine$Row" else "SequentMachine$Item"
def x_al (own : String) (idx t : Nat) : Prop := t < 2 ∧ Cond.classLink own idx (x_cn t) ∈ x_ws
theorem x_tt (d : xD) {t : Nat} (ht : t < 2) : (x_tys d)[t + 1]? = some (d.2.2 (t + 1), .object (x_cn t)) := by
  rcases (show t = 0 ∨ t = 1 by omega) with rfl | rfl <;> rfl
def x_ft (ty : FieldType) (v : xV) : Prop := ∀ b, narrow ty (x_v b v) = x_v b v ∧ fits ty (x_v b v) = true
theorem x_ft_i (x : Int) : x_ft .int (.inl x) := fun b => ⟨rfl, rfl⟩
theorem x_ft_z0 : x_ft .boolean (.inl 0) := fun b => ⟨by show narrow .boolean (.int (Int32.ofInt 0)) = .int (Int32.ofInt 0); decide +kernel, by show fits .boolean (.int (Int32.ofInt 0)) = true; decide +kernel⟩
theorem x_ft_z1 : x_ft .boolean (.inl 1) := fun b => ⟨by show narrow .boolean (.int (Int32.ofInt 1)) = .int (Int32.ofInt 1); decide +kernel, by show fits .boolean (.int (Int32.ofInt 1)) = true; decide +kernel⟩
theorem x_ft_o (n : String) (r : Option Nat) : x_ft (.object n) (.inr r) := fun b => by cases r <;> exact ⟨rfl, rfl⟩
theorem x_ft_a (t : FieldType) (r : Option Nat) : x_ft (.array t) (.inr r) := fun b => by cases r <;> exact ⟨rfl, rfl⟩
section XC
variable {M : xM} {pc : Nat} {L : List (Option xV)} {st : List xV} {h : xH}
theorem xs_getf {a ci k idx : Nat} {fs : List xV} {v : xV} (hd : decode M.2.1 pc = .ok (.getfield idx, 3)) (hfl : x_fl M.1.cls idx ci k) (ha : h.1[a]? = some (.inr (.inr (ci, fs)))) (hv : fs[k]? = some v) : x_S M pc L (.inr (some a) :: st) h (pc + 3) L (v :: st) h := by
  intro r hf hb
  obtain ⟨hle, hw⟩ := hb
  refine ⟨hle, fun p l e s m args below meth c H locs ls d k0 n0 hC hR hL h1 h2 hq => ?_⟩
  have hC' := hC
  obtain ⟨hx, hbt, hml, hown, hts, hret, hlk, hnm, hK⟩ := hC'
  obtain ⟨C, T, N, hc, hk, hin, hT, hl⟩ := hfl
  rcases hl with hl | ⟨host, hl⟩
  · exact va_get hx hbt hts (fun w hw' => List.mem_cons_of_mem _ (hin w hw')) hown hK.1 (hR.sing ha) 0 rfl hc k hk (hts _ (List.mem_cons_of_mem _ hl)) (fun x hx' => by rw [← hT]; exact hx') (v := x_v d.1 v) (by rw [List.getElem?_map, hv]; rfl) hd (hw p l e s m args below meth c H locs ls d k0 n0 hC hR hL h1 h2 hq)
  · exact va_getN hx hbt hts (fun w hw' => List.mem_cons_of_mem _ (hin w hw')) hown hK.1 (hR.sing ha) 0 rfl hc k hk (va_Nw.use rfl (hK.2.1 _ hl)) (fun x hx' => by rw [← hT]; exact hx') (v := x_v d.1 v) (by rw [List.getElem?_map, hv]; rfl) hd (hw p l e s m args below meth c H locs ls d k0 n0 hC hR hL h1 h2 hq)
theorem xs_putf {a ci k idx : Nat} {fs : List xV} {v : xV} {ty : FieldType} (hd : decode M.2.1 pc = .ok (.putfield idx, 3)) (hp : x_pl M.1.cls M.1.name idx ci k ty) (ha : h.1[a]? = some (.inr (.inr (ci, fs)))) (hkl : k < fs.length) (hfit : x_ft ty v) : x_S M pc L (v :: .inr (some a) :: st) h (pc + 3) L st (h.1.set a (.inr (.inr (ci, fs.set k v))), h.2) := by
  intro r hf hb
  obtain ⟨hle, hw⟩ := hb
  refine ⟨by simpa using hle, fun p l e s m args below meth c H locs ls d k0 n0 hC hR hL h1 h2 hq => ?_⟩
  have hC' := hC
  obtain ⟨hx, hbt, hml, hown, hts, hret, hlk, hnm, hK⟩ := hC'
  obtain ⟨C, T, N, ty0, hc, hk, hin, hT, hty, hte, hnn, hl, hfin⟩ := hp
  subst hte
  have hin' : ∀ w ∈ u_ws C T N, w ∈ x_wM M := fun w hw' => List.mem_cons_of_mem _ (hin w hw')
  have hap := va_apart (own := M.1.cls) hts hin' ty0 hty hnn hK.1 hc
  obtain ⟨r0, g1, cell, q1, q2, q3, q4⟩ := hR.2 a _ ha
  have hr : r0 = (C, T, N) := Option.some.inj (g1.symm.trans hc)
  subst hr
  obtain ⟨hS, hfc, kC, hkC, hkind⟩ := hK.1.1 ci _ hc
  obtain ⟨cf, kf, fi, f, hi, hsl⟩ := hS k hk
  have hst := (u_facts hfc hkC (u_lays hts hin' hk) hi).1
  have hlay := hts _ (hin' _ (u_in_lay hk))
  unfold u_lay at hlay
  have hla : a < h.1.length := (List.getElem?_eq_some_iff.mp ha).1
  have hkk : ∀ H' : Heap, H'[d.1 + a]? = some (cell.setSlot f.slot (x_v d.1 v)) → H'.size = H.size → (∀ q : Nat, q ≠ d.1 + a → H'[q]? = H[q]?) → W p l e (x_rm M (hf.1.length - k0) (hf.2 - n0)) s m args below meth c H' (locs ++ [⟨d.1 + a, f.slot⟩]) (h.1.length - k0) (h.2 - n0) (MQ below (x_Q d r hf) args s (hf.1.length - k0) (hf.2 - n0) (fun q => d.1 ≤ q)) (F0 m (pc + 3) ls (st.map (x_v d.1))) := by
    intro H' e1 e2 e3
    rw [hsl] at e1
    refine W.cs (by rw [List.length_set]) rfl (hw p l e s m args below meth c H' (locs ++ [⟨d.1 + a, f.slot⟩]) ls d k0 n0 hC (hR.set hla e2 e3 ?_) hL (by rw [List.length_set]; exact h1) h2 (t_lc hq (Nat.le_add_right _ _)))
    exact ⟨_, hc, t_OB.to (V := updV (vp_V (fs.map (x_v d.1))) k (x_v d.1 v)) ⟨_, e1, q2, q3, t_set q4 hap hk _⟩ (fun j _ => by rw [vp_updV_set (by rw [List.length_map]; exact hkl), ← List.map_set])⟩
  rcases hfin with hfin | ⟨hfin, hn, hCo⟩
  · rw [if_neg (by rw [hfin]; decide)] at hlay
    have h6 := u_store hfc hkC hkind hlay hi (hty k hk) (hfit d.1).1 (hfit d.1).2
    exact W.putK hx hbt (f := f) ⟨hown, hts _ (List.mem_cons_of_mem _ hl), ⟨_, _, _, by rw [← hT]; exact hi⟩, hst⟩ (by rw [q2]; exact h6) q1 q3 (by rw [hsl]; exact k2_hasslot (q4 k hk)) rfl rfl hd hkk
  · rw [if_pos hfin] at hlay
    have hcf : m.cls = cf := by
      obtain ⟨_, _, c', _, _, _, -, -, hf', -, -, -, hown2, -⟩ := Cond.laysFinal_spec hlay
      have e1 : c' = cf := by have := hi.symm.trans hf'; simp at this; exact this.1.symm
      rw [hT, hCo] at hown2
      rw [← e1]
      exact Option.some.inj (hown.symm.trans hown2)
    have h6 := u_fits hfc hkC hkind (Or.inr hlay) hi (hty k hk) (hfit d.1).1 (hfit d.1).2
    exact W.putFinK hx hbt hown (hts _ (List.mem_cons_of_mem _ hl)) (by rw [← hT]; exact hi) hst hcf (hnm.trans hn) (by rw [q2]; exact h6) q1 q3 (by rw [hsl]; exact k2_hasslot (q4 k hk)) rfl rfl hd hkk
theorem xs_new {ci idx : Nat} {dv : List xV} (hd : decode M.2.1 pc = .ok (.new idx, 3)) (hn : x_nl M.1.cls idx ci dv) : x_S M pc L st h (pc + 3) L (.inr (some h.1.length) :: st) (h.1 ++ [.inr (.inr (ci, dv))], h.2 + dv.length) := by
  intro r hf hb
  obtain ⟨hle, hw⟩ := hb
  simp only [List.length_append, List.length_cons, List.length_nil] at hle
  refine ⟨by omega, fun p l e s m args below meth c H locs ls d k0 n0 hC hR hL h1 h2 hq => ?_⟩
  have hC' := hC
  obtain ⟨hx, hbt, hml, hown, hts, hret, hlk, hnm, hK⟩ := hC'
  obtain ⟨C, T, N, ty0, hc, hN, hin, hty, hdv, hcl, hins, hini⟩ := hn
  have hin' : ∀ w ∈ u_ws C T N, w ∈ x_wM M := fun w hw' => List.mem_cons_of_mem _ (hin w hw')
  have hKn := hK.1.1 ci _ hc
  subst hN
  refine W.newcK hx hbt hown (hts _ (List.mem_cons_of_mem _ hcl)) (hts _ (List.mem_cons_of_mem _ hins)) (hts _ (List.mem_cons_of_mem _ hini)) rfl hd (by show _ ≤ hf.1.length - k0; omega) (by show _ ≤ hf.2 - n0; omega) hKn.2.1 rfl fun H1 kC hkC e1 z1 o1 => ?_
  have k := hw p l e s m args below meth c H1 locs ls d k0 n0 hC (hR.push z1 o1 ⟨_, hc, (u_born ty0 hts hin' hKn hkC e1 hty).to (fun j hj => hdv d.1 j hj)⟩) hL (by simp; omega) (by simp; omega) hq
  refine W.cs (cells' := (h.1 ++ ([Sum.inr (Sum.inr (ci, dv))] : List xC)).length - k0) (slots' := h.2 + dv.length - n0) (by simp; omega) (by omega) ?_
  rw [hR.1]
  exact k
theorem xs_newarr {idx : Nat} {n : Int} (hd : decode M.2.1 pc = .ok (.newarray .int, 2)) (hA : Cond.arrayClass .int ∈ x_ws) (h0 : 0 ≤ n) (hn1 : n ≤ 100000) : x_S M pc L (.inl n :: st) h (pc + 2) L (.inr (some h.1.length) :: st) (h.1 ++ [.inl (List.replicate n.toNat 0)], h.2 + n.toNat) := by
  intro r hf hb
  obtain ⟨hle, hw⟩ := hb
  simp only [List.length_append, List.length_cons, List.length_nil] at hle
  refine ⟨by omega, fun p l e s m args below meth c H locs ls d k0 n0 hC hR hL h1 h2 hq => ?_⟩
  have hC' := hC
  obtain ⟨hx, hbt, hml, hown, hts, hret, hlk, hnm, hK⟩ := hC'
  have hcl := x_cl h0 (by omega)
  refine va_newaK (atype := .int) (N := n.toNat) hx hbt (hts _ (List.mem_cons_of_mem _ hA)) rfl hd rfl (x_n0 h0 (by omega)) hcl (by show n.toNat * 4 ≤ _; omega) (by show _ ≤ hf.1.length - k0; omega) (by show _ ≤ hf.2 - n0; omega) rfl fun H1 cA e1 z1 o1 hAr hNm => ?_
  have hcA : cA = d.2.2 0 := Option.some.inj (hNm.symm.trans (hK.1.2 0 _ rfl).2)
  subst hcA
  have k := hw p l e s m args below meth c H1 locs ls d k0 n0 hC (hR.push (c' := .inl (List.replicate n.toNat 0)) z1 o1 (by
    show H1[H.size]? = some (vp_cell _ _)
    rw [e1, vp_cell_i, List.length_replicate]
    congr 2
    funext j
    rw [List.getD_eq_getElem?_getD, List.getElem?_replicate]
    split <;> rfl)) hL (by simp; omega) (by simp; omega) hq
  refine W.cs (cells' := (h.1 ++ ([Sum.inl (List.replicate n.toNat 0)] : List xC)).length - k0) (slots' := h.2 + n.toNat - n0) (by simp; omega) (by omega) ?_
  rw [hR.1]
  exact k
theorem xs_anew {idx t : Nat} {n : Int} (hd : decode M.2.1 pc = .ok (.anewarray idx, 3)) (hA : x_al M.1.cls idx t) (h0 : 0 ≤ n) (hn1 : n ≤ 100000) : x_S M pc L (.inl n :: st) h (pc + 3) L (.inr (some h.1.length) :: st) (h.1 ++ [.inr (.inl (t, List.replicate n.toNat none))], h.2 + n.toNat) := by
  intro r hf hb
  obtain ⟨hle, hw⟩ := hb
  simp only [List.length_append, List.length_cons, List.length_nil] at hle
  refine ⟨by omega, fun p l e s m args below meth c H locs ls d k0 n0 hC hR hL h1 h2 hq => ?_⟩
  have hC' := hC
  obtain ⟨hx, hbt, hml, hown, hts, hret, hlk, hnm, hK⟩ := hC'
  obtain ⟨ht, hcl⟩ := hA
  have hcn := x_cl h0 (by omega)
  have hov : va_AO (x_cn t) s := by
    rcases (show t = 0 ∨ t = 1 by omega) with rfl | rfl
    · exact hK.2.2.1
    · exact hK.2.2.2
  refine W.anew hx hbt hown (hts _ (List.mem_cons_of_mem _ hcl)) (va_AO.use hov) rfl hd rfl (x_n0 h0 (by omega)) (by rw [hcn]; omega) (by show _ ≤ hf.1.length - k0; omega) (by show _ ≤ hf.2 - n0; rw [hcn]; omega) fun cA kA comp f1 f2 f3 f4 => ?_
  obtain ⟨-, kA', comp', -, -, -, g4⟩ := hK.1.2 (t + 1) _ (x_tt d ht)
  have hcA : cA = d.2.2 (t + 1) := Option.some.inj (f1.symm.trans g4)
  subst hcA
  rw [hcn]
  generalize hH1 : H.push ({ cls := d.2.2 (t + 1), slots := Array.replicate n.toNat .null, vm := .none } : Cell) = H1
  have z1 : H1.size = H.size + 1 := by rw [← hH1, Array.size_push]
  have e1 : H1[H.size]? = some (arrV (d.2.2 (t + 1)) n.toNat (fun _ => .null)) := by rw [← hH1, Array.getElem?_push_size, ← arrV_new]
  have o1 : ∀ q : Nat, q < H.size → H1[q]? = H[q]? := fun q hq => by rw [← hH1, Array.getElem?_push, if_neg (Nat.ne_of_lt hq)]
  have k := hw p l e s m args below meth c H1 locs ls d k0 n0 hC (hR.push (c' := .inr (.inl (t, List.replicate n.toNat none))) z1 o1 (by
    show H1[H.size]? = some (vp_cell _ _)
    rw [e1, vp_cell_q, List.length_replicate]
    congr 2
    funext j
    rw [List.getD_eq_getElem?_getD, List.getElem?_replicate]
    split <;> rfl)) hL (by simp; omega) (by simp; omega) hq
  refine W.cs (cells' := (h.1 ++ ([Sum.inr (Sum.inl (t, List.replicate n.toNat none))] : List xC)).length - k0) (slots' := h.2 + n.toNat - n0) (by simp; omega) (by omega) ?_
  rw [hR.1]
  exact k
theorem xs_alenI {a : Nat} {q : List Int} (hd : decode M.2.1 pc = .ok (.arraylength, 1)) (ha : h.1[a]? = some (.inl q)) : x_S M pc L (.inr (some a) :: st) h (pc + 1) L (.inl (q.length : Int) :: st) h := by
  intro r hf hb
  obtain ⟨hle, hw⟩ := hb
  refine ⟨hle, fun p l e s m args below meth c H locs ls d k0 n0 hC hR hL h1 h2 hq => ?_⟩
  have hC' := hC
  obtain ⟨hx, hbt, hml, hown, hts, hret, hlk, hnm, hK⟩ := hC'
  exact va_alen hx hbt hK.1 (hR.sing ha) 0 0 rfl rfl (by rw [← Int32.ofInt_eq_ofNat]) hd (hw p l e s m args below meth c H locs ls d k0 n0 hC hR hL h1 h2 hq)
theorem xs_alenR {a t : Nat} {q : List (Option Nat)} (hd : decode M.2.1 pc = .ok (.arraylength, 1)) (ht : t < 2) (ha : h.1[a]? = some (.inr (.inl (t, q)))) : x_S M pc L (.inr (some a) :: st) h (pc + 1) L (.inl (q.length : Int) :: st) h := by
  intro r hf hb
  obtain ⟨hle, hw⟩ := hb
  refine ⟨hle, fun p l e s m args below meth c H locs ls d k0 n0 hC hR hL h1 h2 hq => ?_⟩
  have hC' := hC
  obtain ⟨hx, hbt, hml, hown, hts, hret, hlk, hnm, hK⟩ := hC'
  exact va_alen hx hbt hK.1 (hR.sing ha) 0 (t + 1) rfl (x_tt d ht) (by rw [← Int32.ofInt_eq_ofNat]) hd (hw p l e s m args below meth c H locs ls d k0 n0 hC hR hL h1 h2 hq)
theorem xs_iald {a : Nat} {q : List Int} {j x : Int} (hd : decode M.2.1 pc = .ok (.iaload, 1)) (ha : h.1[a]? = some (.inl q)) (h0 : 0 ≤ j) (hj : q[j.toNat]? = some x) (hql : q.length < 2147483648) : x_S M pc L (.inl j :: .inr (some a) :: st) h (pc + 1) L (.inl x :: st) h := by
  intro r hf hb
  obtain ⟨hle, hw⟩ := hb
  refine ⟨hle, fun p l e s m args below meth c H locs ls d k0 n0 hC hR hL h1 h2 hq => ?_⟩
  have hC' := hC
  obtain ⟨hx, hbt, hml, hown, hts, hret, hlk, hnm, hK⟩ := hC'
  have hlt : j.toNat < q.length := (List.getElem?_eq_some_iff.mp hj).1
  refine va_iald hx hbt hK.1 (hR.sing ha) 0 0 rfl rfl (x_in h0 hlt hql) hd ?_
  have e1 : Int32.ofInt (q.getD (Int32.ofInt j).toNatClampNeg 0) = Int32.ofInt x := by rw [x_cl h0 (by omega), List.getD_eq_getElem?_getD, hj]; rfl
  rw [e1]
  exact hw p l e s m args below meth c H locs ls d k0 n0 hC hR hL h1 h2 hq
theorem xs_iast {a : Nat} {q : List Int} {j x : Int} (hd : decode M.2.1 pc = .ok (.iastore, 1)) (ha : h.1[a]? = some (.inl q)) (h0 : 0 ≤ j) (hlt : j.toNat < q.length) (hql : q.length < 2147483648) : x_S M pc L (.inl x :: .inl j :: .inr (some a) :: st) h (pc + 1) L st (h.1.set a (.inl (q.set j.toNat x)), h.2) := by
  intro r hf hb
  obtain ⟨hle, hw⟩ := hb
  refine ⟨by simpa using hle, fun p l e s m args below meth c H locs ls d k0 n0 hC hR hL h1 h2 hq => ?_⟩
  have hC' := hC
  obtain ⟨hx, hbt, hml, hown, hts, hret, hlk, hnm, hK⟩ := hC'
  have hla : a < h.1.length := (List.getElem?_eq_some_iff.mp ha).1
  refine W.iast hx hbt (hR.2 a _ ha) ((hK.1.2 0 _ rfl).1 q.length (fun i => .int (Int32.ofInt (q.getD i 0)))) (fun z => by cases z) (by show ¬ (_ < 0 ∨ (arrV _ _ _).slots.size ≤ _); rw [arrV_size]; exact x_in h0 hlt hql) rfl rfl hd fun H1 e1 z1 o1 => ?_
  refine W.cs (by rw [List.length_set]) rfl (hw p l e s m args below meth c H1 (locs ++ [⟨d.1 + a, (Int32.ofInt j).toNatClampNeg⟩]) ls d k0 n0 hC (hR.set hla z1 o1 ?_) hL (by rw [List.length_set]; exact h1) h2 (t_lc hq (Nat.le_add_right _ _)))
  show H1[d.1 + a]? = some (vp_cell _ _)
  rw [e1]
  rw [vp_cell_i, vp_cell_i, arrV_store, List.length_set, x_cl h0 (by omega)]
  congr 2
  funext i
  by_cases hi : i = j.toNat
  · subst hi
    simp [updV, List.getD_eq_getElem?_getD, List.getElem?_set_self hlt]
  · simp [updV, hi, List.getD_eq_getElem?_getD, List.getElem?_set_ne (Ne.symm hi)]
theorem xs_aald {a t : Nat} {q : List (Option Nat)} {j : Int} {x : Option Nat} (hd : decode M.2.1 pc = .ok (.aaload, 1)) (ht : t < 2) (ha : h.1[a]? = some (.inr (.inl (t, q)))) (h0 : 0 ≤ j) (hj : q[j.toNat]? = some x) (hql : q.length < 2147483648) : x_S M pc L (.inl j :: .inr (some a) :: st) h (pc + 1) L (.inr x :: st) h := by
  intro r hf hb
  obtain ⟨hle, hw⟩ := hb
  refine ⟨hle, fun p l e s m args below meth c H locs ls d k0 n0 hC hR hL h1 h2 hq => ?_⟩
  have hC' := hC
  obtain ⟨hx, hbt, hml, hown, hts, hret, hlk, hnm, hK⟩ := hC'
  have hlt : j.toNat < q.length := (List.getElem?_eq_some_iff.mp hj).1
  refine va_aldq hx hbt hK.1 (hR.sing ha) 0 (t + 1) rfl (x_tt d ht) (x_in h0 hlt hql) hd ?_
  have e1 : x_r d.1 (q.getD (Int32.ofInt j).toNatClampNeg none) = x_r d.1 x := by rw [x_cl h0 (by omega), List.getD_eq_getElem?_getD, hj]; rfl
  rw [e1]
  exact hw p l e s m args below meth c H locs ls d k0 n0 hC hR hL h1 h2 hq
theorem xs_aastN {a t : Nat} {q : List (Option Nat)} {j : Int} (hd : decode M.2.1 pc = .ok (.aastore, 1)) (ht : t < 2) (ha : h.1[a]? = some (.inr (.inl (t, q)))) (h0 : 0 ≤ j) (hlt : j.toNat < q.length) (hql : q.length < 2147483648) : x_S M pc L (.inr none :: .inl j :: .inr (some a) :: st) h (pc + 1) L st (h.1.set a (.inr (.inl (t, q.set j.toNat none))), h.2) := by
  intro r hf hb
  obtain ⟨hle, hw⟩ := hb
  refine ⟨by simpa using hle, fun p l e s m args below meth c H locs ls d k0 n0 hC hR hL h1 h2 hq => ?_⟩
  have hC' := hC
  obtain ⟨hx, hbt, hml, hown, hts, hret, hlk, hnm, hK⟩ := hC'
  have hla : a < h.1.length := (List.getElem?_eq_some_iff.mp ha).1
  refine va_WaastN (C := x_cn t) hx hbt (hR.2 a _ ha) ((hK.1.2 (t + 1) _ (x_tt d ht)).1 q.length (fun i => va_rf (x_r d.1 (q.getD i none)))) (fun z => by cases z) (by show ¬ (_ < 0 ∨ (arrV _ _ _).slots.size ≤ _); rw [arrV_size]; exact x_in h0 hlt hql) rfl rfl hd fun H1 e1 z1 o1 => ?_
  refine W.cs (by rw [List.length_set]) rfl (hw p l e s m args below meth c H1 (locs ++ [⟨d.1 + a, (Int32.ofInt j).toNatClampNeg⟩]) ls d k0 n0 hC (hR.set hla z1 o1 ?_) hL (by rw [List.length_set]; exact h1) h2 (t_lc hq (Nat.le_add_right _ _)))
  show H1[d.1 + a]? = some (vp_cell _ _)
  rw [e1]
  rw [vp_cell_q, vp_cell_q, arrV_store, List.length_set, x_cl h0 (by omega)]
  congr 2
  funext i
  by_cases hi : i = j.toNat
  · subst hi
    simp [updV, List.getD_eq_getElem?_getD, List.getElem?_set_self hlt, va_rf, x_r]
  · simp [updV, hi, List.getD_eq_getElem?_getD, List.getElem?_set_ne (Ne.symm hi)]
theorem xs_aast {a t v ci : Nat} {q : List (Option Nat)} {fs : List xV} {j : Int} (hd : decode M.2.1 pc = .ok (.aastore, 1)) (ht : t < 2) (ha : h.1[a]? = some (.inr (.inl (t, q)))) (hv : h.1[v]? = some (.inr (.inr (ci, fs)))) (hci : (cl_s[ci]?).map (fun z => z.1) = some (x_cn t)) (h0 : 0 ≤ j) (hlt : j.toNat < q.length) (hql : q.length < 2147483648) : x_S M pc L (.inr (some v) :: .inl j :: .inr (some a) :: st) h (pc + 1) L st (h.1.set a (.inr (.inl (t, q.set j.toNat (some v)))), h.2) := by
  intro r hf hb
  obtain ⟨hle, hw⟩ := hb
  refine ⟨by simpa using hle, fun p l e s m args below meth c H locs ls d k0 n0 hC hR hL h1 h2 hq => ?_⟩
  have hC' := hC
  obtain ⟨hx, hbt, hml, hown, hts, hret, hlk, hnm, hK⟩ := hC'
  have hla : a < h.1.length := (List.getElem?_eq_some_iff.mp ha).1
  obtain ⟨r0, g0, cellV, g1, g2, g3, -⟩ := hR.2 v _ hv
  rw [g0] at hci
  have hcn : r0.1 = x_cn t := Option.some.inj hci
  have hcls := (hK.1.1 ci r0 g0).2
  obtain ⟨kA, comp, k1, k2, k3, -⟩ := (hK.1.2 (t + 1) _ (x_tt d ht)).2
  have hcomp : comp = d.2.1.1 ci := Option.some.inj (k3.symm.trans (by rw [← hcn]; exact hcls.1))
  subst hcomp
  obtain ⟨kC, hkC, -⟩ := hcls.2
  have hin := x_in h0 hlt hql
  refine W.aast hx hbt (hR.2 a _ ha) (fun z hz => by cases hz) (fun hz => by cases hz) k1 k2 rfl hkC ⟨fun z => hin (Or.inl z), by show _ < (arrV _ _ _).slots.size; rw [arrV_size, x_cl h0 (by omega)]; exact hlt⟩ g1 (fun z hz => by rw [g3] at hz; cases hz) (by rw [g2]; exact hkC) (by rw [g2]; exact va_assign hcls) rfl rfl hd fun H1 e1 z1 o1 => ?_
  refine W.cs (by rw [List.length_set]) rfl (hw p l e s m args below meth c H1 (locs ++ [⟨d.1 + a, (Int32.ofInt j).toNatClampNeg⟩]) ls d k0 n0 hC (hR.set hla z1 o1 ?_) hL (by rw [List.length_set]; exact h1) h2 (t_lc hq (Nat.le_add_right _ _)))
  show H1[d.1 + a]? = some (vp_cell _ _)
  rw [e1]
  rw [vp_cell_q, vp_cell_q, arrV_store, List.length_set, x_cl h0 (by omega)]
  congr 2
  funext i
  by_cases hi : i = j.toNat
  · subst hi
    simp [updV, List.getD_eq_getElem?_getD, List.getElem?_set_self hlt, va_rf, x_r]
  · simp [updV, hi, List.getD_eq_getElem?_getD, List.getElem?_set_ne (Ne.symm hi)]
/-! ends -/
theorem xb_i {x : Int} (hd : decode M.2.1 pc = .ok (.ireturn, 1)) (hr : M.2.2.2.1 = some .int) : x_B M pc L [.inl x] h (some (.inl x)) h := by
  refine ⟨⟨Nat.le_refl _, Nat.le_refl _⟩, fun p l e s m args below meth c H locs ls d k0 n0 hC hR hL h1 h2 hq => ?_⟩
  obtain ⟨hx, hbt, hml, hown, hts, hret, hlk, hnm, hK⟩ := hC
  exact W.iret hx hbt (hret.trans hr) (fun t ht _ => ⟨rfl, by rw [ht]; exact hR⟩) hq hd hlk
theorem xb_z {x : Int} (hd : decode M.2.1 pc = .ok (.ireturn, 1)) (hr : M.2.2.2.1 = some .boolean) (hx01 : x = 0 ∨ x = 1) : x_B M pc L [.inl x] h (some (.inl x)) h := by
  refine ⟨⟨Nat.le_refl _, Nat.le_refl _⟩, fun p l e s m args below meth c H locs ls d k0 n0 hC hR hL h1 h2 hq => ?_⟩
  obtain ⟨hx, hbt, hml, hown, hts, hret, hlk, hnm, hK⟩ := hC
  exact W.zret hx hbt (hret.trans hr) (by rcases hx01 with rfl | rfl <;> decide +kernel) (fun t ht _ => ⟨rfl, by rw [ht]; exact hR⟩) hq hd hlk
theorem xb_v (hd : decode M.2.1 pc = .ok (.return_, 1)) (hr : M.2.2.2.1 = none) : x_B M pc L [] h none h := by
  refine ⟨⟨Nat.le_refl _, Nat.le_refl _⟩, fun p l e s m args below meth c H locs ls d k0 n0 hC hR hL h1 h2 hq => ?_⟩
  obtain ⟨hx, hbt, hml, hown, hts, hret, hlk, hnm, hK⟩ := hC
  exact W.vret hx hbt (hret.trans hr) (fun t ht _ => ⟨rfl, by rw [ht]; exact hR⟩) hq hd hlk
theorem xb_a {x : Option Nat} {ty : FieldType} (hd : decode M.2.1 pc = .ok (.areturn, 1)) (hr : M.2.2.2.1 = some ty) (hty : (∃ n, ty = .object n) ∨ ∃ t, ty = .array t) : x_B M pc L [.inr x] h (some (.inr x)) h := by
  refine ⟨⟨Nat.le_refl _, Nat.le_refl _⟩, fun p l e s m args below meth c H locs ls d k0 n0 hC hR hL h1 h2 hq => ?_⟩
  obtain ⟨hx, hbt, hml, hown, hts, hret, hlk, hnm, hK⟩ := hC
  exact W.aret hx hbt (hret.trans hr) hty (va_rf_or _) (fun t ht _ => ⟨rfl, by rw [ht]; exact hR⟩) hq hd hlk
end XC
end
section
/-! calls -/
theorem x_N_warm {s U : State} (hW : s.WarmedH U.vm) (h : ∀ w ∈ x_N, va_Nw w s) : ∀ w ∈ x_N, va_Nw w U := by
  intro w hw
  have hz := h w hw
  unfold x_N at hw
  rcases List.mem_append.mp hw with h1 | h1
  · obtain ⟨q, -, rfl⟩ := List.mem_map.mp h1
    exact va_Nw.warmF hW hz
  · obtain ⟨q, -, rfl⟩ := List.mem_map.mp h1
    exact va_Nw.warmM hW hz
theorem x_N_same {s U : State} (hv : s.vm = U.vm) (h : ∀ w ∈ x_N, va_Nw w s) : ∀ w ∈ x_N, va_Nw w U := by
  intro w hw
  have hz := h w hw
  unfold x_N at hw
  rcases List.mem_append.mp hw with h1 | h1
  · obtain ⟨q, -, rfl⟩ := List.mem_map.mp h1
    exact va_Nw.same rfl hv hz
  · obtain ⟨q, -, rfl⟩ := List.mem_map.mp h1
    exact va_Nw.same rfl hv hz
theorem x_K_warm {d : xD} {s U : State} (hW : s.WarmedH U.vm) (h : x_K d s) : x_K d U :=
  ⟨va_K.moved hW.alike h.1, x_N_warm hW h.2.1, va_AO.moved hW.alike h.2.2.1, va_AO.moved hW.alike h.2.2.2⟩
theorem x_K_same {d : xD} {s U : State} (hv : s.vm = U.vm) (h : x_K d s) : x_K d U := by
  have ha : s.vm.Alike U.vm := by rw [← hv]; exact Vm.Alike.refl _
  exact ⟨va_K.moved ha h.1, x_N_same hv h.2.1, va_AO.moved ha h.2.2.1, va_AO.moved ha h.2.2.2⟩
theorem x_sum (b : Nat) (l : List xV) : ((l.map (x_v b)).map (fun v => v.category)).sum = l.length := by
  induction l with
  | nil => rfl
  | cons v l ih => simp only [List.map_cons, List.sum_cons, List.length_cons, x_cat] at ih ⊢; omega
def x_cd (M' : xM) (n : Nat) : Prop := Cond.code M'.1 M'.2.1 M'.2.2.1 M'.2.2.2.1 ∈ x_ws ∧ Cond.initialized M'.1.cls ∈ x_ws ∧ (M'.1.cls ≠ "java/lang/invoke/MethodHandle" ∧ M'.1.cls ≠ "java/lang/invoke/VarHandle" ∧ (parseMethodDescriptor M'.1.desc).map (fun d => d.parameters.length) = some n)
def x_ml (own : String) (idx : Nat) (y : MethodName) : Prop := Cond.methodLink own idx y ∈ x_ws ∨ ∃ host, Cond.methodLinkNest own idx y host ∈ x_N
def x_rr (M M' : xM) : Prop := M'.2.2.2.2.1 + 1 ≤ M.2.2.2.2.1 ∧ 8 + (M'.2.2.1 + 11) + M'.2.2.2.2.2 ≤ M.2.2.2.2.2
theorem x_gi {M M' : xM} {n : Nat} (hc : x_cd M' n) : GoodIn (x_wM M) (x_wM M') := by
  intro w hw
  unfold x_wM at hw
  rcases List.mem_cons.mp hw with h | h
  · subst h
    exact ⟨List.mem_cons_of_mem _ hc.1, x_good _ hc.1⟩
  · exact ⟨List.mem_cons_of_mem _ h, x_good _ h⟩
section XA
variable {p : Program} {l : Launch} {e : Env} {R : Room} {s : State} {m : MethodId} {args : Array Value} {below : List Frame} {meth : Method} {c : Code} {H : Heap} {locs : List Loc} {cells slots : Nat} {Q : State → Prop}
theorem x_after {pc mc ms : Nat} {ls : Array Slot} {st0 rest : List Value} {d : xD} {r : Option xV} {h1 : xH} (hq : ∀ q ∈ locs, d.1 ≤ q.base)
    (hr : ∀ T : State, T.heap = H → Stand p l e R s m args below meth c T locs cells slots → ∃ (v : Option Value) (t T' : State) (L : List Loc), Stand p l e R s m args below meth c T' (locs ++ L) (cells + mc) (slots + ms) ∧ (∀ q ∈ L, d.1 ≤ q.base) ∧ T'.heap = t.heap ∧ (Outcome.returned v = .returned (r.map (x_v d.1)) ∧ x_R d h1 t.heap) ∧ Goes p e below T (F0 m pc ls st0) T' (F0 m (pc + 3) ls (v.toList ++ rest)))
    (kk : ∀ (H1 : Heap) (locs1 : List Loc), x_R d h1 H1 → (∀ q ∈ locs1, d.1 ≤ q.base) → W p l e R s m args below meth c H1 locs1 (cells + mc) (slots + ms) Q (F0 m (pc + 3) ls ((r.map (x_v d.1)).toList ++ rest))) : W p l e R s m args below meth c H locs cells slots Q (F0 m pc ls st0) := by
  intro T hT X
  obtain ⟨v, t, T', L, X', hL, e1, ⟨hv, hR1⟩, st1⟩ := hr T hT X
  have hv := Outcome.returned.inj hv
  subst hv
  obtain ⟨t2, a1, b1⟩ := kk T'.heap (locs ++ L) (by rw [e1]; exact hR1) (t_lL hq hL) T' rfl X'
  exact ⟨t2, st1 t2 a1, b1⟩
end XA
section XD
variable {M : xM} {pc : Nat} {L : List (Option xV)} {st : List xV} {h : xH}
theorem xs_callV {M' : xM} {idx n a ci : Nat} {as rest fs : List xV} {r : Option xV} {h1 : xH} (hd : decode M.2.1 pc = .ok (.invokevirtual idx, 3)) (hcd : x_cd M' n) (hml : x_ml M.1.cls idx M'.1) (hin : Cond.instanceMethod M'.1 ∈ x_ws ∧ Cond.selects M'.1.cls M'.1 M'.1 ∈ x_ws) (hrr : x_rr M M') (hn : as.length = n) (hst : st = as.reverse ++ .inr (some a) :: rest) (ha : h.1[a]? = some (.inr (.inr (ci, fs)))) (hci : (cl_s[ci]?).map (fun z => z.1) = some M'.1.cls) (hrest : rest.length ≤ 8) (hM : x_M M' (.inr (some a) :: as) h r h1) : x_S M pc L st h (pc + 3) L (r.toList ++ rest) h1 := by
  intro r' hf hb
  obtain ⟨hle, hw⟩ := hb
  obtain ⟨hle1, hm⟩ := hM
  refine ⟨by omega, fun p l e s m args below meth c H locs ls d k0 n0 hC hR hL h1' h2 hq => ?_⟩
  have hC' := hC
  obtain ⟨hx, hbt, hmx, hown, hts, hret, hlk, hnm, hK⟩ := hC'
  obtain ⟨r0, g0, -⟩ := hR.2 a _ ha
  have hcn : r0.1 = M'.1.cls := by
    have g0' : cl_s[ci]? = some r0 := g0
    rw [g0'] at hci
    exact Option.some.inj hci
  have hrec := va_recv hK.1 (hR.sing ha) g0 (q0 := 0) rfl
  rw [hcn] at hrec
  have hp : PreV s H M'.1.cls (d.1 + a) (va_Pc ((.inr (some a) :: as).map (x_v d.1)) (fun U => x_R d h U.heap ∧ x_K d U)) (as.map (x_v d.1)) :=
    ⟨fun aa U g mk q => ⟨q.1, q.2.1, x_K_same (s := U) (U := U.calling g mk aa) rfl q.2.2⟩, hrec, fun U hU hW => ⟨rfl, by rw [hU]; exact hR, x_K_warm hW hK⟩⟩
  have hstk : st.map (x_v d.1) = (as.map (x_v d.1)).reverse ++ .ref (d.1 + a) :: rest.map (x_v d.1) := by
    rw [hst]; simp [x_v, x_r, va_rf]
  have hroom : 2 * (F0 m pc ls (st.map (x_v d.1))).monitorRoom + ((rest.map (x_v d.1)).map fun v => v.category).sum ≤ 8 := lv_room (rest := st.map (x_v d.1)) (by rw [x_sum]; exact hrest)
  have hlen : (as.map (x_v d.1)).length = n := by rw [List.length_map]; exact hn
  have hcs : (h.1.length - k0) + (h1.1.length - h.1.length) ≤ (x_rm M (hf.1.length - k0) (hf.2 - n0)).cells ∧ (h.2 - n0) + (h1.2 - h.2) ≤ (x_rm M (hf.1.length - k0) (hf.2 - n0)).slots := ⟨by show _ ≤ hf.1.length - k0; omega, by show _ ≤ hf.2 - n0; omega⟩
  refine x_after (mc := h1.1.length - h.1.length) (ms := h1.2 - h.2) (rest := rest.map (x_v d.1)) (d := d) (r := r) (h1 := h1) hq ?_ (fun H1 locs1 hR1 hq1 => ?_)
  · rcases hml with hml | ⟨host, hml⟩
    · have cb := callB_of (R := x_rm M (hf.1.length - k0) (hf.2 - n0)) (rm := x_rm M' (h1.1.length - h.1.length) (h1.2 - h.2)) n hts (x_gi hcd) rfl rfl rfl (hts _ (List.mem_cons_of_mem _ hcd.2.1)) (hts _ (List.mem_cons_of_mem _ hml)) hcd.2.2 hrr
      have hr := va_runV (l := l) (e := e) (below := below) (meth := meth) (locs := locs) (cells := h.1.length - k0) (slots := h.2 - n0) (Ts := x_wM M) ⟨hx, hbt, hmx, hown, hts⟩ (hm l d) ⟨cb, hts _ (List.mem_cons_of_mem _ hin.1), hts _ (List.mem_cons_of_mem _ hin.2)⟩ hp (g := F0 m pc ls (st.map (x_v d.1))) rfl hlen hL.1 hstk hroom hd hcs
      intro T hT X
      obtain ⟨v, st₀, t, T', L', -, X', hL', e1, -, hq1, st1⟩ := hr T hT X
      exact ⟨v, t, T', L', X', hL', e1, hq1, st1⟩
    · have cb := va_cnB (R := x_rm M (hf.1.length - k0) (hf.2 - n0)) (rm := x_rm M' (h1.1.length - h.1.length) (h1.2 - h.2)) n hts (x_gi hcd) rfl rfl rfl (hK.2.1 _ hml) (hts _ (List.mem_cons_of_mem _ hcd.2.1)) hcd.2.2 hrr
      have hr := va_runVN (l := l) (e := e) (below := below) (meth := meth) (locs := locs) (cells := h.1.length - k0) (slots := h.2 - n0) (Ts := x_wM M) ⟨hx, hbt, hmx, hown, hts⟩ (hm l d) ⟨cb, hts _ (List.mem_cons_of_mem _ hin.1), hts _ (List.mem_cons_of_mem _ hin.2)⟩ hp (g := F0 m pc ls (st.map (x_v d.1))) rfl hlen hL.1 hstk hroom hd hcs
      intro T hT X
      obtain ⟨v, st₀, t, T', L', -, X', hL', e1, -, hq1, st1⟩ := hr T hT X
      exact ⟨v, t, T', L', X', hL', e1, hq1, st1⟩
  · have k := hw p l e s m args below meth c H1 locs1 ls d k0 n0 hC hR1 hL (by omega) (by omega) hq1
    refine W.cs (cells' := h1.1.length - k0) (slots' := h1.2 - n0) (by omega) (by omega) ?_
    cases r <;> exact k
theorem xs_callI {M' : xM} {idx n a : Nat} {as rest : List xV} {h1 : xH} (hd : decode M.2.1 pc = .ok (.invokespecial idx, 3)) (hcd : x_cd M' n) (hml : x_ml M.1.cls idx M'.1) (hin : Cond.instanceMethod M'.1 ∈ x_ws ∧ M'.1.name = "<init>" ∧ M'.2.2.2.1 = none) (hrr : x_rr M M') (hn : as.length = n) (hst : st = as.reverse ++ .inr (some a) :: rest) (hrest : rest.length ≤ 8) (hM : x_M M' (.inr (some a) :: as) h none h1) : x_S M pc L st h (pc + 3) L rest h1 := by
  intro r' hf hb
  obtain ⟨hle, hw⟩ := hb
  obtain ⟨hle1, hm⟩ := hM
  refine ⟨by omega, fun p l e s m args below meth c H locs ls d k0 n0 hC hR hL h1' h2 hq => ?_⟩
  have hC' := hC
  obtain ⟨hx, hbt, hmx, hown, hts, hret, hlk, hnm, hK⟩ := hC'
  have hp : PreS s H (va_Pc ((.inr (some a) :: as).map (x_v d.1)) (fun U => x_R d h U.heap ∧ x_K d U)) (.ref (d.1 + a) :: as.map (x_v d.1)) :=
    ⟨fun aa U g mk q => ⟨q.1, q.2.1, x_K_same (s := U) (U := U.calling g mk aa) rfl q.2.2⟩, fun U hU hW => ⟨rfl, by rw [hU]; exact hR, x_K_warm hW hK⟩⟩
  have hstk : st.map (x_v d.1) = (as.map (x_v d.1)).reverse ++ .ref (d.1 + a) :: rest.map (x_v d.1) := by
    rw [hst]; simp [x_v, x_r, va_rf]
  have hroom : 2 * (F0 m pc ls (st.map (x_v d.1))).monitorRoom + ((rest.map (x_v d.1)).map fun v => v.category).sum ≤ 8 := lv_room (rest := st.map (x_v d.1)) (by rw [x_sum]; exact hrest)
  have hlen : (as.map (x_v d.1)).length = n := by rw [List.length_map]; exact hn
  have hcs : (h.1.length - k0) + (h1.1.length - h.1.length) ≤ (x_rm M (hf.1.length - k0) (hf.2 - n0)).cells ∧ (h.2 - n0) + (h1.2 - h.2) ≤ (x_rm M (hf.1.length - k0) (hf.2 - n0)).slots := ⟨by show _ ≤ hf.1.length - k0; omega, by show _ ≤ hf.2 - n0; omega⟩
  have hwM : x_wM M' = Cond.code M'.1 M'.2.1 M'.2.2.1 none :: x_ws := by unfold x_wM; rw [hin.2.2]
  refine x_after (mc := h1.1.length - h.1.length) (ms := h1.2 - h.2) (rest := rest.map (x_v d.1)) (d := d) (r := none) (h1 := h1) hq ?_ (fun H1 locs1 hR1 hq1 => ?_)
  · rcases hml with hml | ⟨host, hml⟩
    · have cb := callB_of (R := x_rm M (hf.1.length - k0) (hf.2 - n0)) (rm := x_rm M' (h1.1.length - h.1.length) (h1.2 - h.2)) n hts (x_gi hcd) hwM rfl rfl (hts _ (List.mem_cons_of_mem _ hcd.2.1)) (hts _ (List.mem_cons_of_mem _ hml)) hcd.2.2 hrr
      have hr := va_runI (l := l) (e := e) (below := below) (meth := meth) (locs := locs) (cells := h.1.length - k0) (slots := h.2 - n0) (Ts := x_wM M) ⟨hx, hbt, hmx, hown, hts⟩ (hm l d) ⟨cb, hin.2.1, hts _ (List.mem_cons_of_mem _ hin.1)⟩ hp (g := F0 m pc ls (st.map (x_v d.1))) rfl hlen hL.1 hstk hroom hd hcs
      intro T hT X
      obtain ⟨v, st₀, t, T', L', -, X', hL', e1, -, hq1, st1⟩ := hr T hT X
      exact ⟨v, t, T', L', X', hL', e1, hq1, st1⟩
    · have cb := va_cnB (R := x_rm M (hf.1.length - k0) (hf.2 - n0)) (rm := x_rm M' (h1.1.length - h.1.length) (h1.2 - h.2)) n hts (x_gi hcd) hwM rfl rfl (hK.2.1 _ hml) (hts _ (List.mem_cons_of_mem _ hcd.2.1)) hcd.2.2 hrr
      have hr := va_runIN (l := l) (e := e) (below := below) (meth := meth) (locs := locs) (cells := h.1.length - k0) (slots := h.2 - n0) (Ts := x_wM M) ⟨hx, hbt, hmx, hown, hts⟩ (hm l d) ⟨cb, hin.2.1, hts _ (List.mem_cons_of_mem _ hin.1)⟩ hp (g := F0 m pc ls (st.map (x_v d.1))) rfl hlen hL.1 hstk hroom hd hcs
      intro T hT X
      obtain ⟨v, st₀, t, T', L', -, X', hL', e1, -, hq1, st1⟩ := hr T hT X
      exact ⟨v, t, T', L', X', hL', e1, hq1, st1⟩
  · have k := hw p l e s m args below meth c H1 locs1 ls d k0 n0 hC hR1 hL (by omega) (by omega) hq1
    exact W.cs (cells' := h1.1.length - k0) (slots' := h1.2 - n0) (by omega) (by omega) k
theorem xs_callS {M' : xM} {idx n : Nat} {as rest : List xV} {r : Option xV} {h1 : xH} (hd : decode M.2.1 pc = .ok (.invokestatic idx, 3)) (hcd : x_cd M' n) (hml : x_ml M.1.cls idx M'.1) (hin : Cond.static M'.1 ∈ x_ws) (hrr : x_rr M M') (hn : as.length = n) (hst : st = as.reverse ++ rest) (hrest : rest.length ≤ 8) (hM : x_M M' as h r h1) : x_S M pc L st h (pc + 3) L (r.toList ++ rest) h1 := by
  intro r' hf hb
  obtain ⟨hle, hw⟩ := hb
  obtain ⟨hle1, hm⟩ := hM
  refine ⟨by omega, fun p l e s m args below meth c H locs ls d k0 n0 hC hR hL h1' h2 hq => ?_⟩
  have hC' := hC
  obtain ⟨hx, hbt, hmx, hown, hts, hret, hlk, hnm, hK⟩ := hC'
  have hp : PreS s H (va_Pc (as.map (x_v d.1)) (fun U => x_R d h U.heap ∧ x_K d U)) (as.map (x_v d.1)) :=
    ⟨fun aa U g mk q => ⟨q.1, q.2.1, x_K_same (s := U) (U := U.calling g mk aa) rfl q.2.2⟩, fun U hU hW => ⟨rfl, by rw [hU]; exact hR, x_K_warm hW hK⟩⟩
  have hstk : st.map (x_v d.1) = (as.map (x_v d.1)).reverse ++ rest.map (x_v d.1) := by
    rw [hst]; simp
  have hroom : 2 * (F0 m pc ls (st.map (x_v d.1))).monitorRoom + ((rest.map (x_v d.1)).map fun v => v.category).sum ≤ 8 := lv_room (rest := st.map (x_v d.1)) (by rw [x_sum]; exact hrest)
  have hlen : (as.map (x_v d.1)).length = n := by rw [List.length_map]; exact hn
  have hcs : (h.1.length - k0) + (h1.1.length - h.1.length) ≤ (x_rm M (hf.1.length - k0) (hf.2 - n0)).cells ∧ (h.2 - n0) + (h1.2 - h.2) ≤ (x_rm M (hf.1.length - k0) (hf.2 - n0)).slots := ⟨by show _ ≤ hf.1.length - k0; omega, by show _ ≤ hf.2 - n0; omega⟩
  refine x_after (mc := h1.1.length - h.1.length) (ms := h1.2 - h.2) (rest := rest.map (x_v d.1)) (d := d) (r := r) (h1 := h1) hq ?_ (fun H1 locs1 hR1 hq1 => ?_)
  · rcases hml with hml | ⟨host, hml⟩
    · have cb := callB_of (R := x_rm M (hf.1.length - k0) (hf.2 - n0)) (rm := x_rm M' (h1.1.length - h.1.length) (h1.2 - h.2)) n hts (x_gi hcd) rfl rfl rfl (hts _ (List.mem_cons_of_mem _ hcd.2.1)) (hts _ (List.mem_cons_of_mem _ hml)) hcd.2.2 hrr
      have hr := va_runS (l := l) (e := e) (below := below) (meth := meth) (locs := locs) (cells := h.1.length - k0) (slots := h.2 - n0) (Ts := x_wM M) ⟨hx, hbt, hmx, hown, hts⟩ (hm l d) ⟨cb, hts _ (List.mem_cons_of_mem _ hin)⟩ hp (g := F0 m pc ls (st.map (x_v d.1))) rfl hlen hL.1 hstk hroom hd hcs
      intro T hT X
      obtain ⟨v, st₀, t, T', L', -, X', hL', e1, -, hq1, st1⟩ := hr T hT X
      exact ⟨v, t, T', L', X', hL', e1, hq1, st1⟩
    · have cb := va_cnB (R := x_rm M (hf.1.length - k0) (hf.2 - n0)) (rm := x_rm M' (h1.1.length - h.1.length) (h1.2 - h.2)) n hts (x_gi hcd) rfl rfl rfl (hK.2.1 _ hml) (hts _ (List.mem_cons_of_mem _ hcd.2.1)) hcd.2.2 hrr
      have hr := va_runSN (l := l) (e := e) (below := below) (meth := meth) (locs := locs) (cells := h.1.length - k0) (slots := h.2 - n0) (Ts := x_wM M) ⟨hx, hbt, hmx, hown, hts⟩ (hm l d) ⟨cb, hts _ (List.mem_cons_of_mem _ hin), trivial⟩ hp (g := F0 m pc ls (st.map (x_v d.1))) rfl hlen hL.1 hstk hroom hd hcs
      intro T hT X
      obtain ⟨v, st₀, t, T', L', -, X', hL', e1, -, hq1, st1⟩ := hr T hT X
      exact ⟨v, t, T', L', X', hL', e1, hq1, st1⟩
  · have k := hw p l e s m args below meth c H1 locs1 ls d k0 n0 hC hR1 hL (by omega) (by omega) hq1
    refine W.cs (cells' := h1.1.length - k0) (slots' := h1.2 - n0) (by omega) (by omega) ?_
    cases r <;> exact k
theorem xs_obj {idx a : Nat} {rest : List xV} (hd : decode M.2.1 pc = .ok (.invokespecial idx, 3)) (hl : Cond.methodLink M.1.cls idx objectInit ∈ x_ws ∧ Cond.instanceMethod objectInit ∈ x_ws ∧ Cond.code objectInit ⟨#[0xb1]⟩ 1 none ∈ x_ws) (hrr : 1 ≤ M.2.2.2.2.1 ∧ rest.length + 12 ≤ M.2.2.2.2.2) : x_S M pc L (.inr (some a) :: rest) h (pc + 3) L rest h := by
  intro r hf hb
  obtain ⟨hle, hw⟩ := hb
  refine ⟨hle, fun p l e s m args below meth c H locs ls d k0 n0 hC hR hL h1 h2 hq => ?_⟩
  have hC' := hC
  obtain ⟨hx, hbt, hml, hown, hts, hret, hlk, hnm, hK⟩ := hC'
  exact W.objInit hx hbt hown (hts _ (List.mem_cons_of_mem _ hl.1)) (hts _ (List.mem_cons_of_mem _ hl.2.1)) (hts _ (List.mem_cons_of_mem _ hl.2.2)) rfl (by rw [hml]; exact hL.1) rfl hd hrr.1 (by rw [x_sum]; show 2 * 0 + rest.length + 12 ≤ _; have := hrr.2; show _ ≤ M.2.2.2.2.2; omega) (hw p l e s m args below meth c H locs ls d k0 n0 hC hR hL h1 h2 hq)
end XD
/-! a method's contract out of its walk -/
theorem x_ent {b : Nat} : ∀ (as : List xV) (k i : Nat) (v : xV), as[i]? = some v → (k + i, x_v b v) ∈ lv_args k (as.map (x_v b)) := by
  intro as
  induction as with
  | nil => intro k i v h; simp at h
  | cons a as ih =>
    intro k i v h
    have hc : ¬ (x_v b a).category = 2 := by rw [x_cat]; decide
    simp only [List.map_cons, lv_args, if_neg hc]
    cases i with
    | zero => simp at h; subst h; exact List.mem_cons_self
    | succ i =>
      simp at h
      refine List.mem_cons_of_mem _ ?_
      have := ih (k + 1) i v h
      rw [show k + (i + 1) = k + 1 + i by omega]
      exact this
theorem x_sl (b : Nat) (as : List xV) : (lg_sl (as.map (x_v b))).length = as.length := by
  induction as with
  | nil => rfl
  | cons a as ih =>
    have hc : ¬ (x_v b a).category = 2 := by rw [x_cat]; decide
    unfold lg_sl at ih ⊢
    simp only [List.map_cons, List.flatMap_cons, if_neg hc, List.length_append, List.length_cons, List.length_nil] at ih ⊢
    omega
def x_en (M : xM) (as : List xV) : List (Option xV) := as.map some ++ List.replicate (M.2.2.1 - as.length) none
theorem xm {M : xM} {as : List xV} {h : xH} {r : Option xV} {hf : xH} (hpl : plainName M.1.cls = true) (hn : as.length ≤ M.2.2.1) (hb : x_B M 0 (x_en M as) [] h r hf) : x_M M as h r hf := by
  obtain ⟨hle, hw⟩ := hb
  refine ⟨hle, fun l d => ?_⟩
  refine Met.ofW (cc := M.2.1) (maxL := M.2.2.1) (ret := M.2.2.2.1) hpl rfl ?_
  intro p e s m args below meth c s₁ B hml hv
  obtain ⟨rfl, hR, hK⟩ := hv
  have hl0 := lv_entry (as.map (x_v d.1)) (n := M.2.2.1) (by rw [x_sl]; exact hn)
  rw [lg_entry_eq]
  generalize (lg_sl (as.map (x_v d.1)) ++ List.replicate (M.2.2.1 - (lg_sl (as.map (x_v d.1))).length) Slot.unset).toArray = ls at hl0 ⊢
  have hL : x_L d.1 ls M.2.2.1 (x_en M as) := by
    refine ⟨hl0.1, hl0.2.1, fun q hq => hl0.2.2 q ?_⟩
    obtain ⟨v, h1, h2⟩ := x_ll_mem.mp hq
    obtain ⟨j, w0⟩ := q
    dsimp only at h1 h2
    subst h2
    unfold x_en at h1
    by_cases hj : j < as.length
    · rw [List.getElem?_append_left (by simpa using hj), List.getElem?_map] at h1
      cases ha : as[j]? with
      | none => rw [ha] at h1; simp at h1
      | some u =>
        rw [ha] at h1
        simp at h1
        subst h1
        have := x_ent (b := d.1) as 0 j u ha
        rw [Nat.zero_add] at this
        exact this
    · rw [List.getElem?_append_right (by simpa using hj), List.getElem?_replicate] at h1
      split at h1 <;> simp at h1
  have k := hw p l e s m (as.map (x_v d.1)).toArray below meth c s.heap [] ls d h.1.length h.2 ⟨B.exec, B.bytes, hml, findClass_of_methodNamed B.named, atoms_spec (ws := x_wM M) B.pre, B.returns, B.notSynchronized, (name_of_methodNamed B.named B.method).1, hK⟩ hR hL (Nat.le_refl _) (Nat.le_refl _) (fun q hq => by cases hq)
  rw [Nat.sub_self, Nat.sub_self] at k
  exact k
def x_Mx (M : xM) (as : List xV) (h : xH) (Q : Option xV → xH → Prop) : Prop := ∃ r hf, x_M M as h r hf ∧ Q r hf
theorem xmx {M : xM} {as : List xV} {h : xH} {Q : Option xV → xH → Prop} (hpl : plainName M.1.cls = true) (hn : as.length ≤ M.2.2.1) (hb : x_X M 0 (x_en M as) [] h Q) : x_Mx M as h Q := by
  obtain ⟨r, hf, hb, hq⟩ := hb
  exact ⟨r, hf, xm hpl hn hb, hq⟩
end

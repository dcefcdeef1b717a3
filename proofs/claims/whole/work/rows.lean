section
-- ===== PART A: goes FIRST, ahead of the names: the tables' words, and 'selects' of the private methods out of them =====
/-- a private method of a class that the tables say can be made, by its rows of tables_1 -/
def lw_okq (q : MethodName × Nat) : Prop := (q.1.cls ≠ "java/lang/invoke/MethodHandle" ∧ q.1.cls ≠ "java/lang/invoke/VarHandle") ∧ Cond.instantiable q.1.cls q.2 ∈ tables_1 ∧ Cond.privateMethod q.1 ∈ tables_1 ∧ Cond.instanceMethod q.1 ∈ tables_1
theorem lw_p0 : lw_okq (⟨"HomeComputer$Processor", "takeInterrupt", "()V"⟩, 5) := ⟨⟨by decide +kernel, by decide +kernel⟩, List.mem_of_getElem? (i := 92) (by decide +kernel), List.mem_of_getElem? (i := 217) (by decide +kernel), List.mem_of_getElem? (i := 218) (by decide +kernel)⟩
theorem lw_p1 : lw_okq (⟨"HomeComputer$Processor", "refresh", "()V"⟩, 5) := ⟨⟨by decide +kernel, by decide +kernel⟩, List.mem_of_getElem? (i := 92) (by decide +kernel), List.mem_of_getElem? (i := 221) (by decide +kernel), List.mem_of_getElem? (i := 222) (by decide +kernel)⟩
theorem lw_p2 : lw_okq (⟨"HomeComputer$Processor", "push", "(I)V"⟩, 5) := ⟨⟨by decide +kernel, by decide +kernel⟩, List.mem_of_getElem? (i := 92) (by decide +kernel), List.mem_of_getElem? (i := 229) (by decide +kernel), List.mem_of_getElem? (i := 230) (by decide +kernel)⟩
theorem lw_p3 : lw_okq (⟨"HomeComputer$Board", "delay", "(Z)I"⟩, 8) := ⟨⟨by decide +kernel, by decide +kernel⟩, List.mem_of_getElem? (i := 20) (by decide +kernel), List.mem_of_getElem? (i := 241) (by decide +kernel), List.mem_of_getElem? (i := 242) (by decide +kernel)⟩
theorem lw_p4 : lw_okq (⟨"HomeComputer$Processor", "readWord", "(I)I"⟩, 5) := ⟨⟨by decide +kernel, by decide +kernel⟩, List.mem_of_getElem? (i := 92) (by decide +kernel), List.mem_of_getElem? (i := 247) (by decide +kernel), List.mem_of_getElem? (i := 248) (by decide +kernel)⟩
theorem lw_p5 : lw_okq (⟨"HomeComputer$Processor", "fetchBehindPrefixes", "()I"⟩, 5) := ⟨⟨by decide +kernel, by decide +kernel⟩, List.mem_of_getElem? (i := 92) (by decide +kernel), List.mem_of_getElem? (i := 260) (by decide +kernel), List.mem_of_getElem? (i := 261) (by decide +kernel)⟩
theorem lw_p6 : lw_okq (⟨"HomeComputer$Processor", "fetch", "()I"⟩, 5) := ⟨⟨by decide +kernel, by decide +kernel⟩, List.mem_of_getElem? (i := 92) (by decide +kernel), List.mem_of_getElem? (i := 264) (by decide +kernel), List.mem_of_getElem? (i := 265) (by decide +kernel)⟩
theorem lw_p7 : lw_okq (⟨"HomeComputer$Processor", "movePc", "(I)V"⟩, 5) := ⟨⟨by decide +kernel, by decide +kernel⟩, List.mem_of_getElem? (i := 92) (by decide +kernel), List.mem_of_getElem? (i := 268) (by decide +kernel), List.mem_of_getElem? (i := 269) (by decide +kernel)⟩
theorem lw_p8 : lw_okq (⟨"HomeComputer$Processor", "findM", "()V"⟩, 5) := ⟨⟨by decide +kernel, by decide +kernel⟩, List.mem_of_getElem? (i := 92) (by decide +kernel), List.mem_of_getElem? (i := 278) (by decide +kernel), List.mem_of_getElem? (i := 279) (by decide +kernel)⟩
theorem lw_p9 : lw_okq (⟨"HomeComputer$Processor", "nextByte", "()I"⟩, 5) := ⟨⟨by decide +kernel, by decide +kernel⟩, List.mem_of_getElem? (i := 92) (by decide +kernel), List.mem_of_getElem? (i := 290) (by decide +kernel), List.mem_of_getElem? (i := 291) (by decide +kernel)⟩
theorem lw_p10 : lw_okq (⟨"HomeComputer$Processor", "rotate", "()V"⟩, 5) := ⟨⟨by decide +kernel, by decide +kernel⟩, List.mem_of_getElem? (i := 92) (by decide +kernel), List.mem_of_getElem? (i := 294) (by decide +kernel), List.mem_of_getElem? (i := 295) (by decide +kernel)⟩
theorem lw_p11 : lw_okq (⟨"HomeComputer$Processor", "operand", "(I)I"⟩, 5) := ⟨⟨by decide +kernel, by decide +kernel⟩, List.mem_of_getElem? (i := 92) (by decide +kernel), List.mem_of_getElem? (i := 298) (by decide +kernel), List.mem_of_getElem? (i := 299) (by decide +kernel)⟩
theorem lw_p12 : lw_okq (⟨"HomeComputer$Processor", "carry", "()I"⟩, 5) := ⟨⟨by decide +kernel, by decide +kernel⟩, List.mem_of_getElem? (i := 92) (by decide +kernel), List.mem_of_getElem? (i := 306) (by decide +kernel), List.mem_of_getElem? (i := 307) (by decide +kernel)⟩
theorem lw_p13 : lw_okq (⟨"HomeComputer$Processor", "changedByte", "(III)I"⟩, 5) := ⟨⟨by decide +kernel, by decide +kernel⟩, List.mem_of_getElem? (i := 92) (by decide +kernel), List.mem_of_getElem? (i := 313) (by decide +kernel), List.mem_of_getElem? (i := 314) (by decide +kernel)⟩
theorem lw_p14 : lw_okq (⟨"HomeComputer$Processor", "setOperand", "(II)V"⟩, 5) := ⟨⟨by decide +kernel, by decide +kernel⟩, List.mem_of_getElem? (i := 92) (by decide +kernel), List.mem_of_getElem? (i := 335) (by decide +kernel), List.mem_of_getElem? (i := 336) (by decide +kernel)⟩
theorem lw_p15 : lw_okq (⟨"HomeComputer$Processor", "more", "(I)V"⟩, 5) := ⟨⟨by decide +kernel, by decide +kernel⟩, List.mem_of_getElem? (i := 92) (by decide +kernel), List.mem_of_getElem? (i := 344) (by decide +kernel), List.mem_of_getElem? (i := 345) (by decide +kernel)⟩
def lw_privs_1 : List (MethodName × Nat) := [(⟨"HomeComputer$Processor", "takeInterrupt", "()V"⟩, 5), (⟨"HomeComputer$Processor", "refresh", "()V"⟩, 5), (⟨"HomeComputer$Processor", "push", "(I)V"⟩, 5), (⟨"HomeComputer$Board", "delay", "(Z)I"⟩, 8), (⟨"HomeComputer$Processor", "readWord", "(I)I"⟩, 5), (⟨"HomeComputer$Processor", "fetchBehindPrefixes", "()I"⟩, 5), (⟨"HomeComputer$Processor", "fetch", "()I"⟩, 5), (⟨"HomeComputer$Processor", "movePc", "(I)V"⟩, 5), (⟨"HomeComputer$Processor", "findM", "()V"⟩, 5), (⟨"HomeComputer$Processor", "nextByte", "()I"⟩, 5), (⟨"HomeComputer$Processor", "rotate", "()V"⟩, 5), (⟨"HomeComputer$Processor", "operand", "(I)I"⟩, 5), (⟨"HomeComputer$Processor", "carry", "()I"⟩, 5), (⟨"HomeComputer$Processor", "changedByte", "(III)I"⟩, 5), (⟨"HomeComputer$Processor", "setOperand", "(II)V"⟩, 5), (⟨"HomeComputer$Processor", "more", "(I)V"⟩, 5)]
theorem lw_r1 : ∀ q ∈ lw_privs_1, lw_okq q := List.forall_mem_cons.mpr ⟨lw_p0, List.forall_mem_cons.mpr ⟨lw_p1, List.forall_mem_cons.mpr ⟨lw_p2, List.forall_mem_cons.mpr ⟨lw_p3, List.forall_mem_cons.mpr ⟨lw_p4, List.forall_mem_cons.mpr ⟨lw_p5, List.forall_mem_cons.mpr ⟨lw_p6, List.forall_mem_cons.mpr ⟨lw_p7, List.forall_mem_cons.mpr ⟨lw_p8, List.forall_mem_cons.mpr ⟨lw_p9, List.forall_mem_cons.mpr ⟨lw_p10, List.forall_mem_cons.mpr ⟨lw_p11, List.forall_mem_cons.mpr ⟨lw_p12, List.forall_mem_cons.mpr ⟨lw_p13, List.forall_mem_cons.mpr ⟨lw_p14, List.forall_mem_cons.mpr ⟨lw_p15, fun _ h => absurd h List.not_mem_nil⟩⟩⟩⟩⟩⟩⟩⟩⟩⟩⟩⟩⟩⟩⟩⟩
theorem lw_p16 : lw_okq (⟨"HomeComputer$Processor", "moveByte", "(I)V"⟩, 5) := ⟨⟨by decide +kernel, by decide +kernel⟩, List.mem_of_getElem? (i := 92) (by decide +kernel), List.mem_of_getElem? (i := 348) (by decide +kernel), List.mem_of_getElem? (i := 349) (by decide +kernel)⟩
theorem lw_p17 : lw_okq (⟨"HomeComputer$Processor", "advance", "(II)I"⟩, 5) := ⟨⟨by decide +kernel, by decide +kernel⟩, List.mem_of_getElem? (i := 92) (by decide +kernel), List.mem_of_getElem? (i := 357) (by decide +kernel), List.mem_of_getElem? (i := 358) (by decide +kernel)⟩
theorem lw_p18 : lw_okq (⟨"HomeComputer$Processor", "setFlags", "(II)V"⟩, 5) := ⟨⟨by decide +kernel, by decide +kernel⟩, List.mem_of_getElem? (i := 92) (by decide +kernel), List.mem_of_getElem? (i := 366) (by decide +kernel), List.mem_of_getElem? (i := 367) (by decide +kernel)⟩
theorem lw_p19 : lw_okq (⟨"HomeComputer$Processor", "lookAtByte", "(I)V"⟩, 5) := ⟨⟨by decide +kernel, by decide +kernel⟩, List.mem_of_getElem? (i := 92) (by decide +kernel), List.mem_of_getElem? (i := 370) (by decide +kernel), List.mem_of_getElem? (i := 371) (by decide +kernel)⟩
theorem lw_p20 : lw_okq (⟨"HomeComputer$Processor", "takeFromPort", "(I)V"⟩, 5) := ⟨⟨by decide +kernel, by decide +kernel⟩, List.mem_of_getElem? (i := 92) (by decide +kernel), List.mem_of_getElem? (i := 377) (by decide +kernel), List.mem_of_getElem? (i := 378) (by decide +kernel)⟩
theorem lw_p21 : lw_okq (⟨"HomeComputer$Processor", "sumWithCarry", "(I)V"⟩, 5) := ⟨⟨by decide +kernel, by decide +kernel⟩, List.mem_of_getElem? (i := 92) (by decide +kernel), List.mem_of_getElem? (i := 399) (by decide +kernel), List.mem_of_getElem? (i := 400) (by decide +kernel)⟩
theorem lw_p22 : lw_okq (⟨"HomeComputer$Processor", "passPair", "(I)V"⟩, 5) := ⟨⟨by decide +kernel, by decide +kernel⟩, List.mem_of_getElem? (i := 92) (by decide +kernel), List.mem_of_getElem? (i := 419) (by decide +kernel), List.mem_of_getElem? (i := 420) (by decide +kernel)⟩
theorem lw_p23 : lw_okq (⟨"HomeComputer$Processor", "nextWord", "()I"⟩, 5) := ⟨⟨by decide +kernel, by decide +kernel⟩, List.mem_of_getElem? (i := 92) (by decide +kernel), List.mem_of_getElem? (i := 423) (by decide +kernel), List.mem_of_getElem? (i := 424) (by decide +kernel)⟩
theorem lw_p24 : lw_okq (⟨"HomeComputer$Processor", "writeWord", "(II)V"⟩, 5) := ⟨⟨by decide +kernel, by decide +kernel⟩, List.mem_of_getElem? (i := 92) (by decide +kernel), List.mem_of_getElem? (i := 432) (by decide +kernel), List.mem_of_getElem? (i := 433) (by decide +kernel)⟩
theorem lw_p25 : lw_okq (⟨"HomeComputer$Processor", "pop", "()I"⟩, 5) := ⟨⟨by decide +kernel, by decide +kernel⟩, List.mem_of_getElem? (i := 92) (by decide +kernel), List.mem_of_getElem? (i := 436) (by decide +kernel), List.mem_of_getElem? (i := 437) (by decide +kernel)⟩
theorem lw_p26 : lw_okq (⟨"HomeComputer$Processor", "doSpecial", "(I)V"⟩, 5) := ⟨⟨by decide +kernel, by decide +kernel⟩, List.mem_of_getElem? (i := 92) (by decide +kernel), List.mem_of_getElem? (i := 443) (by decide +kernel), List.mem_of_getElem? (i := 444) (by decide +kernel)⟩
theorem lw_p27 : lw_okq (⟨"HomeComputer$Processor", "turnTwelveBits", "(Z)V"⟩, 5) := ⟨⟨by decide +kernel, by decide +kernel⟩, List.mem_of_getElem? (i := 92) (by decide +kernel), List.mem_of_getElem? (i := 448) (by decide +kernel), List.mem_of_getElem? (i := 449) (by decide +kernel)⟩
theorem lw_p28 : lw_okq (⟨"HomeComputer$Processor", "doFirst", "(II)V"⟩, 5) := ⟨⟨by decide +kernel, by decide +kernel⟩, List.mem_of_getElem? (i := 92) (by decide +kernel), List.mem_of_getElem? (i := 452) (by decide +kernel), List.mem_of_getElem? (i := 453) (by decide +kernel)⟩
theorem lw_p29 : lw_okq (⟨"HomeComputer$Processor", "moveNear", "(I)V"⟩, 5) := ⟨⟨by decide +kernel, by decide +kernel⟩, List.mem_of_getElem? (i := 92) (by decide +kernel), List.mem_of_getElem? (i := 456) (by decide +kernel), List.mem_of_getElem? (i := 457) (by decide +kernel)⟩
theorem lw_p30 : lw_okq (⟨"HomeComputer$Processor", "condition", "(I)Z"⟩, 5) := ⟨⟨by decide +kernel, by decide +kernel⟩, List.mem_of_getElem? (i := 92) (by decide +kernel), List.mem_of_getElem? (i := 468) (by decide +kernel), List.mem_of_getElem? (i := 469) (by decide +kernel)⟩
theorem lw_p31 : lw_okq (⟨"HomeComputer$Processor", "addPair", "(I)V"⟩, 5) := ⟨⟨by decide +kernel, by decide +kernel⟩, List.mem_of_getElem? (i := 92) (by decide +kernel), List.mem_of_getElem? (i := 472) (by decide +kernel), List.mem_of_getElem? (i := 473) (by decide +kernel)⟩
def lw_privs_2 : List (MethodName × Nat) := [(⟨"HomeComputer$Processor", "moveByte", "(I)V"⟩, 5), (⟨"HomeComputer$Processor", "advance", "(II)I"⟩, 5), (⟨"HomeComputer$Processor", "setFlags", "(II)V"⟩, 5), (⟨"HomeComputer$Processor", "lookAtByte", "(I)V"⟩, 5), (⟨"HomeComputer$Processor", "takeFromPort", "(I)V"⟩, 5), (⟨"HomeComputer$Processor", "sumWithCarry", "(I)V"⟩, 5), (⟨"HomeComputer$Processor", "passPair", "(I)V"⟩, 5), (⟨"HomeComputer$Processor", "nextWord", "()I"⟩, 5), (⟨"HomeComputer$Processor", "writeWord", "(II)V"⟩, 5), (⟨"HomeComputer$Processor", "pop", "()I"⟩, 5), (⟨"HomeComputer$Processor", "doSpecial", "(I)V"⟩, 5), (⟨"HomeComputer$Processor", "turnTwelveBits", "(Z)V"⟩, 5), (⟨"HomeComputer$Processor", "doFirst", "(II)V"⟩, 5), (⟨"HomeComputer$Processor", "moveNear", "(I)V"⟩, 5), (⟨"HomeComputer$Processor", "condition", "(I)Z"⟩, 5), (⟨"HomeComputer$Processor", "addPair", "(I)V"⟩, 5)]
theorem lw_r2 : ∀ q ∈ lw_privs_2, lw_okq q := List.forall_mem_cons.mpr ⟨lw_p16, List.forall_mem_cons.mpr ⟨lw_p17, List.forall_mem_cons.mpr ⟨lw_p18, List.forall_mem_cons.mpr ⟨lw_p19, List.forall_mem_cons.mpr ⟨lw_p20, List.forall_mem_cons.mpr ⟨lw_p21, List.forall_mem_cons.mpr ⟨lw_p22, List.forall_mem_cons.mpr ⟨lw_p23, List.forall_mem_cons.mpr ⟨lw_p24, List.forall_mem_cons.mpr ⟨lw_p25, List.forall_mem_cons.mpr ⟨lw_p26, List.forall_mem_cons.mpr ⟨lw_p27, List.forall_mem_cons.mpr ⟨lw_p28, List.forall_mem_cons.mpr ⟨lw_p29, List.forall_mem_cons.mpr ⟨lw_p30, List.forall_mem_cons.mpr ⟨lw_p31, fun _ h => absurd h List.not_mem_nil⟩⟩⟩⟩⟩⟩⟩⟩⟩⟩⟩⟩⟩⟩⟩⟩
theorem lw_p32 : lw_okq (⟨"HomeComputer$Processor", "takeFrom", "(I)V"⟩, 5) := ⟨⟨by decide +kernel, by decide +kernel⟩, List.mem_of_getElem? (i := 92) (by decide +kernel), List.mem_of_getElem? (i := 476) (by decide +kernel), List.mem_of_getElem? (i := 477) (by decide +kernel)⟩
theorem lw_p33 : lw_okq (⟨"HomeComputer$Processor", "putAt", "(I)V"⟩, 5) := ⟨⟨by decide +kernel, by decide +kernel⟩, List.mem_of_getElem? (i := 92) (by decide +kernel), List.mem_of_getElem? (i := 480) (by decide +kernel), List.mem_of_getElem? (i := 481) (by decide +kernel)⟩
theorem lw_p34 : lw_okq (⟨"HomeComputer$Processor", "count", "(IZ)V"⟩, 5) := ⟨⟨by decide +kernel, by decide +kernel⟩, List.mem_of_getElem? (i := 92) (by decide +kernel), List.mem_of_getElem? (i := 484) (by decide +kernel), List.mem_of_getElem? (i := 485) (by decide +kernel)⟩
theorem lw_p35 : lw_okq (⟨"HomeComputer$Processor", "changeA", "(I)V"⟩, 5) := ⟨⟨by decide +kernel, by decide +kernel⟩, List.mem_of_getElem? (i := 92) (by decide +kernel), List.mem_of_getElem? (i := 491) (by decide +kernel), List.mem_of_getElem? (i := 492) (by decide +kernel)⟩
theorem lw_p36 : lw_okq (⟨"HomeComputer$Processor", "operate", "(II)V"⟩, 5) := ⟨⟨by decide +kernel, by decide +kernel⟩, List.mem_of_getElem? (i := 92) (by decide +kernel), List.mem_of_getElem? (i := 498) (by decide +kernel), List.mem_of_getElem? (i := 499) (by decide +kernel)⟩
theorem lw_p37 : lw_okq (⟨"HomeComputer$Processor", "popOrGo", "(I)V"⟩, 5) := ⟨⟨by decide +kernel, by decide +kernel⟩, List.mem_of_getElem? (i := 92) (by decide +kernel), List.mem_of_getElem? (i := 509) (by decide +kernel), List.mem_of_getElem? (i := 510) (by decide +kernel)⟩
theorem lw_p38 : lw_okq (⟨"HomeComputer$Processor", "doMixed", "(I)V"⟩, 5) := ⟨⟨by decide +kernel, by decide +kernel⟩, List.mem_of_getElem? (i := 92) (by decide +kernel), List.mem_of_getElem? (i := 513) (by decide +kernel), List.mem_of_getElem? (i := 514) (by decide +kernel)⟩
theorem lw_p39 : lw_okq (⟨"HomeComputer$Processor", "pushOrCall", "(I)V"⟩, 5) := ⟨⟨by decide +kernel, by decide +kernel⟩, List.mem_of_getElem? (i := 92) (by decide +kernel), List.mem_of_getElem? (i := 518) (by decide +kernel), List.mem_of_getElem? (i := 519) (by decide +kernel)⟩
theorem lw_p40 : lw_okq (⟨"HomeComputer$Processor", "call", "(I)V"⟩, 5) := ⟨⟨by decide +kernel, by decide +kernel⟩, List.mem_of_getElem? (i := 92) (by decide +kernel), List.mem_of_getElem? (i := 522) (by decide +kernel), List.mem_of_getElem? (i := 523) (by decide +kernel)⟩
theorem lw_p41 : lw_okq (⟨"HomeComputer$Processor", "doLast", "(II)V"⟩, 5) := ⟨⟨by decide +kernel, by decide +kernel⟩, List.mem_of_getElem? (i := 92) (by decide +kernel), List.mem_of_getElem? (i := 526) (by decide +kernel), List.mem_of_getElem? (i := 527) (by decide +kernel)⟩
theorem lw_p42 : lw_okq (⟨"HomeComputerModel", "play", "()V"⟩, 21) := ⟨⟨by decide +kernel, by decide +kernel⟩, List.mem_of_getElem? (i := 548) (by decide +kernel), List.mem_of_getElem? (i := 648) (by decide +kernel), List.mem_of_getElem? (i := 649) (by decide +kernel)⟩
theorem lw_p43 : lw_okq (⟨"HomeComputerModel", "over", "(I)I"⟩, 21) := ⟨⟨by decide +kernel, by decide +kernel⟩, List.mem_of_getElem? (i := 548) (by decide +kernel), List.mem_of_getElem? (i := 652) (by decide +kernel), List.mem_of_getElem? (i := 653) (by decide +kernel)⟩
theorem lw_p44 : lw_okq (⟨"HomeComputerModel", "one", "()V"⟩, 21) := ⟨⟨by decide +kernel, by decide +kernel⟩, List.mem_of_getElem? (i := 548) (by decide +kernel), List.mem_of_getElem? (i := 664) (by decide +kernel), List.mem_of_getElem? (i := 665) (by decide +kernel)⟩
theorem lw_p45 : lw_okq (⟨"HomeComputerModel", "interrupt", "()V"⟩, 21) := ⟨⟨by decide +kernel, by decide +kernel⟩, List.mem_of_getElem? (i := 548) (by decide +kernel), List.mem_of_getElem? (i := 668) (by decide +kernel), List.mem_of_getElem? (i := 669) (by decide +kernel)⟩
theorem lw_p46 : lw_okq (⟨"HomeComputerModel", "refresh", "()V"⟩, 21) := ⟨⟨by decide +kernel, by decide +kernel⟩, List.mem_of_getElem? (i := 548) (by decide +kernel), List.mem_of_getElem? (i := 672) (by decide +kernel), List.mem_of_getElem? (i := 673) (by decide +kernel)⟩
theorem lw_p47 : lw_okq (⟨"HomeComputerModel", "pass", "(I)V"⟩, 21) := ⟨⟨by decide +kernel, by decide +kernel⟩, List.mem_of_getElem? (i := 548) (by decide +kernel), List.mem_of_getElem? (i := 676) (by decide +kernel), List.mem_of_getElem? (i := 677) (by decide +kernel)⟩
def lw_privs_3 : List (MethodName × Nat) := [(⟨"HomeComputer$Processor", "takeFrom", "(I)V"⟩, 5), (⟨"HomeComputer$Processor", "putAt", "(I)V"⟩, 5), (⟨"HomeComputer$Processor", "count", "(IZ)V"⟩, 5), (⟨"HomeComputer$Processor", "changeA", "(I)V"⟩, 5), (⟨"HomeComputer$Processor", "operate", "(II)V"⟩, 5), (⟨"HomeComputer$Processor", "popOrGo", "(I)V"⟩, 5), (⟨"HomeComputer$Processor", "doMixed", "(I)V"⟩, 5), (⟨"HomeComputer$Processor", "pushOrCall", "(I)V"⟩, 5), (⟨"HomeComputer$Processor", "call", "(I)V"⟩, 5), (⟨"HomeComputer$Processor", "doLast", "(II)V"⟩, 5), (⟨"HomeComputerModel", "play", "()V"⟩, 21), (⟨"HomeComputerModel", "over", "(I)I"⟩, 21), (⟨"HomeComputerModel", "one", "()V"⟩, 21), (⟨"HomeComputerModel", "interrupt", "()V"⟩, 21), (⟨"HomeComputerModel", "refresh", "()V"⟩, 21), (⟨"HomeComputerModel", "pass", "(I)V"⟩, 21)]
theorem lw_r3 : ∀ q ∈ lw_privs_3, lw_okq q := List.forall_mem_cons.mpr ⟨lw_p32, List.forall_mem_cons.mpr ⟨lw_p33, List.forall_mem_cons.mpr ⟨lw_p34, List.forall_mem_cons.mpr ⟨lw_p35, List.forall_mem_cons.mpr ⟨lw_p36, List.forall_mem_cons.mpr ⟨lw_p37, List.forall_mem_cons.mpr ⟨lw_p38, List.forall_mem_cons.mpr ⟨lw_p39, List.forall_mem_cons.mpr ⟨lw_p40, List.forall_mem_cons.mpr ⟨lw_p41, List.forall_mem_cons.mpr ⟨lw_p42, List.forall_mem_cons.mpr ⟨lw_p43, List.forall_mem_cons.mpr ⟨lw_p44, List.forall_mem_cons.mpr ⟨lw_p45, List.forall_mem_cons.mpr ⟨lw_p46, List.forall_mem_cons.mpr ⟨lw_p47, fun _ h => absurd h List.not_mem_nil⟩⟩⟩⟩⟩⟩⟩⟩⟩⟩⟩⟩⟩⟩⟩⟩
theorem lw_p48 : lw_okq (⟨"HomeComputerModel", "push", "(I)V"⟩, 21) := ⟨⟨by decide +kernel, by decide +kernel⟩, List.mem_of_getElem? (i := 548) (by decide +kernel), List.mem_of_getElem? (i := 680) (by decide +kernel), List.mem_of_getElem? (i := 681) (by decide +kernel)⟩
theorem lw_p49 : lw_okq (⟨"HomeComputerModel", "write", "(II)V"⟩, 21) := ⟨⟨by decide +kernel, by decide +kernel⟩, List.mem_of_getElem? (i := 548) (by decide +kernel), List.mem_of_getElem? (i := 684) (by decide +kernel), List.mem_of_getElem? (i := 685) (by decide +kernel)⟩
theorem lw_p50 : lw_okq (⟨"HomeComputerModel", "reach", "(II)V"⟩, 21) := ⟨⟨by decide +kernel, by decide +kernel⟩, List.mem_of_getElem? (i := 548) (by decide +kernel), List.mem_of_getElem? (i := 688) (by decide +kernel), List.mem_of_getElem? (i := 689) (by decide +kernel)⟩
theorem lw_p51 : lw_okq (⟨"HomeComputerModel", "slow", "()V"⟩, 21) := ⟨⟨by decide +kernel, by decide +kernel⟩, List.mem_of_getElem? (i := 548) (by decide +kernel), List.mem_of_getElem? (i := 692) (by decide +kernel), List.mem_of_getElem? (i := 693) (by decide +kernel)⟩
theorem lw_p52 : lw_okq (⟨"HomeComputerModel", "two", "(I)I"⟩, 21) := ⟨⟨by decide +kernel, by decide +kernel⟩, List.mem_of_getElem? (i := 548) (by decide +kernel), List.mem_of_getElem? (i := 696) (by decide +kernel), List.mem_of_getElem? (i := 697) (by decide +kernel)⟩
theorem lw_p53 : lw_okq (⟨"HomeComputerModel", "read", "(I)I"⟩, 21) := ⟨⟨by decide +kernel, by decide +kernel⟩, List.mem_of_getElem? (i := 548) (by decide +kernel), List.mem_of_getElem? (i := 700) (by decide +kernel), List.mem_of_getElem? (i := 701) (by decide +kernel)⟩
theorem lw_p54 : lw_okq (⟨"HomeComputerModel", "fetch", "()I"⟩, 21) := ⟨⟨by decide +kernel, by decide +kernel⟩, List.mem_of_getElem? (i := 548) (by decide +kernel), List.mem_of_getElem? (i := 704) (by decide +kernel), List.mem_of_getElem? (i := 705) (by decide +kernel)⟩
theorem lw_p55 : lw_okq (⟨"HomeComputerModel", "more", "(I)V"⟩, 21) := ⟨⟨by decide +kernel, by decide +kernel⟩, List.mem_of_getElem? (i := 548) (by decide +kernel), List.mem_of_getElem? (i := 708) (by decide +kernel), List.mem_of_getElem? (i := 709) (by decide +kernel)⟩
theorem lw_p56 : lw_okq (⟨"HomeComputerModel", "move", "(IZ)V"⟩, 21) := ⟨⟨by decide +kernel, by decide +kernel⟩, List.mem_of_getElem? (i := 548) (by decide +kernel), List.mem_of_getElem? (i := 712) (by decide +kernel), List.mem_of_getElem? (i := 713) (by decide +kernel)⟩
theorem lw_p57 : lw_okq (⟨"HomeComputerModel", "pair", "(I)I"⟩, 21) := ⟨⟨by decide +kernel, by decide +kernel⟩, List.mem_of_getElem? (i := 548) (by decide +kernel), List.mem_of_getElem? (i := 716) (by decide +kernel), List.mem_of_getElem? (i := 717) (by decide +kernel)⟩
theorem lw_p58 : lw_okq (⟨"HomeComputerModel", "difference", "(IIII)I"⟩, 21) := ⟨⟨by decide +kernel, by decide +kernel⟩, List.mem_of_getElem? (i := 548) (by decide +kernel), List.mem_of_getElem? (i := 720) (by decide +kernel), List.mem_of_getElem? (i := 721) (by decide +kernel)⟩
theorem lw_p59 : lw_okq (⟨"HomeComputerModel", "sum", "(IIII)I"⟩, 21) := ⟨⟨by decide +kernel, by decide +kernel⟩, List.mem_of_getElem? (i := 548) (by decide +kernel), List.mem_of_getElem? (i := 724) (by decide +kernel), List.mem_of_getElem? (i := 725) (by decide +kernel)⟩
theorem lw_p60 : lw_okq (⟨"HomeComputerModel", "setPair", "(II)V"⟩, 21) := ⟨⟨by decide +kernel, by decide +kernel⟩, List.mem_of_getElem? (i := 548) (by decide +kernel), List.mem_of_getElem? (i := 728) (by decide +kernel), List.mem_of_getElem? (i := 729) (by decide +kernel)⟩
theorem lw_p61 : lw_okq (⟨"HomeComputerModel", "input", "(I)I"⟩, 21) := ⟨⟨by decide +kernel, by decide +kernel⟩, List.mem_of_getElem? (i := 548) (by decide +kernel), List.mem_of_getElem? (i := 732) (by decide +kernel), List.mem_of_getElem? (i := 733) (by decide +kernel)⟩
theorem lw_p62 : lw_okq (⟨"HomeComputerModel", "put", "(II)V"⟩, 21) := ⟨⟨by decide +kernel, by decide +kernel⟩, List.mem_of_getElem? (i := 548) (by decide +kernel), List.mem_of_getElem? (i := 736) (by decide +kernel), List.mem_of_getElem? (i := 737) (by decide +kernel)⟩
theorem lw_p63 : lw_okq (⟨"HomeComputerModel", "get", "(I)I"⟩, 21) := ⟨⟨by decide +kernel, by decide +kernel⟩, List.mem_of_getElem? (i := 548) (by decide +kernel), List.mem_of_getElem? (i := 747) (by decide +kernel), List.mem_of_getElem? (i := 748) (by decide +kernel)⟩
def lw_privs_4 : List (MethodName × Nat) := [(⟨"HomeComputerModel", "push", "(I)V"⟩, 21), (⟨"HomeComputerModel", "write", "(II)V"⟩, 21), (⟨"HomeComputerModel", "reach", "(II)V"⟩, 21), (⟨"HomeComputerModel", "slow", "()V"⟩, 21), (⟨"HomeComputerModel", "two", "(I)I"⟩, 21), (⟨"HomeComputerModel", "read", "(I)I"⟩, 21), (⟨"HomeComputerModel", "fetch", "()I"⟩, 21), (⟨"HomeComputerModel", "more", "(I)V"⟩, 21), (⟨"HomeComputerModel", "move", "(IZ)V"⟩, 21), (⟨"HomeComputerModel", "pair", "(I)I"⟩, 21), (⟨"HomeComputerModel", "difference", "(IIII)I"⟩, 21), (⟨"HomeComputerModel", "sum", "(IIII)I"⟩, 21), (⟨"HomeComputerModel", "setPair", "(II)V"⟩, 21), (⟨"HomeComputerModel", "input", "(I)I"⟩, 21), (⟨"HomeComputerModel", "put", "(II)V"⟩, 21), (⟨"HomeComputerModel", "get", "(I)I"⟩, 21)]
theorem lw_r4 : ∀ q ∈ lw_privs_4, lw_okq q := List.forall_mem_cons.mpr ⟨lw_p48, List.forall_mem_cons.mpr ⟨lw_p49, List.forall_mem_cons.mpr ⟨lw_p50, List.forall_mem_cons.mpr ⟨lw_p51, List.forall_mem_cons.mpr ⟨lw_p52, List.forall_mem_cons.mpr ⟨lw_p53, List.forall_mem_cons.mpr ⟨lw_p54, List.forall_mem_cons.mpr ⟨lw_p55, List.forall_mem_cons.mpr ⟨lw_p56, List.forall_mem_cons.mpr ⟨lw_p57, List.forall_mem_cons.mpr ⟨lw_p58, List.forall_mem_cons.mpr ⟨lw_p59, List.forall_mem_cons.mpr ⟨lw_p60, List.forall_mem_cons.mpr ⟨lw_p61, List.forall_mem_cons.mpr ⟨lw_p62, List.forall_mem_cons.mpr ⟨lw_p63, fun _ h => absurd h List.not_mem_nil⟩⟩⟩⟩⟩⟩⟩⟩⟩⟩⟩⟩⟩⟩⟩⟩
theorem lw_p64 : lw_okq (⟨"HomeComputerModel", "output", "(II)V"⟩, 21) := ⟨⟨by decide +kernel, by decide +kernel⟩, List.mem_of_getElem? (i := 548) (by decide +kernel), List.mem_of_getElem? (i := 751) (by decide +kernel), List.mem_of_getElem? (i := 752) (by decide +kernel)⟩
theorem lw_p65 : lw_okq (⟨"HomeComputerModel", "w", "(I)I"⟩, 21) := ⟨⟨by decide +kernel, by decide +kernel⟩, List.mem_of_getElem? (i := 548) (by decide +kernel), List.mem_of_getElem? (i := 755) (by decide +kernel), List.mem_of_getElem? (i := 756) (by decide +kernel)⟩
theorem lw_p66 : lw_okq (⟨"HomeComputerModel", "main", "()I"⟩, 21) := ⟨⟨by decide +kernel, by decide +kernel⟩, List.mem_of_getElem? (i := 548) (by decide +kernel), List.mem_of_getElem? (i := 759) (by decide +kernel), List.mem_of_getElem? (i := 760) (by decide +kernel)⟩
theorem lw_p67 : lw_okq (⟨"HomeComputerModel", "rest", "(I)I"⟩, 21) := ⟨⟨by decide +kernel, by decide +kernel⟩, List.mem_of_getElem? (i := 548) (by decide +kernel), List.mem_of_getElem? (i := 763) (by decide +kernel), List.mem_of_getElem? (i := 764) (by decide +kernel)⟩
theorem lw_p68 : lw_okq (⟨"HomeComputerModel", "twoNext", "()I"⟩, 21) := ⟨⟨by decide +kernel, by decide +kernel⟩, List.mem_of_getElem? (i := 548) (by decide +kernel), List.mem_of_getElem? (i := 767) (by decide +kernel), List.mem_of_getElem? (i := 768) (by decide +kernel)⟩
theorem lw_p69 : lw_okq (⟨"HomeComputerModel", "next", "()I"⟩, 21) := ⟨⟨by decide +kernel, by decide +kernel⟩, List.mem_of_getElem? (i := 548) (by decide +kernel), List.mem_of_getElem? (i := 771) (by decide +kernel), List.mem_of_getElem? (i := 772) (by decide +kernel)⟩
theorem lw_p70 : lw_okq (⟨"HomeComputerModel", "setW", "(II)V"⟩, 21) := ⟨⟨by decide +kernel, by decide +kernel⟩, List.mem_of_getElem? (i := 548) (by decide +kernel), List.mem_of_getElem? (i := 775) (by decide +kernel), List.mem_of_getElem? (i := 776) (by decide +kernel)⟩
theorem lw_p71 : lw_okq (⟨"HomeComputerModel", "setMain", "(I)V"⟩, 21) := ⟨⟨by decide +kernel, by decide +kernel⟩, List.mem_of_getElem? (i := 548) (by decide +kernel), List.mem_of_getElem? (i := 779) (by decide +kernel), List.mem_of_getElem? (i := 780) (by decide +kernel)⟩
theorem lw_p72 : lw_okq (⟨"HomeComputerModel", "setTwo", "(II)V"⟩, 21) := ⟨⟨by decide +kernel, by decide +kernel⟩, List.mem_of_getElem? (i := 548) (by decide +kernel), List.mem_of_getElem? (i := 783) (by decide +kernel), List.mem_of_getElem? (i := 784) (by decide +kernel)⟩
theorem lw_p73 : lw_okq (⟨"HomeComputerModel", "work", "(II)V"⟩, 21) := ⟨⟨by decide +kernel, by decide +kernel⟩, List.mem_of_getElem? (i := 548) (by decide +kernel), List.mem_of_getElem? (i := 787) (by decide +kernel), List.mem_of_getElem? (i := 788) (by decide +kernel)⟩
theorem lw_p74 : lw_okq (⟨"HomeComputerModel", "pop", "()I"⟩, 21) := ⟨⟨by decide +kernel, by decide +kernel⟩, List.mem_of_getElem? (i := 548) (by decide +kernel), List.mem_of_getElem? (i := 791) (by decide +kernel), List.mem_of_getElem? (i := 792) (by decide +kernel)⟩
theorem lw_p75 : lw_okq (⟨"HomeComputerModel", "special", "(I)V"⟩, 21) := ⟨⟨by decide +kernel, by decide +kernel⟩, List.mem_of_getElem? (i := 548) (by decide +kernel), List.mem_of_getElem? (i := 795) (by decide +kernel), List.mem_of_getElem? (i := 796) (by decide +kernel)⟩
theorem lw_p76 : lw_okq (⟨"HomeComputerModel", "rotation", "()V"⟩, 21) := ⟨⟨by decide +kernel, by decide +kernel⟩, List.mem_of_getElem? (i := 548) (by decide +kernel), List.mem_of_getElem? (i := 799) (by decide +kernel), List.mem_of_getElem? (i := 800) (by decide +kernel)⟩
theorem lw_p77 : lw_okq (⟨"HomeComputerModel", "aim", "()V"⟩, 21) := ⟨⟨by decide +kernel, by decide +kernel⟩, List.mem_of_getElem? (i := 548) (by decide +kernel), List.mem_of_getElem? (i := 803) (by decide +kernel), List.mem_of_getElem? (i := 804) (by decide +kernel)⟩
theorem lw_p78 : lw_okq (⟨"HomeComputerModel", "bit", "(II)V"⟩, 21) := ⟨⟨by decide +kernel, by decide +kernel⟩, List.mem_of_getElem? (i := 548) (by decide +kernel), List.mem_of_getElem? (i := 810) (by decide +kernel), List.mem_of_getElem? (i := 811) (by decide +kernel)⟩
theorem lw_p79 : lw_okq (⟨"HomeComputerModel", "turned", "(II)I"⟩, 21) := ⟨⟨by decide +kernel, by decide +kernel⟩, List.mem_of_getElem? (i := 548) (by decide +kernel), List.mem_of_getElem? (i := 814) (by decide +kernel), List.mem_of_getElem? (i := 815) (by decide +kernel)⟩
def lw_privs_5 : List (MethodName × Nat) := [(⟨"HomeComputerModel", "output", "(II)V"⟩, 21), (⟨"HomeComputerModel", "w", "(I)I"⟩, 21), (⟨"HomeComputerModel", "main", "()I"⟩, 21), (⟨"HomeComputerModel", "rest", "(I)I"⟩, 21), (⟨"HomeComputerModel", "twoNext", "()I"⟩, 21), (⟨"HomeComputerModel", "next", "()I"⟩, 21), (⟨"HomeComputerModel", "setW", "(II)V"⟩, 21), (⟨"HomeComputerModel", "setMain", "(I)V"⟩, 21), (⟨"HomeComputerModel", "setTwo", "(II)V"⟩, 21), (⟨"HomeComputerModel", "work", "(II)V"⟩, 21), (⟨"HomeComputerModel", "pop", "()I"⟩, 21), (⟨"HomeComputerModel", "special", "(I)V"⟩, 21), (⟨"HomeComputerModel", "rotation", "()V"⟩, 21), (⟨"HomeComputerModel", "aim", "()V"⟩, 21), (⟨"HomeComputerModel", "bit", "(II)V"⟩, 21), (⟨"HomeComputerModel", "turned", "(II)I"⟩, 21)]
theorem lw_r5 : ∀ q ∈ lw_privs_5, lw_okq q := List.forall_mem_cons.mpr ⟨lw_p64, List.forall_mem_cons.mpr ⟨lw_p65, List.forall_mem_cons.mpr ⟨lw_p66, List.forall_mem_cons.mpr ⟨lw_p67, List.forall_mem_cons.mpr ⟨lw_p68, List.forall_mem_cons.mpr ⟨lw_p69, List.forall_mem_cons.mpr ⟨lw_p70, List.forall_mem_cons.mpr ⟨lw_p71, List.forall_mem_cons.mpr ⟨lw_p72, List.forall_mem_cons.mpr ⟨lw_p73, List.forall_mem_cons.mpr ⟨lw_p74, List.forall_mem_cons.mpr ⟨lw_p75, List.forall_mem_cons.mpr ⟨lw_p76, List.forall_mem_cons.mpr ⟨lw_p77, List.forall_mem_cons.mpr ⟨lw_p78, List.forall_mem_cons.mpr ⟨lw_p79, fun _ h => absurd h List.not_mem_nil⟩⟩⟩⟩⟩⟩⟩⟩⟩⟩⟩⟩⟩⟩⟩⟩
theorem lw_p80 : lw_okq (⟨"HomeComputerModel", "turn", "(II)I"⟩, 21) := ⟨⟨by decide +kernel, by decide +kernel⟩, List.mem_of_getElem? (i := 548) (by decide +kernel), List.mem_of_getElem? (i := 818) (by decide +kernel), List.mem_of_getElem? (i := 819) (by decide +kernel)⟩
theorem lw_p81 : lw_okq (⟨"HomeComputerModel", "perform", "(I)V"⟩, 21) := ⟨⟨by decide +kernel, by decide +kernel⟩, List.mem_of_getElem? (i := 548) (by decide +kernel), List.mem_of_getElem? (i := 822) (by decide +kernel), List.mem_of_getElem? (i := 823) (by decide +kernel)⟩
theorem lw_p82 : lw_okq (⟨"HomeComputerModel", "first", "(II)V"⟩, 21) := ⟨⟨by decide +kernel, by decide +kernel⟩, List.mem_of_getElem? (i := 548) (by decide +kernel), List.mem_of_getElem? (i := 826) (by decide +kernel), List.mem_of_getElem? (i := 827) (by decide +kernel)⟩
theorem lw_p83 : lw_okq (⟨"HomeComputerModel", "jump", "(I)V"⟩, 21) := ⟨⟨by decide +kernel, by decide +kernel⟩, List.mem_of_getElem? (i := 548) (by decide +kernel), List.mem_of_getElem? (i := 830) (by decide +kernel), List.mem_of_getElem? (i := 831) (by decide +kernel)⟩
theorem lw_p84 : lw_okq (⟨"HomeComputerModel", "change", "(II)V"⟩, 21) := ⟨⟨by decide +kernel, by decide +kernel⟩, List.mem_of_getElem? (i := 548) (by decide +kernel), List.mem_of_getElem? (i := 834) (by decide +kernel), List.mem_of_getElem? (i := 835) (by decide +kernel)⟩
theorem lw_p85 : lw_okq (⟨"HomeComputerModel", "cond", "(I)Z"⟩, 21) := ⟨⟨by decide +kernel, by decide +kernel⟩, List.mem_of_getElem? (i := 548) (by decide +kernel), List.mem_of_getElem? (i := 838) (by decide +kernel), List.mem_of_getElem? (i := 839) (by decide +kernel)⟩
theorem lw_p86 : lw_okq (⟨"HomeComputerModel", "add", "(I)V"⟩, 21) := ⟨⟨by decide +kernel, by decide +kernel⟩, List.mem_of_getElem? (i := 548) (by decide +kernel), List.mem_of_getElem? (i := 842) (by decide +kernel), List.mem_of_getElem? (i := 843) (by decide +kernel)⟩
theorem lw_p87 : lw_okq (⟨"HomeComputerModel", "store", "(IZ)V"⟩, 21) := ⟨⟨by decide +kernel, by decide +kernel⟩, List.mem_of_getElem? (i := 548) (by decide +kernel), List.mem_of_getElem? (i := 846) (by decide +kernel), List.mem_of_getElem? (i := 847) (by decide +kernel)⟩
theorem lw_p88 : lw_okq (⟨"HomeComputerModel", "single", "(I)V"⟩, 21) := ⟨⟨by decide +kernel, by decide +kernel⟩, List.mem_of_getElem? (i := 548) (by decide +kernel), List.mem_of_getElem? (i := 850) (by decide +kernel), List.mem_of_getElem? (i := 851) (by decide +kernel)⟩
theorem lw_p89 : lw_okq (⟨"HomeComputerModel", "adjust", "()V"⟩, 21) := ⟨⟨by decide +kernel, by decide +kernel⟩, List.mem_of_getElem? (i := 548) (by decide +kernel), List.mem_of_getElem? (i := 854) (by decide +kernel), List.mem_of_getElem? (i := 855) (by decide +kernel)⟩
theorem lw_p90 : lw_okq (⟨"HomeComputerModel", "step1", "(IZ)I"⟩, 21) := ⟨⟨by decide +kernel, by decide +kernel⟩, List.mem_of_getElem? (i := 548) (by decide +kernel), List.mem_of_getElem? (i := 858) (by decide +kernel), List.mem_of_getElem? (i := 859) (by decide +kernel)⟩
theorem lw_p91 : lw_okq (⟨"HomeComputerModel", "third", "(I)V"⟩, 21) := ⟨⟨by decide +kernel, by decide +kernel⟩, List.mem_of_getElem? (i := 548) (by decide +kernel), List.mem_of_getElem? (i := 862) (by decide +kernel), List.mem_of_getElem? (i := 863) (by decide +kernel)⟩
theorem lw_p92 : lw_okq (⟨"HomeComputerModel", "last", "(II)V"⟩, 21) := ⟨⟨by decide +kernel, by decide +kernel⟩, List.mem_of_getElem? (i := 548) (by decide +kernel), List.mem_of_getElem? (i := 866) (by decide +kernel), List.mem_of_getElem? (i := 867) (by decide +kernel)⟩
theorem lw_p93 : lw_okq (⟨"HomeComputerModel", "odd", "(I)V"⟩, 21) := ⟨⟨by decide +kernel, by decide +kernel⟩, List.mem_of_getElem? (i := 548) (by decide +kernel), List.mem_of_getElem? (i := 870) (by decide +kernel), List.mem_of_getElem? (i := 871) (by decide +kernel)⟩
def lw_privs_6 : List (MethodName × Nat) := [(⟨"HomeComputerModel", "turn", "(II)I"⟩, 21), (⟨"HomeComputerModel", "perform", "(I)V"⟩, 21), (⟨"HomeComputerModel", "first", "(II)V"⟩, 21), (⟨"HomeComputerModel", "jump", "(I)V"⟩, 21), (⟨"HomeComputerModel", "change", "(II)V"⟩, 21), (⟨"HomeComputerModel", "cond", "(I)Z"⟩, 21), (⟨"HomeComputerModel", "add", "(I)V"⟩, 21), (⟨"HomeComputerModel", "store", "(IZ)V"⟩, 21), (⟨"HomeComputerModel", "single", "(I)V"⟩, 21), (⟨"HomeComputerModel", "adjust", "()V"⟩, 21), (⟨"HomeComputerModel", "step1", "(IZ)I"⟩, 21), (⟨"HomeComputerModel", "third", "(I)V"⟩, 21), (⟨"HomeComputerModel", "last", "(II)V"⟩, 21), (⟨"HomeComputerModel", "odd", "(I)V"⟩, 21)]
theorem lw_r6 : ∀ q ∈ lw_privs_6, lw_okq q := List.forall_mem_cons.mpr ⟨lw_p80, List.forall_mem_cons.mpr ⟨lw_p81, List.forall_mem_cons.mpr ⟨lw_p82, List.forall_mem_cons.mpr ⟨lw_p83, List.forall_mem_cons.mpr ⟨lw_p84, List.forall_mem_cons.mpr ⟨lw_p85, List.forall_mem_cons.mpr ⟨lw_p86, List.forall_mem_cons.mpr ⟨lw_p87, List.forall_mem_cons.mpr ⟨lw_p88, List.forall_mem_cons.mpr ⟨lw_p89, List.forall_mem_cons.mpr ⟨lw_p90, List.forall_mem_cons.mpr ⟨lw_p91, List.forall_mem_cons.mpr ⟨lw_p92, List.forall_mem_cons.mpr ⟨lw_p93, fun _ h => absurd h List.not_mem_nil⟩⟩⟩⟩⟩⟩⟩⟩⟩⟩⟩⟩⟩⟩
def lw_privs : List (MethodName × Nat) := lw_privs_1 ++ (lw_privs_2 ++ (lw_privs_3 ++ (lw_privs_4 ++ (lw_privs_5 ++ (lw_privs_6)))))
def lw_tbl : List Cond := k2_sels lw_privs ++ tables_1
theorem lw_privs_ok : ∀ q ∈ lw_privs, lw_okq q := by
  show ∀ q ∈ lw_privs_1 ++ (lw_privs_2 ++ (lw_privs_3 ++ (lw_privs_4 ++ (lw_privs_5 ++ (lw_privs_6))))), lw_okq q
  exact List.forall_mem_append.mpr ⟨lw_r1, List.forall_mem_append.mpr ⟨lw_r2, List.forall_mem_append.mpr ⟨lw_r3, List.forall_mem_append.mpr ⟨lw_r4, List.forall_mem_append.mpr ⟨lw_r5, lw_r6⟩⟩⟩⟩⟩
end
section
/-! The X layer: the machine's walk against a pure function. A side's state is a function of two numbers (which array or
row of fields, which place); a method is a pure function to 'xR' (none: an index out of bounds, or no more turns of a loop:
nothing is claimed there). xJ: from this frame and state the method returns what F says. -/
abbrev xSt : Type := Nat → Nat → Int32
abbrev xR : Type := Option (Int32 × (Nat → Nat → Int32))
def xU (S : xSt) (q i : Nat) (v : Int32) : xSt := fun a => if a = q then upd (S q) i v else S a
def xB (o : xR) (k : Int32 → xSt → xR) : xR := match o with
  | none => none
  | some q => k q.1 q.2
def xRd (S : xSt) (q n : Nat) (i : Int32) (k : Int32 → xR) : xR := if (i < 0 ∨ n ≤ i.toNatClampNeg) then none else k (S q i.toNatClampNeg)
def xWr (S : xSt) (q n : Nat) (i v : Int32) (k : xSt → xR) : xR := if (i < 0 ∨ n ≤ i.toNatClampNeg) then none else k (xU S q i.toNatClampNeg v)
def xPu (S : xSt) (q i : Nat) (v : Int32) (k : xSt → xR) : xR := k (xU S q i v)
def xV (v : Int32) (k : Int32 → xR) : xR := k v
def xBo (v : Int32) (F : xR) : xR := if v = 0 ∨ v = 1 then F else none
def xUs (x y : Int32) : Int32 := (x.toUInt32 >>> (y.toUInt32 &&& Int32.toUInt32 31)).toInt32
def xNest (w : Cond) : Bool := match w with
  | .fieldLinkNest .. => true
  | .methodLinkNest .. => true
  | _ => false
theorem xNest_warm {w : Cond} {s U : State} (hw : xNest w = true) (hW : s.WarmedH U.vm) (h : va_Nw w s) : va_Nw w U := by
  cases w with
  | fieldLinkNest a b c d e f => exact va_Nw.warmF hW h
  | methodLinkNest a b c d => exact va_Nw.warmM hW h
  | _ => cases hw
theorem xNest_tab {w : Cond} (hw : xNest w = true) : w.onTables = true := by
  cases w with
  | fieldLinkNest a b c d e f => rfl
  | methodLinkNest a b c d => rfl
  | _ => cases hw
def xP (D : va_G) (cl : List vw_C) (tys : List (ClassId × FieldType)) (cells : xSt → va_W) (NW : List Cond) (av : List Value) (S : xSt) (sz : Nat) : Array Value → State → Prop :=
  va_Pc av (fun U => U.heap.size = sz ∧ va_P D cl (cells S) U.heap ∧ va_K D cl tys U ∧ va_D (fun _ => True) (cells S) ∧ ∀ w ∈ NW, xNest w = true ∧ va_Nw w U)
def xQ (D : va_G) (cl : List vw_C) (tys : List (ClassId × FieldType)) (cells : xSt → va_W) (A : Nat → Prop) (rt : Bool) (r : Int32) (u : xSt) : Array Value → State → Outcome → State → Prop := fun _ st oc t =>
  oc = .returned (cond rt (some (.int r)) none) ∧ va_P D cl (cells u) t.heap ∧ va_K D cl tys t ∧ va_D A (cells u) ∧ va_F A st t
def xM (l : Launch) (D : va_G) (cl : List vw_C) (tys : List (ClassId × FieldType)) (cells : xSt → va_W) (NW : List Cond) (y : MethodName) (ws : List Cond) (rm : Room) (rt : Bool) (av : List Value) (S : xSt) (f : xR) : Prop :=
  ∀ (r : Int32) (u : xSt), f = some (r, u) → ∀ sz : Nat, Met l y ws rm (xP D cl tys cells NW av S sz) (xQ D cl tys cells (va_A (cells S) sz) rt r u) 0 0 (va_A (cells S) sz)
def xC (p : Program) (s : State) (m : MethodId) (args : Array Value) (meth : Method) (c : Code) (cc : ByteArray) (nL : Nat) (Ts NW : List Cond) (own : String) (ret : Option FieldType) (D : va_G) (cl : List vw_C) (tys : List (ClassId × FieldType)) (A : Nat → Prop) : Prop :=
  p.tables.exec = Jvm.exec ∧ c.code = cc ∧ c.maxLocals = nL ∧ s.vm.findClass own = some m.cls ∧ (∀ w ∈ Ts, w.before args s = true) ∧ va_K D cl tys s ∧ meth.sig.returnType = ret ∧ meth.locks = false ∧ (∀ q : Nat, s.heap.size ≤ q → A q) ∧ ∀ w ∈ NW, xNest w = true ∧ va_Nw w s
def xJ (p : Program) (l : Launch) (e : Env) (R : Room) (s : State) (m : MethodId) (args : Array Value) (below : List Frame) (meth : Method) (c : Code) (D : va_G) (cl : List vw_C) (tys : List (ClassId × FieldType)) (cells : xSt → va_W) (A : Nat → Prop) (rt : Bool) (nL pc : Nat) (lv : List (Nat × Value)) (st : List Value) (S : xSt) (F : xR) : Prop :=
  ∀ (r : Int32) (u : xSt), F = some (r, u) → ∀ (ls : Array Slot) (H : Heap) (locs : List Loc), lv_has ls nL lv → va_P D cl (cells S) H → va_D A (cells S) → va_S A s.heap H locs →
    W p l e R s m args below meth c H locs 0 0 (MQ below (xQ D cl tys cells A rt r u) args s 0 0 A) (F0 m pc ls st)
/-- an object of the side at address b, its field k read as v -/
def xFg (cells : xSt → va_W) (cl : List vw_C) (Ts : List Cond) (b : Nat) (C : String) (T : u_T) (N k : Nat) (v : xSt → Value) : Prop :=
  (∀ w ∈ u_ws C T N, w ∈ Ts) ∧ k < N ∧ ∃ (q0 ci : Nat) (fs : xSt → List Value), cl[ci]? = some (C, T, N) ∧ ∀ S : xSt, (cells S)[q0]? = some (b, .inr (ci, fs S)) ∧ (fs S)[k]? = some (v S)
/-- the same, to be written: the side's place (q, i) -/
def xFp (cells : xSt → va_W) (cl : List vw_C) (Ts : List Cond) (b : Nat) (C : String) (T : u_T) (N k : Nat) (ty : FieldType) (q i : Nat) : Prop :=
  (∀ w ∈ u_ws C T N, w ∈ Ts) ∧ k < N ∧ (T k).2.2.2 = false ∧ parseFieldDescriptor (T k).2.2.1 = some ty ∧ (∃ ty0 : Nat → FieldType, ∀ k, k < N → parseFieldDescriptor (T k).2.2.1 = some (ty0 k)) ∧ (∀ a, a < N → ∀ b, b < N → a ≠ b → (T a).2.1 ≠ (T b).2.1) ∧
  ∃ (q0 ci : Nat) (fs : xSt → List Value), cl[ci]? = some (C, T, N) ∧ ∀ S : xSt, (cells S)[q0]? = some (b, .inr (ci, fs S)) ∧ k < (fs S).length ∧ ∀ v : Int32, cells (xU S q i v) = (cells S).set q0 (b, .inr (ci, (fs S).set k (.int v)))
/-- an array of the side -/
def xAr (cells : xSt → va_W) (tys : List (ClassId × FieldType)) (b : Nat) (ty : FieldType) (q n : Nat) : Prop :=
  ∃ (q0 t0 : Nat) (cA : ClassId), tys[t0]? = some (cA, ty) ∧ ∀ S : xSt, (cells S)[q0]? = some (b, .inl (cA, n, .inl (S q))) ∧ ∀ (i : Nat) (v : Int32), cells (xU S q i v) = (cells S).set q0 (b, .inl (cA, n, .inl (upd (S q) i v)))
/-- an object of the side, as a receiver -/
def xOb (cells : xSt → va_W) (cl : List vw_C) (b : Nat) (C : String) : Prop :=
  ∃ (q0 ci : Nat) (q : vw_C) (fs : xSt → List Value), cl[ci]? = some q ∧ q.1 = C ∧ ∀ S : xSt, (cells S)[q0]? = some (b, .inr (ci, fs S))
section XL
variable {p : Program} {l : Launch} {e : Env} {R : Room} {s : State} {m : MethodId} {args : Array Value} {below : List Frame} {meth : Method} {c : Code} {cc : ByteArray} {nL : Nat} {Ts NW : List Cond} {own : String} {ret : Option FieldType} {D : va_G} {cl : List vw_C} {tys : List (ClassId × FieldType)} {A : Nat → Prop} {cells : xSt → va_W} {rt : Bool} {pc nx : Nat} {lv lv' : List (Nat × Value)} {st rest : List Value} {S : xSt} {F F1 F2 : xR}

theorem x_eq {G : xR} (hq : F = G) (k : xJ p l e R s m args below meth c D cl tys cells A rt nL pc lv st S G) : xJ p l e R s m args below meth c D cl tys cells A rt nL pc lv st S F := by rw [hq]; exact k
theorem x_none : xJ p l e R s m args below meth c D cl tys cells A rt nL pc lv st S none := by intro r u hF; cases hF
theorem x_ite {q : Prop} [Decidable q] (k1 : q → xJ p l e R s m args below meth c D cl tys cells A rt nL pc lv st S F1) (k2 : ¬ q → xJ p l e R s m args below meth c D cl tys cells A rt nL pc lv st S F2) : xJ p l e R s m args below meth c D cl tys cells A rt nL pc lv st S (if q then F1 else F2) := by
  by_cases hq : q
  · rw [if_pos hq]; exact k1 hq
  · rw [if_neg hq]; exact k2 hq
theorem x_sub (ks : List Nat) (hk : lv_pick lv ks = lv') (k : xJ p l e R s m args below meth c D cl tys cells A rt nL pc lv' st S F) : xJ p l e R s m args below meth c D cl tys cells A rt nL pc lv st S F := fun r u hF ls H locs hl hP hD hS => k r u hF ls H locs (lv_sub hl ks hk) hP hD hS
theorem x_iconst (h : xC p s m args meth c cc nL Ts NW own ret D cl tys A) {n : Int} {v : Int32} (hdg : decode cc pc = .ok (.iconst n, 1)) (hv : Int32.ofInt n = v) (hn : pc + 1 = nx) (k : xJ p l e R s m args below meth c D cl tys cells A rt nL nx lv (.int v :: rest) S F) : xJ p l e R s m args below meth c D cl tys cells A rt nL pc lv rest S F := by
  intro r u hF ls H locs hl hP hD hS
  subst hn
  exact lv_iconst h.1 h.2.1 hdg hv (k r u hF ls H locs hl hP hD hS)
theorem x_bipush (h : xC p s m args meth c cc nL Ts NW own ret D cl tys A) {n : Int} {v : Int32} (hdg : decode cc pc = .ok (.bipush n, 2)) (hv : (Int8.ofInt n).toInt32 = v) (hn : pc + 2 = nx) (k : xJ p l e R s m args below meth c D cl tys cells A rt nL nx lv (.int v :: rest) S F) : xJ p l e R s m args below meth c D cl tys cells A rt nL pc lv rest S F := by
  intro r u hF ls H locs hl hP hD hS
  subst hn
  exact lv_bipush h.1 h.2.1 hdg hv (k r u hF ls H locs hl hP hD hS)
theorem x_sipush (h : xC p s m args meth c cc nL Ts NW own ret D cl tys A) {n : Int} {v : Int32} (hdg : decode cc pc = .ok (.sipush n, 3)) (hv : (Int16.ofInt n).toInt32 = v) (hn : pc + 3 = nx) (k : xJ p l e R s m args below meth c D cl tys cells A rt nL nx lv (.int v :: rest) S F) : xJ p l e R s m args below meth c D cl tys cells A rt nL pc lv rest S F := by
  intro r u hF ls H locs hl hP hD hS
  subst hn
  exact lv_sipush h.1 h.2.1 hdg hv (k r u hF ls H locs hl hP hD hS)
theorem x_iadd (h : xC p s m args meth c cc nL Ts NW own ret D cl tys A) {x y : Int32} (hdg : decode cc pc = .ok (.iadd, 1)) (hn : pc + 1 = nx) (k : xJ p l e R s m args below meth c D cl tys cells A rt nL nx lv (.int (x + y) :: rest) S F) : xJ p l e R s m args below meth c D cl tys cells A rt nL pc lv (.int y :: .int x :: rest) S F := by
  intro r u hF ls H locs hl hP hD hS
  subst hn
  exact lv_iadd h.1 h.2.1 hdg (k r u hF ls H locs hl hP hD hS)
theorem x_isub (h : xC p s m args meth c cc nL Ts NW own ret D cl tys A) {x y : Int32} (hdg : decode cc pc = .ok (.isub, 1)) (hn : pc + 1 = nx) (k : xJ p l e R s m args below meth c D cl tys cells A rt nL nx lv (.int (x - y) :: rest) S F) : xJ p l e R s m args below meth c D cl tys cells A rt nL pc lv (.int y :: .int x :: rest) S F := by
  intro r u hF ls H locs hl hP hD hS
  subst hn
  exact lv_isub h.1 h.2.1 hdg (k r u hF ls H locs hl hP hD hS)
theorem x_imul (h : xC p s m args meth c cc nL Ts NW own ret D cl tys A) {x y : Int32} (hdg : decode cc pc = .ok (.imul, 1)) (hn : pc + 1 = nx) (k : xJ p l e R s m args below meth c D cl tys cells A rt nL nx lv (.int (x * y) :: rest) S F) : xJ p l e R s m args below meth c D cl tys cells A rt nL pc lv (.int y :: .int x :: rest) S F := by
  intro r u hF ls H locs hl hP hD hS
  subst hn
  exact lv_imul h.1 h.2.1 hdg (k r u hF ls H locs hl hP hD hS)
theorem x_iand (h : xC p s m args meth c cc nL Ts NW own ret D cl tys A) {x y : Int32} (hdg : decode cc pc = .ok (.iand, 1)) (hn : pc + 1 = nx) (k : xJ p l e R s m args below meth c D cl tys cells A rt nL nx lv (.int (x &&& y) :: rest) S F) : xJ p l e R s m args below meth c D cl tys cells A rt nL pc lv (.int y :: .int x :: rest) S F := by
  intro r u hF ls H locs hl hP hD hS
  subst hn
  exact lv_iand h.1 h.2.1 hdg (k r u hF ls H locs hl hP hD hS)
theorem x_ior (h : xC p s m args meth c cc nL Ts NW own ret D cl tys A) {x y : Int32} (hdg : decode cc pc = .ok (.ior, 1)) (hn : pc + 1 = nx) (k : xJ p l e R s m args below meth c D cl tys cells A rt nL nx lv (.int (x ||| y) :: rest) S F) : xJ p l e R s m args below meth c D cl tys cells A rt nL pc lv (.int y :: .int x :: rest) S F := by
  intro r u hF ls H locs hl hP hD hS
  subst hn
  exact lv_ior h.1 h.2.1 hdg (k r u hF ls H locs hl hP hD hS)
theorem x_ixor (h : xC p s m args meth c cc nL Ts NW own ret D cl tys A) {x y : Int32} (hdg : decode cc pc = .ok (.ixor, 1)) (hn : pc + 1 = nx) (k : xJ p l e R s m args below meth c D cl tys cells A rt nL nx lv (.int (x ^^^ y) :: rest) S F) : xJ p l e R s m args below meth c D cl tys cells A rt nL pc lv (.int y :: .int x :: rest) S F := by
  intro r u hF ls H locs hl hP hD hS
  subst hn
  exact lv_ixor h.1 h.2.1 hdg (k r u hF ls H locs hl hP hD hS)
theorem x_ishl (h : xC p s m args meth c cc nL Ts NW own ret D cl tys A) {x y : Int32} (hdg : decode cc pc = .ok (.ishl, 1)) (hn : pc + 1 = nx) (k : xJ p l e R s m args below meth c D cl tys cells A rt nL nx lv (.int (x <<< (y &&& 31)) :: rest) S F) : xJ p l e R s m args below meth c D cl tys cells A rt nL pc lv (.int y :: .int x :: rest) S F := by
  intro r u hF ls H locs hl hP hD hS
  subst hn
  exact lv_ishl h.1 h.2.1 hdg (k r u hF ls H locs hl hP hD hS)
theorem x_ishr (h : xC p s m args meth c cc nL Ts NW own ret D cl tys A) {x y : Int32} (hdg : decode cc pc = .ok (.ishr, 1)) (hn : pc + 1 = nx) (k : xJ p l e R s m args below meth c D cl tys cells A rt nL nx lv (.int (x >>> (y &&& 31)) :: rest) S F) : xJ p l e R s m args below meth c D cl tys cells A rt nL pc lv (.int y :: .int x :: rest) S F := by
  intro r u hF ls H locs hl hP hD hS
  subst hn
  exact lv_ishr h.1 h.2.1 hdg (k r u hF ls H locs hl hP hD hS)
theorem x_idiv (h : xC p s m args meth c cc nL Ts NW own ret D cl tys A) {x y : Int32} (hdg : decode cc pc = .ok (.idiv, 1)) (hne : ¬ y = 0) (hn : pc + 1 = nx) (k : xJ p l e R s m args below meth c D cl tys cells A rt nL nx lv (.int (x / y) :: rest) S F) : xJ p l e R s m args below meth c D cl tys cells A rt nL pc lv (.int y :: .int x :: rest) S F := by
  intro r u hF ls H locs hl hP hD hS
  subst hn
  exact lv_idiv h.1 h.2.1 hdg hne (k r u hF ls H locs hl hP hD hS)
theorem x_irem (h : xC p s m args meth c cc nL Ts NW own ret D cl tys A) {x y : Int32} (hdg : decode cc pc = .ok (.irem, 1)) (hne : ¬ y = 0) (hn : pc + 1 = nx) (k : xJ p l e R s m args below meth c D cl tys cells A rt nL nx lv (.int (x - x / y * y) :: rest) S F) : xJ p l e R s m args below meth c D cl tys cells A rt nL pc lv (.int y :: .int x :: rest) S F := by
  intro r u hF ls H locs hl hP hD hS
  subst hn
  exact lv_irem h.1 h.2.1 hdg hne (k r u hF ls H locs hl hP hD hS)
theorem x_iushr (h : xC p s m args meth c cc nL Ts NW own ret D cl tys A) {x y : Int32} (hdg : decode cc pc = .ok (.iushr, 1)) (hn : pc + 1 = nx) (k : xJ p l e R s m args below meth c D cl tys cells A rt nL nx lv (.int (xUs x y) :: rest) S F) : xJ p l e R s m args below meth c D cl tys cells A rt nL pc lv (.int y :: .int x :: rest) S F := by
  intro r u hF ls H locs hl hP hD hS
  subst hn
  exact lv_iushr h.1 h.2.1 hdg rfl (k r u hF ls H locs hl hP hD hS)
theorem x_ineg (h : xC p s m args meth c cc nL Ts NW own ret D cl tys A) {x : Int32} (hdg : decode cc pc = .ok (.ineg, 1)) (hn : pc + 1 = nx) (k : xJ p l e R s m args below meth c D cl tys cells A rt nL nx lv (.int (-x) :: rest) S F) : xJ p l e R s m args below meth c D cl tys cells A rt nL pc lv (.int x :: rest) S F := by
  intro r u hF ls H locs hl hP hD hS
  subst hn
  exact lv_ineg h.1 h.2.1 hdg (k r u hF ls H locs hl hP hD hS)
theorem x_i2b (h : xC p s m args meth c cc nL Ts NW own ret D cl tys A) {x : Int32} (hdg : decode cc pc = .ok (.i2b, 1)) (hn : pc + 1 = nx) (k : xJ p l e R s m args below meth c D cl tys cells A rt nL nx lv (.int x.toInt8.toInt32 :: rest) S F) : xJ p l e R s m args below meth c D cl tys cells A rt nL pc lv (.int x :: rest) S F := by
  intro r u hF ls H locs hl hP hD hS
  subst hn
  exact lv_i2b h.1 h.2.1 hdg rfl (k r u hF ls H locs hl hP hD hS)
theorem x_dup (h : xC p s m args meth c cc nL Ts NW own ret D cl tys A) {va : Value} (hdg : decode cc pc = .ok (.dup, 1)) (hva : va.category = 1) (hn : pc + 1 = nx) (k : xJ p l e R s m args below meth c D cl tys cells A rt nL nx lv (va :: va :: rest) S F) : xJ p l e R s m args below meth c D cl tys cells A rt nL pc lv (va :: rest) S F := by
  intro r u hF ls H locs hl hP hD hS
  subst hn
  exact lv_dup h.1 h.2.1 hdg hva (k r u hF ls H locs hl hP hD hS)
theorem x_pop (h : xC p s m args meth c cc nL Ts NW own ret D cl tys A) {va : Value} (hdg : decode cc pc = .ok (.pop, 1)) (hva : va.category = 1) (hn : pc + 1 = nx) (k : xJ p l e R s m args below meth c D cl tys cells A rt nL nx lv rest S F) : xJ p l e R s m args below meth c D cl tys cells A rt nL pc lv (va :: rest) S F := by
  intro r u hF ls H locs hl hP hD hS
  subst hn
  exact lv_pop h.1 h.2.1 hdg hva (k r u hF ls H locs hl hP hD hS)
theorem x_dup_x1 (h : xC p s m args meth c cc nL Ts NW own ret D cl tys A) {va vb : Value} (hdg : decode cc pc = .ok (.dup_x1, 1)) (hva : va.category = 1) (hvb : vb.category = 1) (hn : pc + 1 = nx) (k : xJ p l e R s m args below meth c D cl tys cells A rt nL nx lv (va :: vb :: va :: rest) S F) : xJ p l e R s m args below meth c D cl tys cells A rt nL pc lv (va :: vb :: rest) S F := by
  intro r u hF ls H locs hl hP hD hS
  subst hn
  exact lv_dup_x1 h.1 h.2.1 hdg hva hvb (k r u hF ls H locs hl hP hD hS)
theorem x_dup_x2 (h : xC p s m args meth c cc nL Ts NW own ret D cl tys A) {va vb vd : Value} (hdg : decode cc pc = .ok (.dup_x2, 1)) (hva : va.category = 1) (hvb : vb.category = 1) (hvd : vd.category = 1) (hn : pc + 1 = nx) (k : xJ p l e R s m args below meth c D cl tys cells A rt nL nx lv (va :: vb :: vd :: va :: rest) S F) : xJ p l e R s m args below meth c D cl tys cells A rt nL pc lv (va :: vb :: vd :: rest) S F := by
  intro r u hF ls H locs hl hP hD hS
  subst hn
  exact lv_dup_x2 h.1 h.2.1 hdg hva hvb hvd (k r u hF ls H locs hl hP hD hS)
theorem x_dup2 (h : xC p s m args meth c cc nL Ts NW own ret D cl tys A) {va vb : Value} (hdg : decode cc pc = .ok (.dup2, 1)) (hva : va.category = 1) (hvb : vb.category = 1) (hn : pc + 1 = nx) (k : xJ p l e R s m args below meth c D cl tys cells A rt nL nx lv (va :: vb :: va :: vb :: rest) S F) : xJ p l e R s m args below meth c D cl tys cells A rt nL pc lv (va :: vb :: rest) S F := by
  intro r u hF ls H locs hl hP hD hS
  subst hn
  exact lv_dup2_11 h.1 h.2.1 hdg hva hvb (k r u hF ls H locs hl hP hD hS)
theorem x_iload_n (h : xC p s m args meth c cc nL Ts NW own ret D cl tys A) {k0 : Fin 4} {i : Nat} {x : Int32} (hdg : decode cc pc = .ok (.iload_n k0, 1)) (hi : (k0 : Nat) = i) (j : Nat) (hj : lv[j]? = some (i, .int x)) (hn : pc + 1 = nx) (k : xJ p l e R s m args below meth c D cl tys cells A rt nL nx lv (.int x :: rest) S F) : xJ p l e R s m args below meth c D cl tys cells A rt nL pc lv rest S F := by
  intro r u hF ls H locs hl hP hD hS
  subst hn
  exact lv_iload_n h.1 h.2.1 hdg hi (lv_at hl j hj) (k r u hF ls H locs hl hP hD hS)
theorem x_iload (h : xC p s m args meth c cc nL Ts NW own ret D cl tys A) {i : Nat} {x : Int32} (hdg : decode cc pc = .ok (.iload i, 2)) (j : Nat) (hj : lv[j]? = some (i, .int x)) (hn : pc + 2 = nx) (k : xJ p l e R s m args below meth c D cl tys cells A rt nL nx lv (.int x :: rest) S F) : xJ p l e R s m args below meth c D cl tys cells A rt nL pc lv rest S F := by
  intro r u hF ls H locs hl hP hD hS
  subst hn
  exact lv_iload h.1 h.2.1 hdg (lv_at hl j hj) (k r u hF ls H locs hl hP hD hS)
theorem x_aload_n (h : xC p s m args meth c cc nL Ts NW own ret D cl tys A) {k0 : Fin 4} {i : Nat} {x : Nat} (hdg : decode cc pc = .ok (.aload_n k0, 1)) (hi : (k0 : Nat) = i) (j : Nat) (hj : lv[j]? = some (i, .ref x)) (hn : pc + 1 = nx) (k : xJ p l e R s m args below meth c D cl tys cells A rt nL nx lv (.ref x :: rest) S F) : xJ p l e R s m args below meth c D cl tys cells A rt nL pc lv rest S F := by
  intro r u hF ls H locs hl hP hD hS
  subst hn
  exact lv_aload_n h.1 h.2.1 hdg hi (lv_at hl j hj) (k r u hF ls H locs hl hP hD hS)
theorem x_aload (h : xC p s m args meth c cc nL Ts NW own ret D cl tys A) {i : Nat} {x : Nat} (hdg : decode cc pc = .ok (.aload i, 2)) (j : Nat) (hj : lv[j]? = some (i, .ref x)) (hn : pc + 2 = nx) (k : xJ p l e R s m args below meth c D cl tys cells A rt nL nx lv (.ref x :: rest) S F) : xJ p l e R s m args below meth c D cl tys cells A rt nL pc lv rest S F := by
  intro r u hF ls H locs hl hP hD hS
  subst hn
  exact lv_aload h.1 h.2.1 hdg (lv_at hl j hj) (k r u hF ls H locs hl hP hD hS)
theorem x_istore_n (h : xC p s m args meth c cc nL Ts NW own ret D cl tys A) {k0 : Fin 4} {i : Nat} {x : Int32} (hdg : decode cc pc = .ok (.istore_n k0, 1)) (hi : (k0 : Nat) = i) (hN : i < nL) (hl' : (i, Value.int x) :: lv.filter (fun q => !(q.1 == i) && !(q.1 + 1 == i && q.2.category == 2)) = lv') (hn : pc + 1 = nx) (k : xJ p l e R s m args below meth c D cl tys cells A rt nL nx lv' rest S F) : xJ p l e R s m args below meth c D cl tys cells A rt nL pc lv (.int x :: rest) S F := by
  intro r u hF ls H locs hl hP hD hS
  subst hn
  exact lv_istore_n h.1 h.2.1 hdg hi hl hN hl' (fun ls2 hl2 => k r u hF ls2 H locs hl2 hP hD hS)
theorem x_istore (h : xC p s m args meth c cc nL Ts NW own ret D cl tys A) {i : Nat} {x : Int32} (hdg : decode cc pc = .ok (.istore i, 2)) (hN : i < nL) (hl' : (i, Value.int x) :: lv.filter (fun q => !(q.1 == i) && !(q.1 + 1 == i && q.2.category == 2)) = lv') (hn : pc + 2 = nx) (k : xJ p l e R s m args below meth c D cl tys cells A rt nL nx lv' rest S F) : xJ p l e R s m args below meth c D cl tys cells A rt nL pc lv (.int x :: rest) S F := by
  intro r u hF ls H locs hl hP hD hS
  subst hn
  exact lv_istore h.1 h.2.1 hdg hl hN hl' (fun ls2 hl2 => k r u hF ls2 H locs hl2 hP hD hS)
theorem x_iinc (h : xC p s m args meth c cc nL Ts NW own ret D cl tys A) {i : Nat} {n : Int} {x v : Int32} (hdg : decode cc pc = .ok (.iinc i n, 3)) (j : Nat) (hj : lv[j]? = some (i, .int x)) (hv : x + Int32.ofInt n = v) (hN : i < nL) (hl' : (i, Value.int v) :: lv.filter (fun q => !(q.1 == i) && !(q.1 + 1 == i && q.2.category == 2)) = lv') (hn : pc + 3 = nx) (k : xJ p l e R s m args below meth c D cl tys cells A rt nL nx lv' rest S F) : xJ p l e R s m args below meth c D cl tys cells A rt nL pc lv rest S F := by
  intro r u hF ls H locs hl hP hD hS
  subst hn
  exact lv_iinc h.1 h.2.1 hdg hl hj hv hN hl' (fun ls2 hl2 => k r u hF ls2 H locs hl2 hP hD hS)
theorem x_ldc (h : xC p s m args meth c cc nL Ts NW own ret D cl tys A) {index : Nat} {v : Int32} (hc : Cond.constant own index v ∈ Ts) (hdg : decode cc pc = .ok (.ldc index, 2)) (hn : pc + 2 = nx) (k : xJ p l e R s m args below meth c D cl tys cells A rt nL nx lv (.int v :: rest) S F) : xJ p l e R s m args below meth c D cl tys cells A rt nL pc lv rest S F := by
  intro r u hF ls H locs hl hP hD hS
  subst hn
  exact lv_ldc h.1 h.2.1 h.2.2.2.1 (h.2.2.2.2.1 _ hc) hdg (k r u hF ls H locs hl hP hD hS)
theorem x_ldc_w (h : xC p s m args meth c cc nL Ts NW own ret D cl tys A) {index : Nat} {v : Int32} (hc : Cond.constant own index v ∈ Ts) (hdg : decode cc pc = .ok (.ldc_w index, 3)) (hn : pc + 3 = nx) (k : xJ p l e R s m args below meth c D cl tys cells A rt nL nx lv (.int v :: rest) S F) : xJ p l e R s m args below meth c D cl tys cells A rt nL pc lv rest S F := by
  intro r u hF ls H locs hl hP hD hS
  subst hn
  exact lv_ldcw h.1 h.2.1 h.2.2.2.1 (h.2.2.2.2.1 _ hc) hdg (k r u hF ls H locs hl hP hD hS)
theorem x_goto (h : xC p s m args meth c cc nL Ts NW own ret D cl tys A) {off : Int} {tgt : Nat} (hdg : decode cc pc = .ok (.goto off, 3)) (ht : (pc : Int) + off = (tgt : Int)) (k : xJ p l e R s m args below meth c D cl tys cells A rt nL tgt lv st S F) : xJ p l e R s m args below meth c D cl tys cells A rt nL pc lv st S F := by
  intro r u hF ls H locs hl hP hD hS
  exact lv_goto h.1 h.2.1 hdg ht (k r u hF ls H locs hl hP hD hS)
theorem x_if_eq (h : xC p s m args meth c cc nL Ts NW own ret D cl tys A) {x : Int32} {off : Int} {tgt : Nat} (hdg : decode cc pc = .ok (.ifCond .eq off, 3)) (ht : (pc : Int) + off = (tgt : Int)) (hn : pc + 3 = nx) (k1 : xJ p l e R s m args below meth c D cl tys cells A rt nL tgt lv rest S F1) (k2 : xJ p l e R s m args below meth c D cl tys cells A rt nL nx lv rest S F2) : xJ p l e R s m args below meth c D cl tys cells A rt nL pc lv (.int x :: rest) S (if x = 0 then F1 else F2) := by
  intro r u hF ls H locs hl hP hD hS
  subst hn
  refine lv_if_eq h.1 h.2.1 hdg ht (fun hq => ?_) (fun hq => ?_)
  · rw [if_pos hq] at hF; exact k1 r u hF ls H locs hl hP hD hS
  · rw [if_neg hq] at hF; exact k2 r u hF ls H locs hl hP hD hS
theorem x_if_ne (h : xC p s m args meth c cc nL Ts NW own ret D cl tys A) {x : Int32} {off : Int} {tgt : Nat} (hdg : decode cc pc = .ok (.ifCond .ne off, 3)) (ht : (pc : Int) + off = (tgt : Int)) (hn : pc + 3 = nx) (k1 : xJ p l e R s m args below meth c D cl tys cells A rt nL tgt lv rest S F2) (k2 : xJ p l e R s m args below meth c D cl tys cells A rt nL nx lv rest S F1) : xJ p l e R s m args below meth c D cl tys cells A rt nL pc lv (.int x :: rest) S (if x = 0 then F1 else F2) := by
  intro r u hF ls H locs hl hP hD hS
  subst hn
  refine lv_if_ne h.1 h.2.1 hdg ht (fun hq => ?_) (fun hq => ?_)
  · rw [if_neg hq] at hF; exact k1 r u hF ls H locs hl hP hD hS
  · rw [if_pos hq] at hF; exact k2 r u hF ls H locs hl hP hD hS
theorem x_if_lt (h : xC p s m args meth c cc nL Ts NW own ret D cl tys A) {x : Int32} {off : Int} {tgt : Nat} (hdg : decode cc pc = .ok (.ifCond .lt off, 3)) (ht : (pc : Int) + off = (tgt : Int)) (hn : pc + 3 = nx) (k1 : xJ p l e R s m args below meth c D cl tys cells A rt nL tgt lv rest S F1) (k2 : xJ p l e R s m args below meth c D cl tys cells A rt nL nx lv rest S F2) : xJ p l e R s m args below meth c D cl tys cells A rt nL pc lv (.int x :: rest) S (if x < 0 then F1 else F2) := by
  intro r u hF ls H locs hl hP hD hS
  subst hn
  refine lv_if_lt h.1 h.2.1 hdg ht (fun hq => ?_) (fun hq => ?_)
  · rw [if_pos hq] at hF; exact k1 r u hF ls H locs hl hP hD hS
  · rw [if_neg hq] at hF; exact k2 r u hF ls H locs hl hP hD hS
theorem x_if_ge (h : xC p s m args meth c cc nL Ts NW own ret D cl tys A) {x : Int32} {off : Int} {tgt : Nat} (hdg : decode cc pc = .ok (.ifCond .ge off, 3)) (ht : (pc : Int) + off = (tgt : Int)) (hn : pc + 3 = nx) (k1 : xJ p l e R s m args below meth c D cl tys cells A rt nL tgt lv rest S F2) (k2 : xJ p l e R s m args below meth c D cl tys cells A rt nL nx lv rest S F1) : xJ p l e R s m args below meth c D cl tys cells A rt nL pc lv (.int x :: rest) S (if x < 0 then F1 else F2) := by
  intro r u hF ls H locs hl hP hD hS
  subst hn
  refine lv_if_ge h.1 h.2.1 hdg ht (fun hq => ?_) (fun hq => ?_)
  · rw [if_neg (Int32.not_lt.mpr hq)] at hF; exact k1 r u hF ls H locs hl hP hD hS
  · rw [if_pos (Int32.not_le.mp hq)] at hF; exact k2 r u hF ls H locs hl hP hD hS
theorem x_if_gt (h : xC p s m args meth c cc nL Ts NW own ret D cl tys A) {x : Int32} {off : Int} {tgt : Nat} (hdg : decode cc pc = .ok (.ifCond .gt off, 3)) (ht : (pc : Int) + off = (tgt : Int)) (hn : pc + 3 = nx) (k1 : xJ p l e R s m args below meth c D cl tys cells A rt nL tgt lv rest S F1) (k2 : xJ p l e R s m args below meth c D cl tys cells A rt nL nx lv rest S F2) : xJ p l e R s m args below meth c D cl tys cells A rt nL pc lv (.int x :: rest) S (if 0 < x then F1 else F2) := by
  intro r u hF ls H locs hl hP hD hS
  subst hn
  refine lv_if_gt h.1 h.2.1 hdg ht (fun hq => ?_) (fun hq => ?_)
  · rw [if_pos hq] at hF; exact k1 r u hF ls H locs hl hP hD hS
  · rw [if_neg hq] at hF; exact k2 r u hF ls H locs hl hP hD hS
theorem x_if_le (h : xC p s m args meth c cc nL Ts NW own ret D cl tys A) {x : Int32} {off : Int} {tgt : Nat} (hdg : decode cc pc = .ok (.ifCond .le off, 3)) (ht : (pc : Int) + off = (tgt : Int)) (hn : pc + 3 = nx) (k1 : xJ p l e R s m args below meth c D cl tys cells A rt nL tgt lv rest S F2) (k2 : xJ p l e R s m args below meth c D cl tys cells A rt nL nx lv rest S F1) : xJ p l e R s m args below meth c D cl tys cells A rt nL pc lv (.int x :: rest) S (if 0 < x then F1 else F2) := by
  intro r u hF ls H locs hl hP hD hS
  subst hn
  refine lv_if_le h.1 h.2.1 hdg ht (fun hq => ?_) (fun hq => ?_)
  · rw [if_neg (Int32.not_lt.mpr hq)] at hF; exact k1 r u hF ls H locs hl hP hD hS
  · rw [if_pos (Int32.not_le.mp hq)] at hF; exact k2 r u hF ls H locs hl hP hD hS
theorem x_icmp_eq (h : xC p s m args meth c cc nL Ts NW own ret D cl tys A) {x y : Int32} {off : Int} {tgt : Nat} (hdg : decode cc pc = .ok (.if_icmp .eq off, 3)) (ht : (pc : Int) + off = (tgt : Int)) (hn : pc + 3 = nx) (k1 : xJ p l e R s m args below meth c D cl tys cells A rt nL tgt lv rest S F1) (k2 : xJ p l e R s m args below meth c D cl tys cells A rt nL nx lv rest S F2) : xJ p l e R s m args below meth c D cl tys cells A rt nL pc lv (.int y :: .int x :: rest) S (if x = y then F1 else F2) := by
  intro r u hF ls H locs hl hP hD hS
  subst hn
  refine lv_icmp_eq h.1 h.2.1 hdg ht (fun hq => ?_) (fun hq => ?_)
  · rw [if_pos hq] at hF; exact k1 r u hF ls H locs hl hP hD hS
  · rw [if_neg hq] at hF; exact k2 r u hF ls H locs hl hP hD hS
theorem x_icmp_ne (h : xC p s m args meth c cc nL Ts NW own ret D cl tys A) {x y : Int32} {off : Int} {tgt : Nat} (hdg : decode cc pc = .ok (.if_icmp .ne off, 3)) (ht : (pc : Int) + off = (tgt : Int)) (hn : pc + 3 = nx) (k1 : xJ p l e R s m args below meth c D cl tys cells A rt nL tgt lv rest S F2) (k2 : xJ p l e R s m args below meth c D cl tys cells A rt nL nx lv rest S F1) : xJ p l e R s m args below meth c D cl tys cells A rt nL pc lv (.int y :: .int x :: rest) S (if x = y then F1 else F2) := by
  intro r u hF ls H locs hl hP hD hS
  subst hn
  refine lv_icmp_ne h.1 h.2.1 hdg ht (fun hq => ?_) (fun hq => ?_)
  · rw [if_neg hq] at hF; exact k1 r u hF ls H locs hl hP hD hS
  · rw [if_pos hq] at hF; exact k2 r u hF ls H locs hl hP hD hS
theorem x_icmp_lt (h : xC p s m args meth c cc nL Ts NW own ret D cl tys A) {x y : Int32} {off : Int} {tgt : Nat} (hdg : decode cc pc = .ok (.if_icmp .lt off, 3)) (ht : (pc : Int) + off = (tgt : Int)) (hn : pc + 3 = nx) (k1 : xJ p l e R s m args below meth c D cl tys cells A rt nL tgt lv rest S F1) (k2 : xJ p l e R s m args below meth c D cl tys cells A rt nL nx lv rest S F2) : xJ p l e R s m args below meth c D cl tys cells A rt nL pc lv (.int y :: .int x :: rest) S (if x < y then F1 else F2) := by
  intro r u hF ls H locs hl hP hD hS
  subst hn
  refine lv_icmp_lt h.1 h.2.1 hdg ht (fun hq => ?_) (fun hq => ?_)
  · rw [if_pos hq] at hF; exact k1 r u hF ls H locs hl hP hD hS
  · rw [if_neg hq] at hF; exact k2 r u hF ls H locs hl hP hD hS
theorem x_icmp_ge (h : xC p s m args meth c cc nL Ts NW own ret D cl tys A) {x y : Int32} {off : Int} {tgt : Nat} (hdg : decode cc pc = .ok (.if_icmp .ge off, 3)) (ht : (pc : Int) + off = (tgt : Int)) (hn : pc + 3 = nx) (k1 : xJ p l e R s m args below meth c D cl tys cells A rt nL tgt lv rest S F2) (k2 : xJ p l e R s m args below meth c D cl tys cells A rt nL nx lv rest S F1) : xJ p l e R s m args below meth c D cl tys cells A rt nL pc lv (.int y :: .int x :: rest) S (if x < y then F1 else F2) := by
  intro r u hF ls H locs hl hP hD hS
  subst hn
  refine lv_icmp_ge h.1 h.2.1 hdg ht (fun hq => ?_) (fun hq => ?_)
  · rw [if_neg (Int32.not_lt.mpr hq)] at hF; exact k1 r u hF ls H locs hl hP hD hS
  · rw [if_pos (Int32.not_le.mp hq)] at hF; exact k2 r u hF ls H locs hl hP hD hS
theorem x_icmp_gt (h : xC p s m args meth c cc nL Ts NW own ret D cl tys A) {x y : Int32} {off : Int} {tgt : Nat} (hdg : decode cc pc = .ok (.if_icmp .gt off, 3)) (ht : (pc : Int) + off = (tgt : Int)) (hn : pc + 3 = nx) (k1 : xJ p l e R s m args below meth c D cl tys cells A rt nL tgt lv rest S F1) (k2 : xJ p l e R s m args below meth c D cl tys cells A rt nL nx lv rest S F2) : xJ p l e R s m args below meth c D cl tys cells A rt nL pc lv (.int y :: .int x :: rest) S (if y < x then F1 else F2) := by
  intro r u hF ls H locs hl hP hD hS
  subst hn
  refine lv_icmp_gt h.1 h.2.1 hdg ht (fun hq => ?_) (fun hq => ?_)
  · rw [if_pos hq] at hF; exact k1 r u hF ls H locs hl hP hD hS
  · rw [if_neg hq] at hF; exact k2 r u hF ls H locs hl hP hD hS
theorem x_icmp_le (h : xC p s m args meth c cc nL Ts NW own ret D cl tys A) {x y : Int32} {off : Int} {tgt : Nat} (hdg : decode cc pc = .ok (.if_icmp .le off, 3)) (ht : (pc : Int) + off = (tgt : Int)) (hn : pc + 3 = nx) (k1 : xJ p l e R s m args below meth c D cl tys cells A rt nL tgt lv rest S F2) (k2 : xJ p l e R s m args below meth c D cl tys cells A rt nL nx lv rest S F1) : xJ p l e R s m args below meth c D cl tys cells A rt nL pc lv (.int y :: .int x :: rest) S (if y < x then F1 else F2) := by
  intro r u hF ls H locs hl hP hD hS
  subst hn
  refine lv_icmp_le h.1 h.2.1 hdg ht (fun hq => ?_) (fun hq => ?_)
  · rw [if_neg (Int32.not_lt.mpr hq)] at hF; exact k1 r u hF ls H locs hl hP hD hS
  · rw [if_pos (Int32.not_le.mp hq)] at hF; exact k2 r u hF ls H locs hl hP hD hS
theorem x_tabOut (h : xC p s m args meth c cc nL Ts NW own ret D cl tys A) {dflt lo hi : Int} {offs : Array Int} {len : Nat} {x : Int32} {tgt : Nat} (hdg : decode cc pc = .ok (.tableswitch dflt lo hi offs, len)) (hx : x.toInt < lo ∨ hi < x.toInt) (ht : (pc : Int) + dflt = (tgt : Int)) (k : xJ p l e R s m args below meth c D cl tys cells A rt nL tgt lv rest S F) : xJ p l e R s m args below meth c D cl tys cells A rt nL pc lv (.int x :: rest) S F := by
  intro r u hF ls H locs hl hP hD hS
  exact lv_tableOut h.1 h.2.1 hdg hx ht (k r u hF ls H locs hl hP hD hS)
theorem x_tabIn (h : xC p s m args meth c cc nL Ts NW own ret D cl tys A) {dflt lo hi : Int} {offs : Array Int} {len : Nat} {x : Int32} {off : Int} {tgt : Nat} (hdg : decode cc pc = .ok (.tableswitch dflt lo hi offs, len)) (h1 : ¬ x.toInt < lo) (h2 : ¬ hi < x.toInt) (ho : offs[(x.toInt - lo).toNat]? = some off) (ht : (pc : Int) + off = (tgt : Int)) (k : xJ p l e R s m args below meth c D cl tys cells A rt nL tgt lv rest S F) : xJ p l e R s m args below meth c D cl tys cells A rt nL pc lv (.int x :: rest) S F := by
  intro r u hF ls H locs hl hP hD hS
  exact lv_tableIn h.1 h.2.1 hdg h1 h2 ho ht (k r u hF ls H locs hl hP hD hS)
theorem x_lookup (h : xC p s m args meth c cc nL Ts NW own ret D cl tys A) {dflt : Int} {ps : Array (Int × Int)} {len : Nat} {x : Int32} {off : Int} {tgt : Nat} (hdg : decode cc pc = .ok (.lookupswitch dflt ps, len)) (hp : (ps.toList.zip (ps.toList.drop 1)).all (fun (a, next) => a.1 < next.1) = true) (ho : Op.lookupswitch.offset ps.toList dflt x.toInt = off) (ht : (pc : Int) + off = (tgt : Int)) (k : xJ p l e R s m args below meth c D cl tys cells A rt nL tgt lv rest S F) : xJ p l e R s m args below meth c D cl tys cells A rt nL pc lv (.int x :: rest) S F := by
  intro r u hF ls H locs hl hP hD hS
  exact lv_lookup h.1 h.2.1 hdg hp ho ht (k r u hF ls H locs hl hP hD hS)
theorem x_set {x v : Int32} (hx : x = v) (k : xJ p l e R s m args below meth c D cl tys cells A rt nL pc lv (.int v :: rest) S F) : xJ p l e R s m args below meth c D cl tys cells A rt nL pc lv (.int x :: rest) S F := by subst hx; exact k
theorem x_get (h : xC p s m args meth c cc nL Ts NW own ret D cl tys A) {b N q index : Nat} {C : String} {T : u_T} {v : xSt → Value} (hg : xFg cells cl Ts b C T N q v) (hw : Cond.fieldLink own index (T q).1 (T q).2.1 (T q).2.2.1 ∈ Ts) (hdg : decode cc pc = .ok (.getfield index, 3)) (hn : pc + 3 = nx) (k : xJ p l e R s m args below meth c D cl tys cells A rt nL nx lv (v S :: rest) S F) : xJ p l e R s m args below meth c D cl tys cells A rt nL pc lv (.ref b :: rest) S F := by
  intro r u hF ls H locs hl hP hD hS
  subst hn
  obtain ⟨hin, hk, q0, ci, fs, hc, hall⟩ := hg
  exact va_get h.1 h.2.1 h.2.2.2.2.1 hin h.2.2.2.1 h.2.2.2.2.2.1 hP q0 (hall S).1 hc q hk (h.2.2.2.2.1 _ hw) (fun _ z => z) (hall S).2 hdg (k r u hF ls H locs hl hP hD hS)
theorem x_put (h : xC p s m args meth c cc nL Ts NW own ret D cl tys A) {b N kk q i index : Nat} {C : String} {T : u_T} {v : Int32} {K : xSt → xR} (hg : xFp cells cl Ts b C T N kk .int q i) (hw : Cond.fieldLink own index (T kk).1 (T kk).2.1 (T kk).2.2.1 ∈ Ts) (hdg : decode cc pc = .ok (.putfield index, 3)) (hn : pc + 3 = nx) (k : ∀ S1 : xSt, xJ p l e R s m args below meth c D cl tys cells A rt nL nx lv rest S1 (K S1)) : xJ p l e R s m args below meth c D cl tys cells A rt nL pc lv (.int v :: .ref b :: rest) S (xPu S q i v K) := by
  intro r u hF ls H locs hl hP hD hS
  subst hn
  obtain ⟨hin, hk, hfin, hd, ⟨ty0, hty⟩, hnm, q0, ci, fs, hc, hall⟩ := hg
  obtain ⟨he, hlen, hset⟩ := hall S
  refine va_put h.1 h.2.1 h.2.2.2.2.1 hin ty0 hty hnm h.2.2.2.1 h.2.2.2.2.2.1 hP hD hS q0 he hc kk hk (h.2.2.2.2.1 _ hw) (fun _ z => z) hfin hd rfl rfl hlen hdg (fun H1 locs1 hP1 hD1 hS1 => ?_)
  rw [← hset v] at hP1 hD1
  exact k (xU S q i v) r u hF ls H1 locs1 hl hP1 hD1 hS1
theorem x_putZ (h : xC p s m args meth c cc nL Ts NW own ret D cl tys A) {b N kk q i index : Nat} {C : String} {T : u_T} {v : Int32} {K : xSt → xR} (hg : xFp cells cl Ts b C T N kk .boolean q i) (hw : Cond.fieldLink own index (T kk).1 (T kk).2.1 (T kk).2.2.1 ∈ Ts) (hdg : decode cc pc = .ok (.putfield index, 3)) (hn : pc + 3 = nx) (k : ∀ S1 : xSt, xJ p l e R s m args below meth c D cl tys cells A rt nL nx lv rest S1 (K S1)) : xJ p l e R s m args below meth c D cl tys cells A rt nL pc lv (.int v :: .ref b :: rest) S (xBo v (xPu S q i v K)) := by
  intro r u hF ls H locs hl hP hD hS
  subst hn
  obtain ⟨hin, hk, hfin, hd, ⟨ty0, hty⟩, hnm, q0, ci, fs, hc, hall⟩ := hg
  obtain ⟨he, hlen, hset⟩ := hall S
  unfold xBo at hF
  by_cases hv : v = 0 ∨ v = 1
  · rw [if_pos hv] at hF
    refine va_put (ty := .boolean) h.1 h.2.1 h.2.2.2.2.1 hin ty0 hty hnm h.2.2.2.1 h.2.2.2.2.2.1 hP hD hS q0 he hc kk hk (h.2.2.2.2.1 _ hw) (fun _ z => z) hfin hd (by rcases hv with rfl | rfl <;> rfl) (by rcases hv with rfl | rfl <;> rfl) hlen hdg (fun H1 locs1 hP1 hD1 hS1 => ?_)
    rw [← hset v] at hP1 hD1
    exact k (xU S q i v) r u hF ls H1 locs1 hl hP1 hD1 hS1
  · rw [if_neg hv] at hF; cases hF
theorem x_getN (h : xC p s m args meth c cc nL Ts NW own ret D cl tys A) {b N q index : Nat} {C : String} {T : u_T} {v : xSt → Value} {host : String} (hg : xFg cells cl Ts b C T N q v) (hw : Cond.fieldLinkNest own index (T q).1 (T q).2.1 (T q).2.2.1 host ∈ NW) (hdg : decode cc pc = .ok (.getfield index, 3)) (hn : pc + 3 = nx) (k : xJ p l e R s m args below meth c D cl tys cells A rt nL nx lv (v S :: rest) S F) : xJ p l e R s m args below meth c D cl tys cells A rt nL pc lv (.ref b :: rest) S F := by
  intro r u hF ls H locs hl hP hD hS
  subst hn
  obtain ⟨hin, hk, q0, ci, fs, hc, hall⟩ := hg
  exact va_getN h.1 h.2.1 h.2.2.2.2.1 hin h.2.2.2.1 h.2.2.2.2.2.1 hP q0 (hall S).1 hc q hk (va_Nw.use rfl (h.2.2.2.2.2.2.2.2.2 _ hw).2) (fun _ z => z) (hall S).2 hdg (k r u hF ls H locs hl hP hD hS)
theorem x_putN (h : xC p s m args meth c cc nL Ts NW own ret D cl tys A) {b N kk q i index : Nat} {C : String} {T : u_T} {v : Int32} {K : xSt → xR} {host : String} (hg : xFp cells cl Ts b C T N kk .int q i) (hw : Cond.fieldLinkNest own index (T kk).1 (T kk).2.1 (T kk).2.2.1 host ∈ NW) (hdg : decode cc pc = .ok (.putfield index, 3)) (hn : pc + 3 = nx) (k : ∀ S1 : xSt, xJ p l e R s m args below meth c D cl tys cells A rt nL nx lv rest S1 (K S1)) : xJ p l e R s m args below meth c D cl tys cells A rt nL pc lv (.int v :: .ref b :: rest) S (xPu S q i v K) := by
  intro r u hF ls H locs hl hP hD hS
  subst hn
  obtain ⟨hin, hk, hfin, hd, ⟨ty0, hty⟩, hnm, q0, ci, fs, hc, hall⟩ := hg
  obtain ⟨he, hlen, hset⟩ := hall S
  refine va_putN h.1 h.2.1 h.2.2.2.2.1 hin ty0 hty hnm h.2.2.2.1 h.2.2.2.2.2.1 hP hD hS q0 he hc kk hk (va_Nw.use rfl (h.2.2.2.2.2.2.2.2.2 _ hw).2) (fun _ z => z) hfin hd rfl rfl hlen hdg (fun H1 locs1 hP1 hD1 hS1 => ?_)
  rw [← hset v] at hP1 hD1
  exact k (xU S q i v) r u hF ls H1 locs1 hl hP1 hD1 hS1
theorem x_putZN (h : xC p s m args meth c cc nL Ts NW own ret D cl tys A) {b N kk q i index : Nat} {C : String} {T : u_T} {v : Int32} {K : xSt → xR} {host : String} (hg : xFp cells cl Ts b C T N kk .boolean q i) (hw : Cond.fieldLinkNest own index (T kk).1 (T kk).2.1 (T kk).2.2.1 host ∈ NW) (hdg : decode cc pc = .ok (.putfield index, 3)) (hn : pc + 3 = nx) (k : ∀ S1 : xSt, xJ p l e R s m args below meth c D cl tys cells A rt nL nx lv rest S1 (K S1)) : xJ p l e R s m args below meth c D cl tys cells A rt nL pc lv (.int v :: .ref b :: rest) S (xBo v (xPu S q i v K)) := by
  intro r u hF ls H locs hl hP hD hS
  subst hn
  obtain ⟨hin, hk, hfin, hd, ⟨ty0, hty⟩, hnm, q0, ci, fs, hc, hall⟩ := hg
  obtain ⟨he, hlen, hset⟩ := hall S
  unfold xBo at hF
  by_cases hv : v = 0 ∨ v = 1
  · rw [if_pos hv] at hF
    refine va_putN (ty := .boolean) h.1 h.2.1 h.2.2.2.2.1 hin ty0 hty hnm h.2.2.2.1 h.2.2.2.2.2.1 hP hD hS q0 he hc kk hk (va_Nw.use rfl (h.2.2.2.2.2.2.2.2.2 _ hw).2) (fun _ z => z) hfin hd (by rcases hv with rfl | rfl <;> rfl) (by rcases hv with rfl | rfl <;> rfl) hlen hdg (fun H1 locs1 hP1 hD1 hS1 => ?_)
    rw [← hset v] at hP1 hD1
    exact k (xU S q i v) r u hF ls H1 locs1 hl hP1 hD1 hS1
  · rw [if_neg hv] at hF; cases hF
theorem x_iald (h : xC p s m args meth c cc nL Ts NW own ret D cl tys A) {b q n : Nat} {i : Int32} {K : Int32 → xR} (ha : xAr cells tys b .int q n) (hdg : decode cc pc = .ok (.iaload, 1)) (hn : pc + 1 = nx) (k : ∀ v : Int32, xJ p l e R s m args below meth c D cl tys cells A rt nL nx lv (.int v :: rest) S (K v)) : xJ p l e R s m args below meth c D cl tys cells A rt nL pc lv (.int i :: .ref b :: rest) S (xRd S q n i K) := by
  intro r u hF ls H locs hl hP hD hS
  subst hn
  obtain ⟨q0, t0, cA, ht, hall⟩ := ha
  unfold xRd at hF
  by_cases hi : i < 0 ∨ n ≤ i.toNatClampNeg
  · rw [if_pos hi] at hF; cases hF
  · rw [if_neg hi] at hF
    exact va_iald h.1 h.2.1 h.2.2.2.2.2.1 hP q0 t0 (hall S).1 ht hi hdg (k _ r u hF ls H locs hl hP hD hS)
theorem x_zald (h : xC p s m args meth c cc nL Ts NW own ret D cl tys A) {b q n : Nat} {i : Int32} {K : Int32 → xR} (ha : xAr cells tys b .boolean q n) (hdg : decode cc pc = .ok (.baload, 1)) (hn : pc + 1 = nx) (k : ∀ v : Int32, xJ p l e R s m args below meth c D cl tys cells A rt nL nx lv (.int v :: rest) S (K v)) : xJ p l e R s m args below meth c D cl tys cells A rt nL pc lv (.int i :: .ref b :: rest) S (xRd S q n i K) := by
  intro r u hF ls H locs hl hP hD hS
  subst hn
  obtain ⟨q0, t0, cA, ht, hall⟩ := ha
  unfold xRd at hF
  by_cases hi : i < 0 ∨ n ≤ i.toNatClampNeg
  · rw [if_pos hi] at hF; cases hF
  · rw [if_neg hi] at hF
    exact va_zald h.1 h.2.1 h.2.2.2.2.2.1 hP q0 t0 (hall S).1 ht hi hdg (k _ r u hF ls H locs hl hP hD hS)
theorem x_iast (h : xC p s m args meth c cc nL Ts NW own ret D cl tys A) {b q n : Nat} {i v : Int32} {K : xSt → xR} (ha : xAr cells tys b .int q n) (hdg : decode cc pc = .ok (.iastore, 1)) (hn : pc + 1 = nx) (k : ∀ S1 : xSt, xJ p l e R s m args below meth c D cl tys cells A rt nL nx lv rest S1 (K S1)) : xJ p l e R s m args below meth c D cl tys cells A rt nL pc lv (.int v :: .int i :: .ref b :: rest) S (xWr S q n i v K) := by
  intro r u hF ls H locs hl hP hD hS
  subst hn
  obtain ⟨q0, t0, cA, ht, hall⟩ := ha
  obtain ⟨he, hset⟩ := hall S
  unfold xWr at hF
  by_cases hi : i < 0 ∨ n ≤ i.toNatClampNeg
  · rw [if_pos hi] at hF; cases hF
  · rw [if_neg hi] at hF
    refine va_iast h.1 h.2.1 h.2.2.2.2.2.1 hP hD hS q0 t0 he ht hi hdg (fun H1 locs1 hP1 hD1 hS1 => ?_)
    rw [← hset] at hP1 hD1
    exact k _ r u hF ls H1 locs1 hl hP1 hD1 hS1
theorem x_zast (h : xC p s m args meth c cc nL Ts NW own ret D cl tys A) {b q n : Nat} {i v : Int32} {K : xSt → xR} (ha : xAr cells tys b .boolean q n) (hdg : decode cc pc = .ok (.bastore, 1)) (hn : pc + 1 = nx) (k : ∀ S1 : xSt, xJ p l e R s m args below meth c D cl tys cells A rt nL nx lv rest S1 (K S1)) : xJ p l e R s m args below meth c D cl tys cells A rt nL pc lv (.int v :: .int i :: .ref b :: rest) S (xBo v (xWr S q n i v K)) := by
  intro r u hF ls H locs hl hP hD hS
  subst hn
  obtain ⟨q0, t0, cA, ht, hall⟩ := ha
  obtain ⟨he, hset⟩ := hall S
  unfold xBo at hF
  by_cases hv : v = 0 ∨ v = 1
  · rw [if_pos hv] at hF
    unfold xWr at hF
    by_cases hi : i < 0 ∨ n ≤ i.toNatClampNeg
    · rw [if_pos hi] at hF; cases hF
    · rw [if_neg hi] at hF
      have hvn : vp_nar .boolean v = v := by rcases hv with rfl | rfl <;> rfl
      refine va_zast h.1 h.2.1 h.2.2.2.2.2.1 hP hD hS q0 t0 he ht hi hdg (fun H1 locs1 hP1 hD1 hS1 => ?_)
      rw [hvn, ← hset] at hP1 hD1
      exact k _ r u hF ls H1 locs1 hl hP1 hD1 hS1
  · rw [if_neg hv] at hF; cases hF
theorem x_val {v : Int32} {K : Int32 → xR} (k : ∀ a : Int32, xJ p l e R s m args below meth c D cl tys cells A rt nL pc lv (.int a :: rest) S (K a)) : xJ p l e R s m args below meth c D cl tys cells A rt nL pc lv (.int v :: rest) S (xV v K) := k v
theorem x_iret (h : xC p s m args meth c cc nL Ts NW own (some .int) D cl tys A) {v : Int32} (hdg : decode cc pc = .ok (.ireturn, 1)) : xJ p l e R s m args below meth c D cl tys cells A true nL pc lv [.int v] S (some (v, S)) := by
  intro r u hF ls H locs hl hP hD hS
  cases hF
  exact W.iret h.1 h.2.1 h.2.2.2.2.2.2.1 (fun t ht hW => ⟨rfl, by rw [ht]; exact hP, va_K.moved hW.alike h.2.2.2.2.2.1, hD, hS.F ht⟩) hS.2.2 hdg h.2.2.2.2.2.2.2.1
theorem x_zret (h : xC p s m args meth c cc nL Ts NW own (some .boolean) D cl tys A) {v : Int32} (hdg : decode cc pc = .ok (.ireturn, 1)) : xJ p l e R s m args below meth c D cl tys cells A true nL pc lv [.int v] S (xBo v (some (v, S))) := by
  intro r u hF ls H locs hl hP hD hS
  unfold xBo at hF
  by_cases hv : v = 0 ∨ v = 1
  · rw [if_pos hv] at hF
    cases hF
    exact W.zret h.1 h.2.1 h.2.2.2.2.2.2.1 (by rcases hv with rfl | rfl <;> rfl) (fun t ht hW => ⟨rfl, by rw [ht]; exact hP, va_K.moved hW.alike h.2.2.2.2.2.1, hD, hS.F ht⟩) hS.2.2 hdg h.2.2.2.2.2.2.2.1
  · rw [if_neg hv] at hF; cases hF
theorem x_vret (h : xC p s m args meth c cc nL Ts NW own none D cl tys A) (hdg : decode cc pc = .ok (.return_, 1)) : xJ p l e R s m args below meth c D cl tys cells A false nL pc lv [] S (some (0, S)) := by
  intro r u hF ls H locs hl hP hD hS
  cases hF
  exact W.vret h.1 h.2.1 h.2.2.2.2.2.2.1 (fun t ht hW => ⟨rfl, by rw [ht]; exact hP, va_K.moved hW.alike h.2.2.2.2.2.1, hD, hS.F ht⟩) hS.2.2 hdg h.2.2.2.2.2.2.2.1
theorem x_mmax (h : xC p s m args meth c cc nL Ts NW own ret D cl tys A) {index : Nat} {x y : Int32} (hw1 : Cond.methodLink own index Lib.Math.max.name ∈ Ts) (hw2 : Cond.static Lib.Math.max.name ∈ Ts) (hw3 : Cond.initialized "java/lang/Math" ∈ Ts) (hw4 : Cond.code Lib.Math.max.name Lib.Math.max.code 2 (some .int) ∈ Ts) (hf : 1 ≤ R.frames) (hlo : (rest.map fun v => v.category).sum + 13 ≤ R.locals) (hdg : decode cc pc = .ok (.invokestatic index, 3)) (hn : pc + 3 = nx) (k : xJ p l e R s m args below meth c D cl tys cells A rt nL nx lv (.int (if x < y then y else x) :: rest) S F) : xJ p l e R s m args below meth c D cl tys cells A rt nL pc lv (.int y :: .int x :: rest) S F := by
  intro r u hF ls H locs hl hP hD hS
  subst hn
  exact va_mmax h.1 h.2.1 (h.2.2.1.trans hl.1.symm) h.2.2.2.1 (h.2.2.2.2.1 _ hw1) (h.2.2.2.2.1 _ hw2) (h.2.2.2.2.1 _ hw3) (h.2.2.2.2.1 _ hw4) hf hlo (Nat.zero_le _) (Nat.zero_le _) hdg (k r u hF ls H locs hl hP hD hS)
theorem x_blind {av : List Value} {sz : Nat} : FrameBlind (xP D cl tys cells NW av S sz) := fun a U g mk q => by
  obtain ⟨q0, q1, qP, qK, qD, qN⟩ := q
  exact ⟨q0, q1, qP, va_K.moved (u := U) (U := U.calling g mk a) (Vm.Alike.refl U.vm) qK, qD, fun w hw => ⟨(qN w hw).1, va_Nw.same (u := U) (U := U.calling g mk a) (xNest_tab (qN w hw).1) rfl (qN w hw).2⟩⟩
theorem x_back (h : xC p s m args meth c cc nL Ts NW own ret D cl tys A) {rt2 : Bool} {f : xR} {K : Int32 → xSt → xR} {a : Array Value}
    (hr : ∀ (r : Int32) (u : xSt), f = some (r, u) → ∀ (ls : Array Slot) (H : Heap) (locs : List Loc), lv_has ls nL lv → va_P D cl (cells S) H → va_D A (cells S) → va_S A s.heap H locs → va_Run p l e R s m args below meth c H locs 0 0 0 0 (F0 m pc ls st) rest (xQ D cl tys cells (va_A (cells S) H.size) rt2 r u a) (va_A (cells S) H.size))
    (hn : pc + 3 = nx) (k : ∀ (r : Int32) (u : xSt), xJ p l e R s m args below meth c D cl tys cells A rt nL nx lv ((cond rt2 (some (Value.int r)) none).toList ++ rest) u (K r u)) : xJ p l e R s m args below meth c D cl tys cells A rt nL pc lv st S (xB f K) := by
  intro r u hF ls H locs hl hP hD hS
  subst hn
  cases hf : f with
  | none => rw [hf] at hF; cases hF
  | some q =>
    obtain ⟨r1, u1⟩ := q
    rw [hf] at hF
    have hA1 : ∀ q, va_A (cells S) H.size q → A q := va_free (wc := cells S) hD hS h.2.2.2.2.2.2.2.2.1 (List.range (cells S).length) (by
      apply List.ext_getElem?
      intro i
      by_cases hi : i < (cells S).length
      · simp [hi]
      · simp [hi])
    intro T hT X
    obtain ⟨v, st₀, t, T', L, h0, X', hL, e1, e2, hq, go⟩ := hr r1 u1 hf ls H locs hl hP hD hS T hT X
    obtain ⟨hv, hP1, hK1, hD1, hz, hkp⟩ := hq
    have hv := Outcome.returned.inj hv
    subst hv
    rw [h0] at hz hkp
    obtain ⟨t2, a1, b1⟩ := k r1 u1 r u hF ls T'.heap (locs ++ L) hl (by rw [e1]; exact hP1) (hD1.weaken (fun _ q _ z => hA1 q.1 z))
      ⟨Nat.le_trans hS.1 (by rw [e1]; exact hz), fun q h1 h2 => by rw [e1, hkp q (Nat.lt_of_lt_of_le h1 hS.1) (fun z => h2 (hA1 q z))]; exact hS.2.1 q h1 h2, fun q hq => by
        rcases List.mem_append.mp hq with z | z
        · exact hS.2.2 q z
        · exact hA1 _ (hL q z)⟩ T' rfl X'
    exact ⟨t2, go t2 a1, b1⟩
theorem x_cVNi (h : xC p s m args meth c cc nL Ts NW own ret D cl tys A) {y : MethodName} {bytes : ByteArray} {maxL n index : Nat} {ret2 : Option FieldType} {ws : List Cond} {rm : Room} {As : List Value} {f : xR} {K : Int32 → xSt → xR} {host : String} {b : Nat} {C : String} (hM : xM l D cl tys cells NW y ws rm true (.ref b :: As) S f) (cw : va_CN R s args own index y host bytes maxL ret2 ws rm 0 0 n ∧ (Cond.instanceMethod y).before args s = true ∧ (Cond.selects C y y).before args s = true) (ho : xOb cells cl b C) (hN : As.length = n) (hst : st = As.reverse ++ .ref b :: rest) (hW : (rest.map fun v => v.category).sum ≤ 8) (hdg : decode cc pc = .ok (.invokevirtual index, 3)) (hn : pc + 3 = nx) (k : ∀ (r : Int32) (u : xSt), xJ p l e R s m args below meth c D cl tys cells A rt nL nx lv (.int r :: rest) u (K r u)) : xJ p l e R s m args below meth c D cl tys cells A rt nL pc lv st S (xB f K) := by
  obtain ⟨q0, ci, q, fs, hc, hq, hall⟩ := ho
  subst hq
  refine x_back (rest := rest) (rt2 := true) (a := (Value.ref b :: As).toArray) h (fun r u hf ls H locs hl hP hD hS => ?_) hn k
  exact va_runVN (As := As) ⟨h.1, h.2.1, h.2.2.1, h.2.2.2.1, h.2.2.2.2.1⟩ (hM r u hf H.size) cw ⟨x_blind, va_recv h.2.2.2.2.2.1 hP hc (hall S), fun U hU hW => ⟨rfl, by rw [hU], by rw [hU]; exact hP, va_K.moved hW.alike h.2.2.2.2.2.1, hD.weaken (fun _ _ _ _ => trivial), fun w hw => ⟨(h.2.2.2.2.2.2.2.2.2 w hw).1, xNest_warm (h.2.2.2.2.2.2.2.2.2 w hw).1 hW (h.2.2.2.2.2.2.2.2.2 w hw).2⟩⟩⟩ rfl hN hl.1 hst (lv_room hW) hdg ⟨Nat.zero_le _, Nat.zero_le _⟩
theorem x_cVNv (h : xC p s m args meth c cc nL Ts NW own ret D cl tys A) {y : MethodName} {bytes : ByteArray} {maxL n index : Nat} {ret2 : Option FieldType} {ws : List Cond} {rm : Room} {As : List Value} {f : xR} {K : Int32 → xSt → xR} {host : String} {b : Nat} {C : String} (hM : xM l D cl tys cells NW y ws rm false (.ref b :: As) S f) (cw : va_CN R s args own index y host bytes maxL ret2 ws rm 0 0 n ∧ (Cond.instanceMethod y).before args s = true ∧ (Cond.selects C y y).before args s = true) (ho : xOb cells cl b C) (hN : As.length = n) (hst : st = As.reverse ++ .ref b :: rest) (hW : (rest.map fun v => v.category).sum ≤ 8) (hdg : decode cc pc = .ok (.invokevirtual index, 3)) (hn : pc + 3 = nx) (k : ∀ (r : Int32) (u : xSt), xJ p l e R s m args below meth c D cl tys cells A rt nL nx lv rest u (K r u)) : xJ p l e R s m args below meth c D cl tys cells A rt nL pc lv st S (xB f K) := by
  obtain ⟨q0, ci, q, fs, hc, hq, hall⟩ := ho
  subst hq
  refine x_back (rest := rest) (rt2 := false) (a := (Value.ref b :: As).toArray) h (fun r u hf ls H locs hl hP hD hS => ?_) hn k
  exact va_runVN (As := As) ⟨h.1, h.2.1, h.2.2.1, h.2.2.2.1, h.2.2.2.2.1⟩ (hM r u hf H.size) cw ⟨x_blind, va_recv h.2.2.2.2.2.1 hP hc (hall S), fun U hU hW => ⟨rfl, by rw [hU], by rw [hU]; exact hP, va_K.moved hW.alike h.2.2.2.2.2.1, hD.weaken (fun _ _ _ _ => trivial), fun w hw => ⟨(h.2.2.2.2.2.2.2.2.2 w hw).1, xNest_warm (h.2.2.2.2.2.2.2.2.2 w hw).1 hW (h.2.2.2.2.2.2.2.2.2 w hw).2⟩⟩⟩ rfl hN hl.1 hst (lv_room hW) hdg ⟨Nat.zero_le _, Nat.zero_le _⟩
theorem x_cVi (h : xC p s m args meth c cc nL Ts NW own ret D cl tys A) {y : MethodName} {bytes : ByteArray} {maxL n index : Nat} {ret2 : Option FieldType} {ws : List Cond} {rm : Room} {As : List Value} {f : xR} {K : Int32 → xSt → xR} {b : Nat} {C : String} (hM : xM l D cl tys cells NW y ws rm true (.ref b :: As) S f) (cw : CallW R s args own C index y bytes maxL ret2 ws rm 0 0 n) (ho : xOb cells cl b C) (hN : As.length = n) (hst : st = As.reverse ++ .ref b :: rest) (hW : (rest.map fun v => v.category).sum ≤ 8) (hdg : decode cc pc = .ok (.invokevirtual index, 3)) (hn : pc + 3 = nx) (k : ∀ (r : Int32) (u : xSt), xJ p l e R s m args below meth c D cl tys cells A rt nL nx lv (.int r :: rest) u (K r u)) : xJ p l e R s m args below meth c D cl tys cells A rt nL pc lv st S (xB f K) := by
  obtain ⟨q0, ci, q, fs, hc, hq, hall⟩ := ho
  subst hq
  refine x_back (rest := rest) (rt2 := true) (a := (Value.ref b :: As).toArray) h (fun r u hf ls H locs hl hP hD hS => ?_) hn k
  exact va_runV (As := As) ⟨h.1, h.2.1, h.2.2.1, h.2.2.2.1, h.2.2.2.2.1⟩ (hM r u hf H.size) cw ⟨x_blind, va_recv h.2.2.2.2.2.1 hP hc (hall S), fun U hU hW => ⟨rfl, by rw [hU], by rw [hU]; exact hP, va_K.moved hW.alike h.2.2.2.2.2.1, hD.weaken (fun _ _ _ _ => trivial), fun w hw => ⟨(h.2.2.2.2.2.2.2.2.2 w hw).1, xNest_warm (h.2.2.2.2.2.2.2.2.2 w hw).1 hW (h.2.2.2.2.2.2.2.2.2 w hw).2⟩⟩⟩ rfl hN hl.1 hst (lv_room hW) hdg ⟨Nat.zero_le _, Nat.zero_le _⟩
theorem x_cVv (h : xC p s m args meth c cc nL Ts NW own ret D cl tys A) {y : MethodName} {bytes : ByteArray} {maxL n index : Nat} {ret2 : Option FieldType} {ws : List Cond} {rm : Room} {As : List Value} {f : xR} {K : Int32 → xSt → xR} {b : Nat} {C : String} (hM : xM l D cl tys cells NW y ws rm false (.ref b :: As) S f) (cw : CallW R s args own C index y bytes maxL ret2 ws rm 0 0 n) (ho : xOb cells cl b C) (hN : As.length = n) (hst : st = As.reverse ++ .ref b :: rest) (hW : (rest.map fun v => v.category).sum ≤ 8) (hdg : decode cc pc = .ok (.invokevirtual index, 3)) (hn : pc + 3 = nx) (k : ∀ (r : Int32) (u : xSt), xJ p l e R s m args below meth c D cl tys cells A rt nL nx lv rest u (K r u)) : xJ p l e R s m args below meth c D cl tys cells A rt nL pc lv st S (xB f K) := by
  obtain ⟨q0, ci, q, fs, hc, hq, hall⟩ := ho
  subst hq
  refine x_back (rest := rest) (rt2 := false) (a := (Value.ref b :: As).toArray) h (fun r u hf ls H locs hl hP hD hS => ?_) hn k
  exact va_runV (As := As) ⟨h.1, h.2.1, h.2.2.1, h.2.2.2.1, h.2.2.2.2.1⟩ (hM r u hf H.size) cw ⟨x_blind, va_recv h.2.2.2.2.2.1 hP hc (hall S), fun U hU hW => ⟨rfl, by rw [hU], by rw [hU]; exact hP, va_K.moved hW.alike h.2.2.2.2.2.1, hD.weaken (fun _ _ _ _ => trivial), fun w hw => ⟨(h.2.2.2.2.2.2.2.2.2 w hw).1, xNest_warm (h.2.2.2.2.2.2.2.2.2 w hw).1 hW (h.2.2.2.2.2.2.2.2.2 w hw).2⟩⟩⟩ rfl hN hl.1 hst (lv_room hW) hdg ⟨Nat.zero_le _, Nat.zero_le _⟩
theorem x_cSNi (h : xC p s m args meth c cc nL Ts NW own ret D cl tys A) {y : MethodName} {bytes : ByteArray} {maxL n index : Nat} {ret2 : Option FieldType} {ws : List Cond} {rm : Room} {As : List Value} {f : xR} {K : Int32 → xSt → xR} {host : String} (hM : xM l D cl tys cells NW y ws rm true As S f) (cw : va_CN R s args own index y host bytes maxL ret2 ws rm 0 0 n ∧ (Cond.static y).before args s = true ∧ True) (hN : As.length = n) (hst : st = As.reverse ++ rest) (hW : (rest.map fun v => v.category).sum ≤ 8) (hdg : decode cc pc = .ok (.invokestatic index, 3)) (hn : pc + 3 = nx) (k : ∀ (r : Int32) (u : xSt), xJ p l e R s m args below meth c D cl tys cells A rt nL nx lv (.int r :: rest) u (K r u)) : xJ p l e R s m args below meth c D cl tys cells A rt nL pc lv st S (xB f K) := by
  refine x_back (rest := rest) (rt2 := true) (a := As.toArray) h (fun r u hf ls H locs hl hP hD hS => ?_) hn k
  exact va_runSN (As := As) ⟨h.1, h.2.1, h.2.2.1, h.2.2.2.1, h.2.2.2.2.1⟩ (hM r u hf H.size) cw ⟨x_blind, fun U hU hW => ⟨rfl, by rw [hU], by rw [hU]; exact hP, va_K.moved hW.alike h.2.2.2.2.2.1, hD.weaken (fun _ _ _ _ => trivial), fun w hw => ⟨(h.2.2.2.2.2.2.2.2.2 w hw).1, xNest_warm (h.2.2.2.2.2.2.2.2.2 w hw).1 hW (h.2.2.2.2.2.2.2.2.2 w hw).2⟩⟩⟩ rfl hN hl.1 hst (lv_room hW) hdg ⟨Nat.zero_le _, Nat.zero_le _⟩
theorem x_cSNv (h : xC p s m args meth c cc nL Ts NW own ret D cl tys A) {y : MethodName} {bytes : ByteArray} {maxL n index : Nat} {ret2 : Option FieldType} {ws : List Cond} {rm : Room} {As : List Value} {f : xR} {K : Int32 → xSt → xR} {host : String} (hM : xM l D cl tys cells NW y ws rm false As S f) (cw : va_CN R s args own index y host bytes maxL ret2 ws rm 0 0 n ∧ (Cond.static y).before args s = true ∧ True) (hN : As.length = n) (hst : st = As.reverse ++ rest) (hW : (rest.map fun v => v.category).sum ≤ 8) (hdg : decode cc pc = .ok (.invokestatic index, 3)) (hn : pc + 3 = nx) (k : ∀ (r : Int32) (u : xSt), xJ p l e R s m args below meth c D cl tys cells A rt nL nx lv rest u (K r u)) : xJ p l e R s m args below meth c D cl tys cells A rt nL pc lv st S (xB f K) := by
  refine x_back (rest := rest) (rt2 := false) (a := As.toArray) h (fun r u hf ls H locs hl hP hD hS => ?_) hn k
  exact va_runSN (As := As) ⟨h.1, h.2.1, h.2.2.1, h.2.2.2.1, h.2.2.2.2.1⟩ (hM r u hf H.size) cw ⟨x_blind, fun U hU hW => ⟨rfl, by rw [hU], by rw [hU]; exact hP, va_K.moved hW.alike h.2.2.2.2.2.1, hD.weaken (fun _ _ _ _ => trivial), fun w hw => ⟨(h.2.2.2.2.2.2.2.2.2 w hw).1, xNest_warm (h.2.2.2.2.2.2.2.2.2 w hw).1 hW (h.2.2.2.2.2.2.2.2.2 w hw).2⟩⟩⟩ rfl hN hl.1 hst (lv_room hW) hdg ⟨Nat.zero_le _, Nat.zero_le _⟩
theorem x_cSi (h : xC p s m args meth c cc nL Ts NW own ret D cl tys A) {y : MethodName} {bytes : ByteArray} {maxL n index : Nat} {ret2 : Option FieldType} {ws : List Cond} {rm : Room} {As : List Value} {f : xR} {K : Int32 → xSt → xR} (hM : xM l D cl tys cells NW y ws rm true As S f) (cw : CallB R s args own index y bytes maxL ret2 ws rm 0 0 n ∧ (Cond.static y).before args s = true) (hN : As.length = n) (hst : st = As.reverse ++ rest) (hW : (rest.map fun v => v.category).sum ≤ 8) (hdg : decode cc pc = .ok (.invokestatic index, 3)) (hn : pc + 3 = nx) (k : ∀ (r : Int32) (u : xSt), xJ p l e R s m args below meth c D cl tys cells A rt nL nx lv (.int r :: rest) u (K r u)) : xJ p l e R s m args below meth c D cl tys cells A rt nL pc lv st S (xB f K) := by
  refine x_back (rest := rest) (rt2 := true) (a := As.toArray) h (fun r u hf ls H locs hl hP hD hS => ?_) hn k
  exact va_runS (As := As) ⟨h.1, h.2.1, h.2.2.1, h.2.2.2.1, h.2.2.2.2.1⟩ (hM r u hf H.size) cw ⟨x_blind, fun U hU hW => ⟨rfl, by rw [hU], by rw [hU]; exact hP, va_K.moved hW.alike h.2.2.2.2.2.1, hD.weaken (fun _ _ _ _ => trivial), fun w hw => ⟨(h.2.2.2.2.2.2.2.2.2 w hw).1, xNest_warm (h.2.2.2.2.2.2.2.2.2 w hw).1 hW (h.2.2.2.2.2.2.2.2.2 w hw).2⟩⟩⟩ rfl hN hl.1 hst (lv_room hW) hdg ⟨Nat.zero_le _, Nat.zero_le _⟩
theorem x_cSv (h : xC p s m args meth c cc nL Ts NW own ret D cl tys A) {y : MethodName} {bytes : ByteArray} {maxL n index : Nat} {ret2 : Option FieldType} {ws : List Cond} {rm : Room} {As : List Value} {f : xR} {K : Int32 → xSt → xR} (hM : xM l D cl tys cells NW y ws rm false As S f) (cw : CallB R s args own index y bytes maxL ret2 ws rm 0 0 n ∧ (Cond.static y).before args s = true) (hN : As.length = n) (hst : st = As.reverse ++ rest) (hW : (rest.map fun v => v.category).sum ≤ 8) (hdg : decode cc pc = .ok (.invokestatic index, 3)) (hn : pc + 3 = nx) (k : ∀ (r : Int32) (u : xSt), xJ p l e R s m args below meth c D cl tys cells A rt nL nx lv rest u (K r u)) : xJ p l e R s m args below meth c D cl tys cells A rt nL pc lv st S (xB f K) := by
  refine x_back (rest := rest) (rt2 := false) (a := As.toArray) h (fun r u hf ls H locs hl hP hD hS => ?_) hn k
  exact va_runS (As := As) ⟨h.1, h.2.1, h.2.2.1, h.2.2.2.1, h.2.2.2.2.1⟩ (hM r u hf H.size) cw ⟨x_blind, fun U hU hW => ⟨rfl, by rw [hU], by rw [hU]; exact hP, va_K.moved hW.alike h.2.2.2.2.2.1, hD.weaken (fun _ _ _ _ => trivial), fun w hw => ⟨(h.2.2.2.2.2.2.2.2.2 w hw).1, xNest_warm (h.2.2.2.2.2.2.2.2.2 w hw).1 hW (h.2.2.2.2.2.2.2.2.2 w hw).2⟩⟩⟩ rfl hN hl.1 hst (lv_room hW) hdg ⟨Nat.zero_le _, Nat.zero_le _⟩
theorem x_met {y : MethodName} {ws ws' : List Cond} {maxL : Nat} {rm : Room} (hy : plainName y.cls = true) (hw : ws = Cond.code y cc maxL ret :: ws') (av : List Value) {lv0 : List (Nat × Value)} (hav : (lg_sl av).length ≤ maxL) (hlv : lv_args 0 av = lv0)
    (body : ∀ (p : Program) (e : Env) (s : State) (m : MethodId) (args : Array Value) (below : List Frame) (meth : Method) (c : Code) (A : Nat → Prop), xC p s m args meth c cc maxL ws NW y.cls ret D cl tys A → xJ p l e rm s m args below meth c D cl tys cells A rt maxL 0 lv0 [] S F) : xM l D cl tys cells NW y ws rm rt av S F := by
  intro r u hF sz
  refine Met.ofW (cc := cc) (maxL := maxL) (ret := ret) hy hw ?_
  intro p e s m args below meth c s₁ B hml hv
  obtain ⟨rfl, hsz, hP, hK, hD0, hNW⟩ := hv
  subst hsz
  have hts := atoms_spec (ws := ws) B.pre
  have hl := lv_entry av (n := maxL) hav
  rw [lg_entry_eq]
  rw [hlv] at hl
  exact body p e s m _ below meth c (va_A (cells S) s.heap.size) ⟨B.exec, B.bytes, hml, findClass_of_methodNamed B.named, hts, hK, B.returns, B.notSynchronized, fun q z => Or.inr z, hNW⟩ r u hF _ s.heap [] hl hP hD0.self va_S.rf
def xGo (w : Cond) : Prop := (w.onTables && w.keeps) = true ∨ ∃ ty, w = .arrayClass ty
theorem x_good {wA : List Cond} (cx : Cond) {cy : Cond} (hA : ∀ w ∈ wA, xGo w) (hy : cy ∈ wA) : GoodIn (cx :: wA) (cy :: wA) := by
  intro w hw
  rcases List.mem_cons.mp hw with rfl | hw
  · exact ⟨List.mem_cons_of_mem _ hy, hA _ hy⟩
  · exact ⟨List.mem_cons_of_mem _ hw, hA _ hw⟩
def xYv (wA : List Cond) (y : MethodName) (bytes : ByteArray) (maxL : Nat) (ret : Option FieldType) (n : Nat) (C : String) : Prop :=
  Cond.code y bytes maxL ret ∈ wA ∧ Cond.instanceMethod y ∈ wA ∧ Cond.selects C y y ∈ wA ∧ Cond.initialized y.cls ∈ wA ∧ y.cls ≠ "java/lang/invoke/MethodHandle" ∧ y.cls ≠ "java/lang/invoke/VarHandle" ∧ (parseMethodDescriptor y.desc).map (fun d => d.parameters.length) = some n
def xYs (wA : List Cond) (y : MethodName) (bytes : ByteArray) (maxL : Nat) (ret : Option FieldType) (n : Nat) : Prop :=
  Cond.code y bytes maxL ret ∈ wA ∧ Cond.static y ∈ wA ∧ Cond.initialized y.cls ∈ wA ∧ y.cls ≠ "java/lang/invoke/MethodHandle" ∧ y.cls ≠ "java/lang/invoke/VarHandle" ∧ (parseMethodDescriptor y.desc).map (fun d => d.parameters.length) = some n
theorem x_wVN {cx : Cond} {wA : List Cond} {y : MethodName} {bytes : ByteArray} {maxL n index : Nat} {ret2 : Option FieldType} {rm : Room} {host C : String} (h : xC p s m args meth c cc nL (cx :: wA) NW own ret D cl tys A) (hA : ∀ w ∈ wA, xGo w) (hy : xYv wA y bytes maxL ret2 n C) (hl : Cond.methodLinkNest own index y host ∈ NW) (hR : rm.frames + 1 ≤ R.frames ∧ 8 + (maxL + 11) + rm.locals ≤ R.locals) (hrc : rm.cells = 0) (hrs : rm.slots = 0) : va_CN R s args own index y host bytes maxL ret2 (Cond.code y bytes maxL ret2 :: wA) rm 0 0 n ∧ (Cond.instanceMethod y).before args s = true ∧ (Cond.selects C y y).before args s = true :=
  ⟨va_cnB n h.2.2.2.2.1 (x_good cx hA hy.1) rfl hrc hrs (h.2.2.2.2.2.2.2.2.2 _ hl).2 (h.2.2.2.2.1 _ (List.mem_cons_of_mem _ hy.2.2.2.1)) hy.2.2.2.2 hR, h.2.2.2.2.1 _ (List.mem_cons_of_mem _ hy.2.1), h.2.2.2.2.1 _ (List.mem_cons_of_mem _ hy.2.2.1)⟩
theorem x_wSN {cx : Cond} {wA : List Cond} {y : MethodName} {bytes : ByteArray} {maxL n index : Nat} {ret2 : Option FieldType} {rm : Room} {host : String} (h : xC p s m args meth c cc nL (cx :: wA) NW own ret D cl tys A) (hA : ∀ w ∈ wA, xGo w) (hy : xYs wA y bytes maxL ret2 n) (hl : Cond.methodLinkNest own index y host ∈ NW) (hR : rm.frames + 1 ≤ R.frames ∧ 8 + (maxL + 11) + rm.locals ≤ R.locals) (hrc : rm.cells = 0) (hrs : rm.slots = 0) : va_CN R s args own index y host bytes maxL ret2 (Cond.code y bytes maxL ret2 :: wA) rm 0 0 n ∧ (Cond.static y).before args s = true ∧ True :=
  ⟨va_cnB n h.2.2.2.2.1 (x_good cx hA hy.1) rfl hrc hrs (h.2.2.2.2.2.2.2.2.2 _ hl).2 (h.2.2.2.2.1 _ (List.mem_cons_of_mem _ hy.2.2.1)) hy.2.2.2 hR, h.2.2.2.2.1 _ (List.mem_cons_of_mem _ hy.2.1), trivial⟩
theorem x_wV {cx : Cond} {wA : List Cond} {y : MethodName} {bytes : ByteArray} {maxL n index : Nat} {ret2 : Option FieldType} {rm : Room} {C : String} (h : xC p s m args meth c cc nL (cx :: wA) NW own ret D cl tys A) (hA : ∀ w ∈ wA, xGo w) (hy : xYv wA y bytes maxL ret2 n C) (hl : Cond.methodLink own index y ∈ wA) (hR : rm.frames + 1 ≤ R.frames ∧ 8 + (maxL + 11) + rm.locals ≤ R.locals) (hrc : rm.cells = 0) (hrs : rm.slots = 0) : CallW R s args own C index y bytes maxL ret2 (Cond.code y bytes maxL ret2 :: wA) rm 0 0 n :=
  ⟨callB_of n h.2.2.2.2.1 (x_good cx hA hy.1) rfl hrc hrs (h.2.2.2.2.1 _ (List.mem_cons_of_mem _ hy.2.2.2.1)) (h.2.2.2.2.1 _ (List.mem_cons_of_mem _ hl)) hy.2.2.2.2 hR, h.2.2.2.2.1 _ (List.mem_cons_of_mem _ hy.2.1), h.2.2.2.2.1 _ (List.mem_cons_of_mem _ hy.2.2.1)⟩
theorem x_wS {cx : Cond} {wA : List Cond} {y : MethodName} {bytes : ByteArray} {maxL n index : Nat} {ret2 : Option FieldType} {rm : Room} (h : xC p s m args meth c cc nL (cx :: wA) NW own ret D cl tys A) (hA : ∀ w ∈ wA, xGo w) (hy : xYs wA y bytes maxL ret2 n) (hl : Cond.methodLink own index y ∈ wA) (hR : rm.frames + 1 ≤ R.frames ∧ 8 + (maxL + 11) + rm.locals ≤ R.locals) (hrc : rm.cells = 0) (hrs : rm.slots = 0) : CallB R s args own index y bytes maxL ret2 (Cond.code y bytes maxL ret2 :: wA) rm 0 0 n ∧ (Cond.static y).before args s = true :=
  ⟨callB_of n h.2.2.2.2.1 (x_good cx hA hy.1) rfl hrc hrs (h.2.2.2.2.1 _ (List.mem_cons_of_mem _ hy.2.2.1)) (h.2.2.2.2.1 _ (List.mem_cons_of_mem _ hl)) hy.2.2.2 hR, h.2.2.2.2.1 _ (List.mem_cons_of_mem _ hy.2.1)⟩
end XL
end
section
/-! names: a method by its class's letter and its name: y (MethodName), c (code); decode rows are in 03.d parts -/
abbrev yH_init : MethodName := ⟨"HomeComputer", "<init>", "()V"⟩
abbrev cH_init : ByteArray := prog_1_method_1_code
abbrev yH_poke : MethodName := ⟨"HomeComputer", "poke", "(II)V"⟩
abbrev cH_poke : ByteArray := prog_1_method_2_code
abbrev yH_load : MethodName := ⟨"HomeComputer", "load", "(III)Z"⟩
abbrev cH_load : ByteArray := prog_1_method_3_code
abbrev yH_peek : MethodName := ⟨"HomeComputer", "peek", "(I)I"⟩
abbrev cH_peek : ByteArray := prog_1_method_4_code
abbrev yH_set : MethodName := ⟨"HomeComputer", "set", "(II)Z"⟩
abbrev cH_set : ByteArray := prog_1_method_5_code
abbrev yH_register : MethodName := ⟨"HomeComputer", "register", "(I)I"⟩
abbrev cH_register : ByteArray := prog_1_method_6_code
abbrev yH_key : MethodName := ⟨"HomeComputer", "key", "(IIZ)Z"⟩
abbrev cH_key : ByteArray := prog_1_method_7_code
abbrev yH_pulse : MethodName := ⟨"HomeComputer", "pulse", "(I)Z"⟩
abbrev cH_pulse : ByteArray := prog_1_method_8_code
abbrev yH_tape : MethodName := ⟨"HomeComputer", "tape", "(I)Z"⟩
abbrev cH_tape : ByteArray := prog_1_method_9_code
abbrev yH_step : MethodName := ⟨"HomeComputer", "step", "(I)I"⟩
abbrev cH_step : ByteArray := prog_1_method_10_code
abbrev yH_frame : MethodName := ⟨"HomeComputer", "frame", "()I"⟩
abbrev cH_frame : ByteArray := prog_1_method_11_code
abbrev yH_look : MethodName := ⟨"HomeComputer", "look", "(I)I"⟩
abbrev cH_look : ByteArray := prog_1_method_12_code
abbrev yH_stripe : MethodName := ⟨"HomeComputer", "stripe", "(I)I"⟩
abbrev cH_stripe : ByteArray := prog_1_method_13_code
abbrev yM_init : MethodName := ⟨"HomeComputerModel", "<init>", "()V"⟩
abbrev cM_init : ByteArray := prog_9_method_1_code
abbrev yM_pass : MethodName := ⟨"HomeComputerModel", "pass", "(I)V"⟩
abbrev cM_pass : ByteArray := prog_9_method_2_code
abbrev yM_slow : MethodName := ⟨"HomeComputerModel", "slow", "()V"⟩
abbrev cM_slow : ByteArray := prog_9_method_3_code
abbrev yM_reach : MethodName := ⟨"HomeComputerModel", "reach", "(II)V"⟩
abbrev cM_reach : ByteArray := prog_9_method_4_code
abbrev yM_read : MethodName := ⟨"HomeComputerModel", "read", "(I)I"⟩
abbrev cM_read : ByteArray := prog_9_method_5_code
abbrev yM_write : MethodName := ⟨"HomeComputerModel", "write", "(II)V"⟩
abbrev cM_write : ByteArray := prog_9_method_6_code
abbrev yM_refresh : MethodName := ⟨"HomeComputerModel", "refresh", "()V"⟩
abbrev cM_refresh : ByteArray := prog_9_method_7_code
abbrev yM_fetch : MethodName := ⟨"HomeComputerModel", "fetch", "()I"⟩
abbrev cM_fetch : ByteArray := prog_9_method_8_code
abbrev yM_next : MethodName := ⟨"HomeComputerModel", "next", "()I"⟩
abbrev cM_next : ByteArray := prog_9_method_9_code
abbrev yM_signed : MethodName := ⟨"HomeComputerModel", "signed", "(I)I"⟩
abbrev cM_signed : ByteArray := prog_9_method_10_code
abbrev yM_twoNext : MethodName := ⟨"HomeComputerModel", "twoNext", "()I"⟩
abbrev cM_twoNext : ByteArray := prog_9_method_11_code
abbrev yM_two : MethodName := ⟨"HomeComputerModel", "two", "(I)I"⟩
abbrev cM_two : ByteArray := prog_9_method_12_code
abbrev yM_setTwo : MethodName := ⟨"HomeComputerModel", "setTwo", "(II)V"⟩
abbrev cM_setTwo : ByteArray := prog_9_method_13_code
abbrev yM_pair : MethodName := ⟨"HomeComputerModel", "pair", "(I)I"⟩
abbrev cM_pair : ByteArray := prog_9_method_14_code
abbrev yM_setPair : MethodName := ⟨"HomeComputerModel", "setPair", "(II)V"⟩
abbrev cM_setPair : ByteArray := prog_9_method_15_code
abbrev yM_main : MethodName := ⟨"HomeComputerModel", "main", "()I"⟩
abbrev cM_main : ByteArray := prog_9_method_16_code
abbrev yM_setMain : MethodName := ⟨"HomeComputerModel", "setMain", "(I)V"⟩
abbrev cM_setMain : ByteArray := prog_9_method_17_code
abbrev yM_w : MethodName := ⟨"HomeComputerModel", "w", "(I)I"⟩
abbrev cM_w : ByteArray := prog_9_method_18_code
abbrev yM_setW : MethodName := ⟨"HomeComputerModel", "setW", "(II)V"⟩
abbrev cM_setW : ByteArray := prog_9_method_19_code
abbrev yM_aim : MethodName := ⟨"HomeComputerModel", "aim", "()V"⟩
abbrev cM_aim : ByteArray := prog_9_method_20_code
abbrev yM_get : MethodName := ⟨"HomeComputerModel", "get", "(I)I"⟩
abbrev cM_get : ByteArray := prog_9_method_21_code
abbrev yM_put : MethodName := ⟨"HomeComputerModel", "put", "(II)V"⟩
abbrev cM_put : ByteArray := prog_9_method_22_code
abbrev yM_push : MethodName := ⟨"HomeComputerModel", "push", "(I)V"⟩
abbrev cM_push : ByteArray := prog_9_method_23_code
abbrev yM_pop : MethodName := ⟨"HomeComputerModel", "pop", "()I"⟩
abbrev cM_pop : ByteArray := prog_9_method_24_code
abbrev yM_cond : MethodName := ⟨"HomeComputerModel", "cond", "(I)Z"⟩
abbrev cM_cond : ByteArray := prog_9_method_25_code
abbrev yM_change : MethodName := ⟨"HomeComputerModel", "change", "(II)V"⟩
abbrev cM_change : ByteArray := prog_9_method_26_code
abbrev yM_sum : MethodName := ⟨"HomeComputerModel", "sum", "(IIII)I"⟩
abbrev cM_sum : ByteArray := prog_9_method_27_code
abbrev yM_difference : MethodName := ⟨"HomeComputerModel", "difference", "(IIII)I"⟩
abbrev cM_difference : ByteArray := prog_9_method_28_code
abbrev yM_parity : MethodName := ⟨"HomeComputerModel", "parity", "(I)I"⟩
abbrev cM_parity : ByteArray := prog_9_method_29_code
abbrev yM_by : MethodName := ⟨"HomeComputerModel", "by", "(I)I"⟩
abbrev cM_by : ByteArray := prog_9_method_30_code
abbrev yM_rest : MethodName := ⟨"HomeComputerModel", "rest", "(I)I"⟩
abbrev cM_rest : ByteArray := prog_9_method_31_code
abbrev yM_work : MethodName := ⟨"HomeComputerModel", "work", "(II)V"⟩
abbrev cM_work : ByteArray := prog_9_method_32_code
abbrev yM_step1 : MethodName := ⟨"HomeComputerModel", "step1", "(IZ)I"⟩
abbrev cM_step1 : ByteArray := prog_9_method_33_code
abbrev yM_turn : MethodName := ⟨"HomeComputerModel", "turn", "(II)I"⟩
abbrev cM_turn : ByteArray := prog_9_method_34_code
abbrev yM_turned : MethodName := ⟨"HomeComputerModel", "turned", "(II)I"⟩
abbrev cM_turned : ByteArray := prog_9_method_35_code
abbrev yM_bit : MethodName := ⟨"HomeComputerModel", "bit", "(II)V"⟩
abbrev cM_bit : ByteArray := prog_9_method_36_code
abbrev yM_adjust : MethodName := ⟨"HomeComputerModel", "adjust", "()V"⟩
abbrev cM_adjust : ByteArray := prog_9_method_37_code
abbrev yM_single : MethodName := ⟨"HomeComputerModel", "single", "(I)V"⟩
abbrev cM_single : ByteArray := prog_9_method_38_code
abbrev yM_over : MethodName := ⟨"HomeComputerModel", "over", "(I)I"⟩
abbrev cM_over : ByteArray := prog_9_method_39_code
abbrev yM_play : MethodName := ⟨"HomeComputerModel", "play", "()V"⟩
abbrev cM_play : ByteArray := prog_9_method_40_code
abbrev yM_input : MethodName := ⟨"HomeComputerModel", "input", "(I)I"⟩
abbrev cM_input : ByteArray := prog_9_method_41_code
abbrev yM_output : MethodName := ⟨"HomeComputerModel", "output", "(II)V"⟩
abbrev cM_output : ByteArray := prog_9_method_42_code
abbrev yM_one : MethodName := ⟨"HomeComputerModel", "one", "()V"⟩
abbrev cM_one : ByteArray := prog_9_method_43_code
abbrev yM_interrupt : MethodName := ⟨"HomeComputerModel", "interrupt", "()V"⟩
abbrev cM_interrupt : ByteArray := prog_9_method_44_code
abbrev yM_perform : MethodName := ⟨"HomeComputerModel", "perform", "(I)V"⟩
abbrev cM_perform : ByteArray := prog_9_method_45_code
abbrev yM_first : MethodName := ⟨"HomeComputerModel", "first", "(II)V"⟩
abbrev cM_first : ByteArray := prog_9_method_46_code
abbrev yM_jump : MethodName := ⟨"HomeComputerModel", "jump", "(I)V"⟩
abbrev cM_jump : ByteArray := prog_9_method_47_code
abbrev yM_add : MethodName := ⟨"HomeComputerModel", "add", "(I)V"⟩
abbrev cM_add : ByteArray := prog_9_method_48_code
abbrev yM_store : MethodName := ⟨"HomeComputerModel", "store", "(IZ)V"⟩
abbrev cM_store : ByteArray := prog_9_method_49_code
abbrev yM_third : MethodName := ⟨"HomeComputerModel", "third", "(I)V"⟩
abbrev cM_third : ByteArray := prog_9_method_50_code
abbrev yM_last : MethodName := ⟨"HomeComputerModel", "last", "(II)V"⟩
abbrev cM_last : ByteArray := prog_9_method_51_code
abbrev yM_odd : MethodName := ⟨"HomeComputerModel", "odd", "(I)V"⟩
abbrev cM_odd : ByteArray := prog_9_method_52_code
abbrev yM_rotation : MethodName := ⟨"HomeComputerModel", "rotation", "()V"⟩
abbrev cM_rotation : ByteArray := prog_9_method_53_code
abbrev yM_more : MethodName := ⟨"HomeComputerModel", "more", "(I)V"⟩
abbrev cM_more : ByteArray := prog_9_method_54_code
abbrev yM_special : MethodName := ⟨"HomeComputerModel", "special", "(I)V"⟩
abbrev cM_special : ByteArray := prog_9_method_55_code
abbrev yM_move : MethodName := ⟨"HomeComputerModel", "move", "(IZ)V"⟩
abbrev cM_move : ByteArray := prog_9_method_56_code
abbrev yM_poke : MethodName := ⟨"HomeComputerModel", "poke", "(II)V"⟩
abbrev cM_poke : ByteArray := prog_9_method_57_code
abbrev yM_load : MethodName := ⟨"HomeComputerModel", "load", "(III)Z"⟩
abbrev cM_load : ByteArray := prog_9_method_58_code
abbrev yM_peek : MethodName := ⟨"HomeComputerModel", "peek", "(I)I"⟩
abbrev cM_peek : ByteArray := prog_9_method_59_code
abbrev yM_set : MethodName := ⟨"HomeComputerModel", "set", "(II)Z"⟩
abbrev cM_set : ByteArray := prog_9_method_60_code
abbrev yM_register : MethodName := ⟨"HomeComputerModel", "register", "(I)I"⟩
abbrev cM_register : ByteArray := prog_9_method_61_code
abbrev yM_key : MethodName := ⟨"HomeComputerModel", "key", "(IIZ)Z"⟩
abbrev cM_key : ByteArray := prog_9_method_62_code
abbrev yM_pulse : MethodName := ⟨"HomeComputerModel", "pulse", "(I)Z"⟩
abbrev cM_pulse : ByteArray := prog_9_method_63_code
abbrev yM_tape : MethodName := ⟨"HomeComputerModel", "tape", "(I)Z"⟩
abbrev cM_tape : ByteArray := prog_9_method_64_code
abbrev yM_step : MethodName := ⟨"HomeComputerModel", "step", "(I)I"⟩
abbrev cM_step : ByteArray := prog_9_method_65_code
abbrev yM_frame : MethodName := ⟨"HomeComputerModel", "frame", "()I"⟩
abbrev cM_frame : ByteArray := prog_9_method_66_code
abbrev yM_look : MethodName := ⟨"HomeComputerModel", "look", "(I)I"⟩
abbrev cM_look : ByteArray := prog_9_method_67_code
abbrev yM_stripe : MethodName := ⟨"HomeComputerModel", "stripe", "(I)I"⟩
abbrev cM_stripe : ByteArray := prog_9_method_68_code
abbrev yA_by : MethodName := ⟨"HomeComputer$Arithmetic", "by", "(I)I"⟩
abbrev cA_by : ByteArray := prog_2_method_2_code
abbrev yA_byWithParity : MethodName := ⟨"HomeComputer$Arithmetic", "byWithParity", "(I)I"⟩
abbrev cA_byWithParity : ByteArray := prog_2_method_3_code
abbrev yA_plus : MethodName := ⟨"HomeComputer$Arithmetic", "plus", "(III)I"⟩
abbrev cA_plus : ByteArray := prog_2_method_4_code
abbrev yA_minus : MethodName := ⟨"HomeComputer$Arithmetic", "minus", "(III)I"⟩
abbrev cA_minus : ByteArray := prog_2_method_5_code
abbrev yA_compared : MethodName := ⟨"HomeComputer$Arithmetic", "compared", "(II)I"⟩
abbrev cA_compared : ByteArray := prog_2_method_6_code
abbrev yA_logic : MethodName := ⟨"HomeComputer$Arithmetic", "logic", "(I)I"⟩
abbrev cA_logic : ByteArray := prog_2_method_7_code
abbrev yA_plusWide : MethodName := ⟨"HomeComputer$Arithmetic", "plusWide", "(III)I"⟩
abbrev cA_plusWide : ByteArray := prog_2_method_8_code
abbrev yA_minusWide : MethodName := ⟨"HomeComputer$Arithmetic", "minusWide", "(III)I"⟩
abbrev cA_minusWide : ByteArray := prog_2_method_9_code
abbrev yA_byWide : MethodName := ⟨"HomeComputer$Arithmetic", "byWide", "(I)I"⟩
abbrev cA_byWide : ByteArray := prog_2_method_10_code
abbrev yA_turned : MethodName := ⟨"HomeComputer$Arithmetic", "turned", "(III)I"⟩
abbrev cA_turned : ByteArray := prog_2_method_11_code
abbrev yA_comesIn : MethodName := ⟨"HomeComputer$Arithmetic", "comesIn", "(IIII)I"⟩
abbrev cA_comesIn : ByteArray := prog_2_method_12_code
abbrev yA_bitFlags : MethodName := ⟨"HomeComputer$Arithmetic", "bitFlags", "(III)I"⟩
abbrev cA_bitFlags : ByteArray := prog_2_method_13_code
abbrev yA_adjusted : MethodName := ⟨"HomeComputer$Arithmetic", "adjusted", "(II)I"⟩
abbrev cA_adjusted : ByteArray := prog_2_method_14_code
abbrev yB_init : MethodName := ⟨"HomeComputer$Board", "<init>", "()V"⟩
abbrev cB_init : ByteArray := prog_3_method_1_code
abbrev yB_byteAt : MethodName := ⟨"HomeComputer$Board", "byteAt", "(I)I"⟩
abbrev cB_byteAt : ByteArray := prog_3_method_2_code
abbrev yB_place : MethodName := ⟨"HomeComputer$Board", "place", "(II)V"⟩
abbrev cB_place : ByteArray := prog_3_method_3_code
abbrev yB_frames : MethodName := ⟨"HomeComputer$Board", "frames", "()I"⟩
abbrev cB_frames : ByteArray := prog_3_method_4_code
abbrev yB_tickOfFrame : MethodName := ⟨"HomeComputer$Board", "tickOfFrame", "()I"⟩
abbrev cB_tickOfFrame : ByteArray := prog_3_method_5_code
abbrev yB_pass : MethodName := ⟨"HomeComputer$Board", "pass", "(I)V"⟩
abbrev cB_pass : ByteArray := prog_3_method_6_code
abbrev yB_fetchAt : MethodName := ⟨"HomeComputer$Board", "fetchAt", "(I)I"⟩
abbrev cB_fetchAt : ByteArray := prog_3_method_7_code
abbrev yB_read : MethodName := ⟨"HomeComputer$Board", "read", "(I)I"⟩
abbrev cB_read : ByteArray := prog_3_method_8_code
abbrev yB_write : MethodName := ⟨"HomeComputer$Board", "write", "(II)V"⟩
abbrev cB_write : ByteArray := prog_3_method_9_code
abbrev yB_readPort : MethodName := ⟨"HomeComputer$Board", "readPort", "(I)I"⟩
abbrev cB_readPort : ByteArray := prog_3_method_10_code
abbrev yB_writePort : MethodName := ⟨"HomeComputer$Board", "writePort", "(II)V"⟩
abbrev cB_writePort : ByteArray := prog_3_method_11_code
abbrev yB_isShared : MethodName := ⟨"HomeComputer$Board", "isShared", "(I)Z"⟩
abbrev cB_isShared : ByteArray := prog_3_method_12_code
abbrev yB_delay : MethodName := ⟨"HomeComputer$Board", "delay", "(Z)I"⟩
abbrev cB_delay : ByteArray := prog_3_method_13_code
abbrev yK_init : MethodName := ⟨"HomeComputer$Keyboard", "<init>", "()V"⟩
abbrev cK_init : ByteArray := prog_4_method_1_code
abbrev yK_move : MethodName := ⟨"HomeComputer$Keyboard", "move", "(IIZ)Z"⟩
abbrev cK_move : ByteArray := prog_4_method_2_code
abbrev yK_upIn : MethodName := ⟨"HomeComputer$Keyboard", "upIn", "(I)I"⟩
abbrev cK_upIn : ByteArray := prog_4_method_3_code
abbrev yP_init : MethodName := ⟨"HomeComputer$Processor", "<init>", "(LHomeComputer$Board;)V"⟩
abbrev cP_init : ByteArray := prog_5_method_1_code
abbrev yP_next : MethodName := ⟨"HomeComputer$Processor", "next", "()V"⟩
abbrev cP_next : ByteArray := prog_5_method_2_code
abbrev yP_takeInterrupt : MethodName := ⟨"HomeComputer$Processor", "takeInterrupt", "()V"⟩
abbrev cP_takeInterrupt : ByteArray := prog_5_method_3_code
abbrev yP_refresh : MethodName := ⟨"HomeComputer$Processor", "refresh", "()V"⟩
abbrev cP_refresh : ByteArray := prog_5_method_4_code
abbrev yP_fetch : MethodName := ⟨"HomeComputer$Processor", "fetch", "()I"⟩
abbrev cP_fetch : ByteArray := prog_5_method_5_code
abbrev yP_fetchBehindPrefixes : MethodName := ⟨"HomeComputer$Processor", "fetchBehindPrefixes", "()I"⟩
abbrev cP_fetchBehindPrefixes : ByteArray := prog_5_method_6_code
abbrev yP_isPrefix : MethodName := ⟨"HomeComputer$Processor", "isPrefix", "(I)Z"⟩
abbrev cP_isPrefix : ByteArray := prog_5_method_7_code
abbrev yP_hasM : MethodName := ⟨"HomeComputer$Processor", "hasM", "(I)Z"⟩
abbrev cP_hasM : ByteArray := prog_5_method_8_code
abbrev yP_findM : MethodName := ⟨"HomeComputer$Processor", "findM", "()V"⟩
abbrev cP_findM : ByteArray := prog_5_method_9_code
abbrev yP_movePc : MethodName := ⟨"HomeComputer$Processor", "movePc", "(I)V"⟩
abbrev cP_movePc : ByteArray := prog_5_method_10_code
abbrev yP_nextByte : MethodName := ⟨"HomeComputer$Processor", "nextByte", "()I"⟩
abbrev cP_nextByte : ByteArray := prog_5_method_11_code
abbrev yP_nextWord : MethodName := ⟨"HomeComputer$Processor", "nextWord", "()I"⟩
abbrev cP_nextWord : ByteArray := prog_5_method_12_code
abbrev yP_readWord : MethodName := ⟨"HomeComputer$Processor", "readWord", "(I)I"⟩
abbrev cP_readWord : ByteArray := prog_5_method_13_code
abbrev yP_writeWord : MethodName := ⟨"HomeComputer$Processor", "writeWord", "(II)V"⟩
abbrev cP_writeWord : ByteArray := prog_5_method_14_code
abbrev yP_operand : MethodName := ⟨"HomeComputer$Processor", "operand", "(I)I"⟩
abbrev cP_operand : ByteArray := prog_5_method_15_code
abbrev yP_setOperand : MethodName := ⟨"HomeComputer$Processor", "setOperand", "(II)V"⟩
abbrev cP_setOperand : ByteArray := prog_5_method_16_code
abbrev yP_push : MethodName := ⟨"HomeComputer$Processor", "push", "(I)V"⟩
abbrev cP_push : ByteArray := prog_5_method_17_code
abbrev yP_pop : MethodName := ⟨"HomeComputer$Processor", "pop", "()I"⟩
abbrev cP_pop : ByteArray := prog_5_method_18_code
abbrev yP_call : MethodName := ⟨"HomeComputer$Processor", "call", "(I)V"⟩
abbrev cP_call : ByteArray := prog_5_method_19_code
abbrev yP_condition : MethodName := ⟨"HomeComputer$Processor", "condition", "(I)Z"⟩
abbrev cP_condition : ByteArray := prog_5_method_20_code
abbrev yP_carry : MethodName := ⟨"HomeComputer$Processor", "carry", "()I"⟩
abbrev cP_carry : ByteArray := prog_5_method_21_code
abbrev yP_setFlags : MethodName := ⟨"HomeComputer$Processor", "setFlags", "(II)V"⟩
abbrev cP_setFlags : ByteArray := prog_5_method_22_code
abbrev yP_doFirst : MethodName := ⟨"HomeComputer$Processor", "doFirst", "(II)V"⟩
abbrev cP_doFirst : ByteArray := prog_5_method_23_code
abbrev yP_moveNear : MethodName := ⟨"HomeComputer$Processor", "moveNear", "(I)V"⟩
abbrev cP_moveNear : ByteArray := prog_5_method_24_code
abbrev yP_addPair : MethodName := ⟨"HomeComputer$Processor", "addPair", "(I)V"⟩
abbrev cP_addPair : ByteArray := prog_5_method_25_code
abbrev yP_putAt : MethodName := ⟨"HomeComputer$Processor", "putAt", "(I)V"⟩
abbrev cP_putAt : ByteArray := prog_5_method_26_code
abbrev yP_takeFrom : MethodName := ⟨"HomeComputer$Processor", "takeFrom", "(I)V"⟩
abbrev cP_takeFrom : ByteArray := prog_5_method_27_code
abbrev yP_count : MethodName := ⟨"HomeComputer$Processor", "count", "(IZ)V"⟩
abbrev cP_count : ByteArray := prog_5_method_28_code
abbrev yP_changeA : MethodName := ⟨"HomeComputer$Processor", "changeA", "(I)V"⟩
abbrev cP_changeA : ByteArray := prog_5_method_29_code
abbrev yP_operate : MethodName := ⟨"HomeComputer$Processor", "operate", "(II)V"⟩
abbrev cP_operate : ByteArray := prog_5_method_30_code
abbrev yP_doLast : MethodName := ⟨"HomeComputer$Processor", "doLast", "(II)V"⟩
abbrev cP_doLast : ByteArray := prog_5_method_31_code
abbrev yP_popOrGo : MethodName := ⟨"HomeComputer$Processor", "popOrGo", "(I)V"⟩
abbrev cP_popOrGo : ByteArray := prog_5_method_32_code
abbrev yP_pushOrCall : MethodName := ⟨"HomeComputer$Processor", "pushOrCall", "(I)V"⟩
abbrev cP_pushOrCall : ByteArray := prog_5_method_33_code
abbrev yP_doMixed : MethodName := ⟨"HomeComputer$Processor", "doMixed", "(I)V"⟩
abbrev cP_doMixed : ByteArray := prog_5_method_34_code
abbrev yP_rotate : MethodName := ⟨"HomeComputer$Processor", "rotate", "()V"⟩
abbrev cP_rotate : ByteArray := prog_5_method_35_code
abbrev yP_changedByte : MethodName := ⟨"HomeComputer$Processor", "changedByte", "(III)I"⟩
abbrev cP_changedByte : ByteArray := prog_5_method_36_code
abbrev yP_more : MethodName := ⟨"HomeComputer$Processor", "more", "(I)V"⟩
abbrev cP_more : ByteArray := prog_5_method_37_code
abbrev yP_takeFromPort : MethodName := ⟨"HomeComputer$Processor", "takeFromPort", "(I)V"⟩
abbrev cP_takeFromPort : ByteArray := prog_5_method_38_code
abbrev yP_sumWithCarry : MethodName := ⟨"HomeComputer$Processor", "sumWithCarry", "(I)V"⟩
abbrev cP_sumWithCarry : ByteArray := prog_5_method_39_code
abbrev yP_passPair : MethodName := ⟨"HomeComputer$Processor", "passPair", "(I)V"⟩
abbrev cP_passPair : ByteArray := prog_5_method_40_code
abbrev yP_doSpecial : MethodName := ⟨"HomeComputer$Processor", "doSpecial", "(I)V"⟩
abbrev cP_doSpecial : ByteArray := prog_5_method_41_code
abbrev yP_turnTwelveBits : MethodName := ⟨"HomeComputer$Processor", "turnTwelveBits", "(Z)V"⟩
abbrev cP_turnTwelveBits : ByteArray := prog_5_method_42_code
abbrev yP_moveByte : MethodName := ⟨"HomeComputer$Processor", "moveByte", "(I)V"⟩
abbrev cP_moveByte : ByteArray := prog_5_method_43_code
abbrev yP_lookAtByte : MethodName := ⟨"HomeComputer$Processor", "lookAtByte", "(I)V"⟩
abbrev cP_lookAtByte : ByteArray := prog_5_method_44_code
abbrev yP_advance : MethodName := ⟨"HomeComputer$Processor", "advance", "(II)I"⟩
abbrev cP_advance : ByteArray := prog_5_method_45_code
abbrev yT_init : MethodName := ⟨"HomeComputer$Recorder", "<init>", "()V"⟩
abbrev cT_init : ByteArray := prog_6_method_1_code
abbrev yT_append : MethodName := ⟨"HomeComputer$Recorder", "append", "(I)Z"⟩
abbrev cT_append : ByteArray := prog_6_method_2_code
abbrev yT_command : MethodName := ⟨"HomeComputer$Recorder", "command", "(II)Z"⟩
abbrev cT_command : ByteArray := prog_6_method_3_code
abbrev yT_follow : MethodName := ⟨"HomeComputer$Recorder", "follow", "(I)V"⟩
abbrev cT_follow : ByteArray := prog_6_method_4_code
abbrev yT_level : MethodName := ⟨"HomeComputer$Recorder", "level", "()I"⟩
abbrev cT_level : ByteArray := prog_6_method_5_code
abbrev yG_init : MethodName := ⟨"HomeComputer$Registers", "<init>", "()V"⟩
abbrev cG_init : ByteArray := prog_7_method_1_code
abbrev yG_change : MethodName := ⟨"HomeComputer$Registers", "change", "(II)Z"⟩
abbrev cG_change : ByteArray := prog_7_method_2_code
abbrev yG_widest : MethodName := ⟨"HomeComputer$Registers", "widest", "(I)I"⟩
abbrev cG_widest : ByteArray := prog_7_method_3_code
abbrev yG_tell : MethodName := ⟨"HomeComputer$Registers", "tell", "(I)I"⟩
abbrev cG_tell : ByteArray := prog_7_method_4_code
abbrev yG_joined : MethodName := ⟨"HomeComputer$Registers", "joined", "(I)I"⟩
abbrev cG_joined : ByteArray := prog_7_method_5_code
abbrev yG_split : MethodName := ⟨"HomeComputer$Registers", "split", "(II)V"⟩
abbrev cG_split : ByteArray := prog_7_method_6_code
abbrev yG_hl : MethodName := ⟨"HomeComputer$Registers", "hl", "()I"⟩
abbrev cG_hl : ByteArray := prog_7_method_7_code
abbrev yG_setHl : MethodName := ⟨"HomeComputer$Registers", "setHl", "(I)V"⟩
abbrev cG_setHl : ByteArray := prog_7_method_8_code
abbrev yG_pair : MethodName := ⟨"HomeComputer$Registers", "pair", "(I)I"⟩
abbrev cG_pair : ByteArray := prog_7_method_9_code
abbrev yG_setPair : MethodName := ⟨"HomeComputer$Registers", "setPair", "(II)V"⟩
abbrev cG_setPair : ByteArray := prog_7_method_10_code
abbrev yG_single : MethodName := ⟨"HomeComputer$Registers", "single", "(I)I"⟩
abbrev cG_single : ByteArray := prog_7_method_11_code
abbrev yG_setSingle : MethodName := ⟨"HomeComputer$Registers", "setSingle", "(II)V"⟩
abbrev cG_setSingle : ByteArray := prog_7_method_12_code
abbrev yG_swap : MethodName := ⟨"HomeComputer$Registers", "swap", "(II)V"⟩
abbrev cG_swap : ByteArray := prog_7_method_13_code
abbrev yG_swapWithSecond : MethodName := ⟨"HomeComputer$Registers", "swapWithSecond", "(II)V"⟩
abbrev cG_swapWithSecond : ByteArray := prog_7_method_14_code
abbrev yI_bitCount : MethodName := ⟨"java/lang/Integer", "bitCount", "(I)I"⟩
abbrev cI_bitCount : ByteArray := prog_10_method_49_code
abbrev yX_max : MethodName := ⟨"java/lang/Math", "max", "(II)I"⟩
end
section
theorem dH_init_0 : decode cH_init 0 = .ok (.aload_n 0, 1) := by decide +kernel
theorem dH_init_1 : decode cH_init 1 = .ok (.invokespecial 1, 3) := by decide +kernel
theorem dH_init_4 : decode cH_init 4 = .ok (.aload_n 0, 1) := by decide +kernel
theorem dH_init_5 : decode cH_init 5 = .ok (.new 7, 3) := by decide +kernel
theorem dH_init_8 : decode cH_init 8 = .ok (.dup, 1) := by decide +kernel
theorem dH_init_9 : decode cH_init 9 = .ok (.invokespecial 9, 3) := by decide +kernel
theorem dH_init_12 : decode cH_init 12 = .ok (.putfield 10, 3) := by decide +kernel
theorem dH_init_15 : decode cH_init 15 = .ok (.aload_n 0, 1) := by decide +kernel
theorem dH_init_16 : decode cH_init 16 = .ok (.new 16, 3) := by decide +kernel
theorem dH_init_19 : decode cH_init 19 = .ok (.dup, 1) := by decide +kernel
theorem dH_init_20 : decode cH_init 20 = .ok (.aload_n 0, 1) := by decide +kernel
theorem dH_init_21 : decode cH_init 21 = .ok (.getfield 10, 3) := by decide +kernel
theorem dH_init_24 : decode cH_init 24 = .ok (.invokespecial 18, 3) := by decide +kernel
theorem dH_init_27 : decode cH_init 27 = .ok (.putfield 21, 3) := by decide +kernel
theorem dH_init_30 : decode cH_init 30 = .ok (.return_, 1) := by decide +kernel
theorem dH_poke_0 : decode cH_poke 0 = .ok (.aload_n 0, 1) := by decide +kernel
theorem dH_poke_1 : decode cH_poke 1 = .ok (.getfield 10, 3) := by decide +kernel
theorem dH_poke_4 : decode cH_poke 4 = .ok (.iload_n 1, 1) := by decide +kernel
theorem dH_poke_5 : decode cH_poke 5 = .ok (.iload_n 2, 1) := by decide +kernel
theorem dH_poke_6 : decode cH_poke 6 = .ok (.invokevirtual 25, 3) := by decide +kernel
theorem dH_poke_9 : decode cH_poke 9 = .ok (.return_, 1) := by decide +kernel
theorem dH_load_0 : decode cH_load 0 = .ok (.iload_n 3, 1) := by decide +kernel
theorem dH_load_1 : decode cH_load 1 = .ok (.iconst 1, 1) := by decide +kernel
theorem dH_load_2 : decode cH_load 2 = .ok (.if_icmp .lt 8, 3) := by decide +kernel
theorem dH_load_5 : decode cH_load 5 = .ok (.iload_n 3, 1) := by decide +kernel
theorem dH_load_6 : decode cH_load 6 = .ok (.iconst 4, 1) := by decide +kernel
theorem dH_load_7 : decode cH_load 7 = .ok (.if_icmp .le 5, 3) := by decide +kernel
theorem dH_load_10 : decode cH_load 10 = .ok (.iconst 0, 1) := by decide +kernel
theorem dH_load_11 : decode cH_load 11 = .ok (.ireturn, 1) := by decide +kernel
theorem dH_load_12 : decode cH_load 12 = .ok (.iconst 0, 1) := by decide +kernel
theorem dH_load_13 : decode cH_load 13 = .ok (.istore 4, 2) := by decide +kernel
theorem dH_load_15 : decode cH_load 15 = .ok (.iload 4, 2) := by decide +kernel
theorem dH_load_17 : decode cH_load 17 = .ok (.iload_n 3, 1) := by decide +kernel
theorem dH_load_18 : decode cH_load 18 = .ok (.if_icmp .ge 30, 3) := by decide +kernel
theorem dH_load_21 : decode cH_load 21 = .ok (.aload_n 0, 1) := by decide +kernel
theorem dH_load_22 : decode cH_load 22 = .ok (.getfield 10, 3) := by decide +kernel
theorem dH_load_25 : decode cH_load 25 = .ok (.iload_n 1, 1) := by decide +kernel
theorem dH_load_26 : decode cH_load 26 = .ok (.iload 4, 2) := by decide +kernel
theorem dH_load_28 : decode cH_load 28 = .ok (.iadd, 1) := by decide +kernel
theorem dH_load_29 : decode cH_load 29 = .ok (.iload_n 2, 1) := by decide +kernel
theorem dH_load_30 : decode cH_load 30 = .ok (.bipush 24, 2) := by decide +kernel
theorem dH_load_32 : decode cH_load 32 = .ok (.bipush 8, 2) := by decide +kernel
theorem dH_load_34 : decode cH_load 34 = .ok (.iload 4, 2) := by decide +kernel
theorem dH_load_36 : decode cH_load 36 = .ok (.imul, 1) := by decide +kernel
theorem dH_load_37 : decode cH_load 37 = .ok (.isub, 1) := by decide +kernel
theorem dH_load_38 : decode cH_load 38 = .ok (.iushr, 1) := by decide +kernel
theorem dH_load_39 : decode cH_load 39 = .ok (.invokevirtual 25, 3) := by decide +kernel
theorem dH_load_42 : decode cH_load 42 = .ok (.iinc 4 1, 3) := by decide +kernel
theorem dH_load_45 : decode cH_load 45 = .ok (.goto (-30), 3) := by decide +kernel
theorem dH_load_48 : decode cH_load 48 = .ok (.iconst 1, 1) := by decide +kernel
theorem dH_load_49 : decode cH_load 49 = .ok (.ireturn, 1) := by decide +kernel
theorem dH_peek_0 : decode cH_peek 0 = .ok (.aload_n 0, 1) := by decide +kernel
theorem dH_peek_1 : decode cH_peek 1 = .ok (.getfield 10, 3) := by decide +kernel
theorem dH_peek_4 : decode cH_peek 4 = .ok (.iload_n 1, 1) := by decide +kernel
theorem dH_peek_5 : decode cH_peek 5 = .ok (.invokevirtual 29, 3) := by decide +kernel
theorem dH_peek_8 : decode cH_peek 8 = .ok (.ireturn, 1) := by decide +kernel
theorem dH_set_0 : decode cH_set 0 = .ok (.aload_n 0, 1) := by decide +kernel
theorem dH_set_1 : decode cH_set 1 = .ok (.getfield 21, 3) := by decide +kernel
theorem dH_set_4 : decode cH_set 4 = .ok (.getfield 33, 3) := by decide +kernel
theorem dH_set_7 : decode cH_set 7 = .ok (.iload_n 1, 1) := by decide +kernel
theorem dH_set_8 : decode cH_set 8 = .ok (.iload_n 2, 1) := by decide +kernel
theorem dH_set_9 : decode cH_set 9 = .ok (.invokevirtual 37, 3) := by decide +kernel
theorem dH_set_12 : decode cH_set 12 = .ok (.ireturn, 1) := by decide +kernel
theorem dH_register_0 : decode cH_register 0 = .ok (.aload_n 0, 1) := by decide +kernel
theorem dH_register_1 : decode cH_register 1 = .ok (.getfield 21, 3) := by decide +kernel
theorem dH_register_4 : decode cH_register 4 = .ok (.getfield 33, 3) := by decide +kernel
theorem dH_register_7 : decode cH_register 7 = .ok (.iload_n 1, 1) := by decide +kernel
theorem dH_register_8 : decode cH_register 8 = .ok (.invokevirtual 43, 3) := by decide +kernel
theorem dH_register_11 : decode cH_register 11 = .ok (.ireturn, 1) := by decide +kernel
theorem dH_key_0 : decode cH_key 0 = .ok (.aload_n 0, 1) := by decide +kernel
theorem dH_key_1 : decode cH_key 1 = .ok (.getfield 10, 3) := by decide +kernel
theorem dH_key_4 : decode cH_key 4 = .ok (.getfield 46, 3) := by decide +kernel
theorem dH_key_7 : decode cH_key 7 = .ok (.iload_n 1, 1) := by decide +kernel
theorem dH_key_8 : decode cH_key 8 = .ok (.iload_n 2, 1) := by decide +kernel
theorem dH_key_9 : decode cH_key 9 = .ok (.iload_n 3, 1) := by decide +kernel
theorem dH_key_10 : decode cH_key 10 = .ok (.invokevirtual 50, 3) := by decide +kernel
theorem dH_key_13 : decode cH_key 13 = .ok (.ireturn, 1) := by decide +kernel
theorem dH_pulse_0 : decode cH_pulse 0 = .ok (.aload_n 0, 1) := by decide +kernel
theorem dH_pulse_1 : decode cH_pulse 1 = .ok (.getfield 10, 3) := by decide +kernel
theorem dH_pulse_4 : decode cH_pulse 4 = .ok (.getfield 56, 3) := by decide +kernel
theorem dH_pulse_7 : decode cH_pulse 7 = .ok (.aload_n 0, 1) := by decide +kernel
theorem dH_pulse_8 : decode cH_pulse 8 = .ok (.getfield 10, 3) := by decide +kernel
theorem dH_pulse_11 : decode cH_pulse 11 = .ok (.getfield 60, 3) := by decide +kernel
theorem dH_pulse_14 : decode cH_pulse 14 = .ok (.invokevirtual 64, 3) := by decide +kernel
theorem dH_pulse_17 : decode cH_pulse 17 = .ok (.aload_n 0, 1) := by decide +kernel
theorem dH_pulse_18 : decode cH_pulse 18 = .ok (.getfield 10, 3) := by decide +kernel
theorem dH_pulse_21 : decode cH_pulse 21 = .ok (.getfield 56, 3) := by decide +kernel
theorem dH_pulse_24 : decode cH_pulse 24 = .ok (.iload_n 1, 1) := by decide +kernel
theorem dH_pulse_25 : decode cH_pulse 25 = .ok (.invokevirtual 70, 3) := by decide +kernel
theorem dH_pulse_28 : decode cH_pulse 28 = .ok (.ireturn, 1) := by decide +kernel
theorem dH_tape_0 : decode cH_tape 0 = .ok (.aload_n 0, 1) := by decide +kernel
theorem dH_tape_1 : decode cH_tape 1 = .ok (.getfield 10, 3) := by decide +kernel
theorem dH_tape_4 : decode cH_tape 4 = .ok (.getfield 56, 3) := by decide +kernel
theorem dH_tape_7 : decode cH_tape 7 = .ok (.aload_n 0, 1) := by decide +kernel
theorem dH_tape_8 : decode cH_tape 8 = .ok (.getfield 10, 3) := by decide +kernel
theorem dH_tape_11 : decode cH_tape 11 = .ok (.getfield 60, 3) := by decide +kernel
theorem dH_tape_14 : decode cH_tape 14 = .ok (.invokevirtual 64, 3) := by decide +kernel
theorem dH_tape_17 : decode cH_tape 17 = .ok (.aload_n 0, 1) := by decide +kernel
theorem dH_tape_18 : decode cH_tape 18 = .ok (.getfield 10, 3) := by decide +kernel
theorem dH_tape_21 : decode cH_tape 21 = .ok (.getfield 56, 3) := by decide +kernel
theorem dH_tape_24 : decode cH_tape 24 = .ok (.iload_n 1, 1) := by decide +kernel
theorem dH_tape_25 : decode cH_tape 25 = .ok (.aload_n 0, 1) := by decide +kernel
theorem dH_tape_26 : decode cH_tape 26 = .ok (.getfield 10, 3) := by decide +kernel
theorem dH_tape_29 : decode cH_tape 29 = .ok (.getfield 60, 3) := by decide +kernel
theorem dH_tape_32 : decode cH_tape 32 = .ok (.invokevirtual 74, 3) := by decide +kernel
theorem dH_tape_35 : decode cH_tape 35 = .ok (.ireturn, 1) := by decide +kernel
theorem dH_step_0 : decode cH_step 0 = .ok (.iload_n 1, 1) := by decide +kernel
theorem dH_step_1 : decode cH_step 1 = .ok (.iconst 1, 1) := by decide +kernel
theorem dH_step_2 : decode cH_step 2 = .ok (.if_icmp .lt 9, 3) := by decide +kernel
theorem dH_step_5 : decode cH_step 5 = .ok (.iload_n 1, 1) := by decide +kernel
theorem dH_step_6 : decode cH_step 6 = .ok (.bipush 100, 2) := by decide +kernel
theorem dH_step_8 : decode cH_step 8 = .ok (.if_icmp .le 5, 3) := by decide +kernel
theorem dH_step_11 : decode cH_step 11 = .ok (.iconst (-1), 1) := by decide +kernel
theorem dH_step_12 : decode cH_step 12 = .ok (.ireturn, 1) := by decide +kernel
theorem dH_step_13 : decode cH_step 13 = .ok (.aload_n 0, 1) := by decide +kernel
theorem dH_step_14 : decode cH_step 14 = .ok (.getfield 10, 3) := by decide +kernel
theorem dH_step_17 : decode cH_step 17 = .ok (.getfield 60, 3) := by decide +kernel
theorem dH_step_20 : decode cH_step 20 = .ok (.istore_n 2, 1) := by decide +kernel
theorem dH_step_21 : decode cH_step 21 = .ok (.iconst 0, 1) := by decide +kernel
theorem dH_step_22 : decode cH_step 22 = .ok (.istore_n 3, 1) := by decide +kernel
theorem dH_step_23 : decode cH_step 23 = .ok (.iload_n 3, 1) := by decide +kernel
theorem dH_step_24 : decode cH_step 24 = .ok (.iload_n 1, 1) := by decide +kernel
theorem dH_step_25 : decode cH_step 25 = .ok (.if_icmp .ge 16, 3) := by decide +kernel
theorem dH_step_28 : decode cH_step 28 = .ok (.aload_n 0, 1) := by decide +kernel
theorem dH_step_29 : decode cH_step 29 = .ok (.getfield 21, 3) := by decide +kernel
theorem dH_step_32 : decode cH_step 32 = .ok (.invokevirtual 77, 3) := by decide +kernel
theorem dH_step_35 : decode cH_step 35 = .ok (.iinc 3 1, 3) := by decide +kernel
theorem dH_step_38 : decode cH_step 38 = .ok (.goto (-15), 3) := by decide +kernel
theorem dH_step_41 : decode cH_step 41 = .ok (.aload_n 0, 1) := by decide +kernel
theorem dH_step_42 : decode cH_step 42 = .ok (.getfield 10, 3) := by decide +kernel
theorem dH_step_45 : decode cH_step 45 = .ok (.getfield 60, 3) := by decide +kernel
theorem dH_step_48 : decode cH_step 48 = .ok (.iload_n 2, 1) := by decide +kernel
theorem dH_step_49 : decode cH_step 49 = .ok (.isub, 1) := by decide +kernel
theorem dH_step_50 : decode cH_step 50 = .ok (.ireturn, 1) := by decide +kernel
theorem dH_frame_0 : decode cH_frame 0 = .ok (.aload_n 0, 1) := by decide +kernel
theorem dH_frame_1 : decode cH_frame 1 = .ok (.getfield 10, 3) := by decide +kernel
theorem dH_frame_4 : decode cH_frame 4 = .ok (.invokevirtual 80, 3) := by decide +kernel
theorem dH_frame_7 : decode cH_frame 7 = .ok (.istore_n 1, 1) := by decide +kernel
theorem dH_frame_8 : decode cH_frame 8 = .ok (.iconst 0, 1) := by decide +kernel
theorem dH_frame_9 : decode cH_frame 9 = .ok (.istore_n 2, 1) := by decide +kernel
theorem dH_frame_10 : decode cH_frame 10 = .ok (.iload_n 2, 1) := by decide +kernel
theorem dH_frame_11 : decode cH_frame 11 = .ok (.sipush 1100, 3) := by decide +kernel
theorem dH_frame_14 : decode cH_frame 14 = .ok (.if_icmp .ge 27, 3) := by decide +kernel
theorem dH_frame_17 : decode cH_frame 17 = .ok (.aload_n 0, 1) := by decide +kernel
theorem dH_frame_18 : decode cH_frame 18 = .ok (.getfield 10, 3) := by decide +kernel
theorem dH_frame_21 : decode cH_frame 21 = .ok (.invokevirtual 80, 3) := by decide +kernel
theorem dH_frame_24 : decode cH_frame 24 = .ok (.iload_n 1, 1) := by decide +kernel
theorem dH_frame_25 : decode cH_frame 25 = .ok (.if_icmp .ne 16, 3) := by decide +kernel
theorem dH_frame_28 : decode cH_frame 28 = .ok (.aload_n 0, 1) := by decide +kernel
theorem dH_frame_29 : decode cH_frame 29 = .ok (.getfield 21, 3) := by decide +kernel
theorem dH_frame_32 : decode cH_frame 32 = .ok (.invokevirtual 77, 3) := by decide +kernel
theorem dH_frame_35 : decode cH_frame 35 = .ok (.iinc 2 1, 3) := by decide +kernel
theorem dH_frame_38 : decode cH_frame 38 = .ok (.goto (-28), 3) := by decide +kernel
theorem dH_frame_41 : decode cH_frame 41 = .ok (.iload_n 2, 1) := by decide +kernel
theorem dH_frame_42 : decode cH_frame 42 = .ok (.ireturn, 1) := by decide +kernel
theorem dH_look_0 : decode cH_look 0 = .ok (.aload_n 0, 1) := by decide +kernel
theorem dH_look_1 : decode cH_look 1 = .ok (.getfield 10, 3) := by decide +kernel
theorem dH_look_4 : decode cH_look 4 = .ok (.getfield 56, 3) := by decide +kernel
theorem dH_look_7 : decode cH_look 7 = .ok (.aload_n 0, 1) := by decide +kernel
theorem dH_look_8 : decode cH_look 8 = .ok (.getfield 10, 3) := by decide +kernel
theorem dH_look_11 : decode cH_look 11 = .ok (.getfield 60, 3) := by decide +kernel
theorem dH_look_14 : decode cH_look 14 = .ok (.invokevirtual 64, 3) := by decide +kernel
theorem dH_look_17 : decode cH_look 17 = .ok (.iload_n 1, 1) := by decide +kernel
theorem dH_look_18 : decode cH_look 18 = .ok (.tableswitch 115 0 6 #[42, 50, 58, 66, 74, 85, 104], 42) := by decide +kernel
theorem dH_look_60 : decode cH_look 60 = .ok (.aload_n 0, 1) := by decide +kernel
theorem dH_look_61 : decode cH_look 61 = .ok (.getfield 10, 3) := by decide +kernel
theorem dH_look_64 : decode cH_look 64 = .ok (.invokevirtual 80, 3) := by decide +kernel
theorem dH_look_67 : decode cH_look 67 = .ok (.ireturn, 1) := by decide +kernel
theorem dH_look_68 : decode cH_look 68 = .ok (.aload_n 0, 1) := by decide +kernel
theorem dH_look_69 : decode cH_look 69 = .ok (.getfield 10, 3) := by decide +kernel
theorem dH_look_72 : decode cH_look 72 = .ok (.invokevirtual 84, 3) := by decide +kernel
theorem dH_look_75 : decode cH_look 75 = .ok (.ireturn, 1) := by decide +kernel
theorem dH_look_76 : decode cH_look 76 = .ok (.aload_n 0, 1) := by decide +kernel
theorem dH_look_77 : decode cH_look 77 = .ok (.getfield 10, 3) := by decide +kernel
theorem dH_look_80 : decode cH_look 80 = .ok (.getfield 87, 3) := by decide +kernel
theorem dH_look_83 : decode cH_look 83 = .ok (.ireturn, 1) := by decide +kernel
theorem dH_look_84 : decode cH_look 84 = .ok (.aload_n 0, 1) := by decide +kernel
theorem dH_look_85 : decode cH_look 85 = .ok (.getfield 10, 3) := by decide +kernel
theorem dH_look_88 : decode cH_look 88 = .ok (.getfield 90, 3) := by decide +kernel
theorem dH_look_91 : decode cH_look 91 = .ok (.ireturn, 1) := by decide +kernel
theorem dH_look_92 : decode cH_look 92 = .ok (.aload_n 0, 1) := by decide +kernel
theorem dH_look_93 : decode cH_look 93 = .ok (.getfield 10, 3) := by decide +kernel
theorem dH_look_96 : decode cH_look 96 = .ok (.getfield 56, 3) := by decide +kernel
theorem dH_look_99 : decode cH_look 99 = .ok (.invokevirtual 93, 3) := by decide +kernel
theorem dH_look_102 : decode cH_look 102 = .ok (.ireturn, 1) := by decide +kernel
theorem dH_look_103 : decode cH_look 103 = .ok (.aload_n 0, 1) := by decide +kernel
theorem dH_look_104 : decode cH_look 104 = .ok (.getfield 10, 3) := by decide +kernel
theorem dH_look_107 : decode cH_look 107 = .ok (.getfield 56, 3) := by decide +kernel
theorem dH_look_110 : decode cH_look 110 = .ok (.getfield 96, 3) := by decide +kernel
theorem dH_look_113 : decode cH_look 113 = .ok (.ifCond .eq 7, 3) := by decide +kernel
theorem dH_look_116 : decode cH_look 116 = .ok (.iconst 1, 1) := by decide +kernel
theorem dH_look_117 : decode cH_look 117 = .ok (.goto 4, 3) := by decide +kernel
theorem dH_look_120 : decode cH_look 120 = .ok (.iconst 0, 1) := by decide +kernel
theorem dH_look_121 : decode cH_look 121 = .ok (.ireturn, 1) := by decide +kernel
theorem dH_look_122 : decode cH_look 122 = .ok (.aload_n 0, 1) := by decide +kernel
theorem dH_look_123 : decode cH_look 123 = .ok (.getfield 10, 3) := by decide +kernel
theorem dH_look_126 : decode cH_look 126 = .ok (.getfield 56, 3) := by decide +kernel
theorem dH_look_129 : decode cH_look 129 = .ok (.getfield 100, 3) := by decide +kernel
theorem dH_look_132 : decode cH_look 132 = .ok (.ireturn, 1) := by decide +kernel
theorem dH_look_133 : decode cH_look 133 = .ok (.iconst (-1), 1) := by decide +kernel
theorem dH_look_134 : decode cH_look 134 = .ok (.ireturn, 1) := by decide +kernel
theorem dH_stripe_0 : decode cH_stripe 0 = .ok (.iload_n 1, 1) := by decide +kernel
theorem dH_stripe_1 : decode cH_stripe 1 = .ok (.ifCond .lt 9, 3) := by decide +kernel
theorem dH_stripe_4 : decode cH_stripe 4 = .ok (.iload_n 1, 1) := by decide +kernel
theorem dH_stripe_5 : decode cH_stripe 5 = .ok (.bipush 64, 2) := by decide +kernel
theorem dH_stripe_7 : decode cH_stripe 7 = .ok (.if_icmp .lt 5, 3) := by decide +kernel
theorem dH_stripe_10 : decode cH_stripe 10 = .ok (.iconst (-1), 1) := by decide +kernel
theorem dH_stripe_11 : decode cH_stripe 11 = .ok (.ireturn, 1) := by decide +kernel
theorem dH_stripe_12 : decode cH_stripe 12 = .ok (.aload_n 0, 1) := by decide +kernel
theorem dH_stripe_13 : decode cH_stripe 13 = .ok (.getfield 10, 3) := by decide +kernel
theorem dH_stripe_16 : decode cH_stripe 16 = .ok (.getfield 103, 3) := by decide +kernel
theorem dH_stripe_19 : decode cH_stripe 19 = .ok (.iload_n 1, 1) := by decide +kernel
theorem dH_stripe_20 : decode cH_stripe 20 = .ok (.iaload, 1) := by decide +kernel
theorem dH_stripe_21 : decode cH_stripe 21 = .ok (.ireturn, 1) := by decide +kernel
theorem dM_init_0 : decode cM_init 0 = .ok (.aload_n 0, 1) := by decide +kernel
theorem dM_init_1 : decode cM_init 1 = .ok (.invokespecial 1, 3) := by decide +kernel
theorem dM_init_4 : decode cM_init 4 = .ok (.aload_n 0, 1) := by decide +kernel
theorem dM_init_5 : decode cM_init 5 = .ok (.sipush 4096, 3) := by decide +kernel
theorem dM_init_8 : decode cM_init 8 = .ok (.newarray .int, 2) := by decide +kernel
theorem dM_init_10 : decode cM_init 10 = .ok (.putfield 7, 3) := by decide +kernel
theorem dM_init_13 : decode cM_init 13 = .ok (.aload_n 0, 1) := by decide +kernel
theorem dM_init_14 : decode cM_init 14 = .ok (.bipush 26, 2) := by decide +kernel
theorem dM_init_16 : decode cM_init 16 = .ok (.newarray .int, 2) := by decide +kernel
theorem dM_init_18 : decode cM_init 18 = .ok (.putfield 13, 3) := by decide +kernel
theorem dM_init_21 : decode cM_init 21 = .ok (.aload_n 0, 1) := by decide +kernel
theorem dM_init_22 : decode cM_init 22 = .ok (.bipush 40, 2) := by decide +kernel
theorem dM_init_24 : decode cM_init 24 = .ok (.newarray .boolean, 2) := by decide +kernel
theorem dM_init_26 : decode cM_init 26 = .ok (.putfield 16, 3) := by decide +kernel
theorem dM_init_29 : decode cM_init 29 = .ok (.aload_n 0, 1) := by decide +kernel
theorem dM_init_30 : decode cM_init 30 = .ok (.bipush 64, 2) := by decide +kernel
theorem dM_init_32 : decode cM_init 32 = .ok (.newarray .int, 2) := by decide +kernel
theorem dM_init_34 : decode cM_init 34 = .ok (.putfield 20, 3) := by decide +kernel
theorem dM_init_37 : decode cM_init 37 = .ok (.aload_n 0, 1) := by decide +kernel
theorem dM_init_38 : decode cM_init 38 = .ok (.bipush 40, 2) := by decide +kernel
theorem dM_init_40 : decode cM_init 40 = .ok (.newarray .int, 2) := by decide +kernel
theorem dM_init_42 : decode cM_init 42 = .ok (.putfield 23, 3) := by decide +kernel
theorem dM_init_45 : decode cM_init 45 = .ok (.return_, 1) := by decide +kernel
theorem dM_pass_0 : decode cM_pass 0 = .ok (.iconst 0, 1) := by decide +kernel
theorem dM_pass_1 : decode cM_pass 1 = .ok (.istore_n 2, 1) := by decide +kernel
theorem dM_pass_2 : decode cM_pass 2 = .ok (.iload_n 2, 1) := by decide +kernel
theorem dM_pass_3 : decode cM_pass 3 = .ok (.iload_n 1, 1) := by decide +kernel
theorem dM_pass_4 : decode cM_pass 4 = .ok (.if_icmp .ge 49, 3) := by decide +kernel
theorem dM_pass_7 : decode cM_pass 7 = .ok (.aload_n 0, 1) := by decide +kernel
theorem dM_pass_8 : decode cM_pass 8 = .ok (.dup, 1) := by decide +kernel
theorem dM_pass_9 : decode cM_pass 9 = .ok (.getfield 26, 3) := by decide +kernel
theorem dM_pass_12 : decode cM_pass 12 = .ok (.iconst 1, 1) := by decide +kernel
theorem dM_pass_13 : decode cM_pass 13 = .ok (.iadd, 1) := by decide +kernel
theorem dM_pass_14 : decode cM_pass 14 = .ok (.putfield 26, 3) := by decide +kernel
theorem dM_pass_17 : decode cM_pass 17 = .ok (.aload_n 0, 1) := by decide +kernel
theorem dM_pass_18 : decode cM_pass 18 = .ok (.getfield 26, 3) := by decide +kernel
theorem dM_pass_21 : decode cM_pass 21 = .ok (.bipush 64, 2) := by decide +kernel
theorem dM_pass_23 : decode cM_pass 23 = .ok (.irem, 1) := by decide +kernel
theorem dM_pass_24 : decode cM_pass 24 = .ok (.ifCond .ne 23, 3) := by decide +kernel
theorem dM_pass_27 : decode cM_pass 27 = .ok (.aload_n 0, 1) := by decide +kernel
theorem dM_pass_28 : decode cM_pass 28 = .ok (.getfield 20, 3) := by decide +kernel
theorem dM_pass_31 : decode cM_pass 31 = .ok (.aload_n 0, 1) := by decide +kernel
theorem dM_pass_32 : decode cM_pass 32 = .ok (.getfield 26, 3) := by decide +kernel
theorem dM_pass_35 : decode cM_pass 35 = .ok (.sipush 4096, 3) := by decide +kernel
theorem dM_pass_38 : decode cM_pass 38 = .ok (.irem, 1) := by decide +kernel
theorem dM_pass_39 : decode cM_pass 39 = .ok (.bipush 64, 2) := by decide +kernel
theorem dM_pass_41 : decode cM_pass 41 = .ok (.idiv, 1) := by decide +kernel
theorem dM_pass_42 : decode cM_pass 42 = .ok (.aload_n 0, 1) := by decide +kernel
theorem dM_pass_43 : decode cM_pass 43 = .ok (.getfield 30, 3) := by decide +kernel
theorem dM_pass_46 : decode cM_pass 46 = .ok (.iastore, 1) := by decide +kernel
theorem dM_pass_47 : decode cM_pass 47 = .ok (.iinc 2 1, 3) := by decide +kernel
theorem dM_pass_50 : decode cM_pass 50 = .ok (.goto (-48), 3) := by decide +kernel
theorem dM_pass_53 : decode cM_pass 53 = .ok (.return_, 1) := by decide +kernel
theorem dM_slow_0 : decode cM_slow 0 = .ok (.aload_n 0, 1) := by decide +kernel
theorem dM_slow_1 : decode cM_slow 1 = .ok (.getfield 26, 3) := by decide +kernel
theorem dM_slow_4 : decode cM_slow 4 = .ok (.sipush 4096, 3) := by decide +kernel
theorem dM_slow_7 : decode cM_slow 7 = .ok (.irem, 1) := by decide +kernel
theorem dM_slow_8 : decode cM_slow 8 = .ok (.bipush 64, 2) := by decide +kernel
theorem dM_slow_10 : decode cM_slow 10 = .ok (.idiv, 1) := by decide +kernel
theorem dM_slow_11 : decode cM_slow 11 = .ok (.istore_n 1, 1) := by decide +kernel
theorem dM_slow_12 : decode cM_slow 12 = .ok (.aload_n 0, 1) := by decide +kernel
theorem dM_slow_13 : decode cM_slow 13 = .ok (.getfield 26, 3) := by decide +kernel
theorem dM_slow_16 : decode cM_slow 16 = .ok (.bipush 64, 2) := by decide +kernel
theorem dM_slow_18 : decode cM_slow 18 = .ok (.irem, 1) := by decide +kernel
theorem dM_slow_19 : decode cM_slow 19 = .ok (.istore_n 2, 1) := by decide +kernel
theorem dM_slow_20 : decode cM_slow 20 = .ok (.iload_n 1, 1) := by decide +kernel
theorem dM_slow_21 : decode cM_slow 21 = .ok (.bipush 16, 2) := by decide +kernel
theorem dM_slow_23 : decode cM_slow 23 = .ok (.if_icmp .lt 35, 3) := by decide +kernel
theorem dM_slow_26 : decode cM_slow 26 = .ok (.iload_n 1, 1) := by decide +kernel
theorem dM_slow_27 : decode cM_slow 27 = .ok (.bipush 48, 2) := by decide +kernel
theorem dM_slow_29 : decode cM_slow 29 = .ok (.if_icmp .ge 29, 3) := by decide +kernel
theorem dM_slow_32 : decode cM_slow 32 = .ok (.iload_n 2, 1) := by decide +kernel
theorem dM_slow_33 : decode cM_slow 33 = .ok (.bipush 32, 2) := by decide +kernel
theorem dM_slow_35 : decode cM_slow 35 = .ok (.if_icmp .ge 23, 3) := by decide +kernel
theorem dM_slow_38 : decode cM_slow 38 = .ok (.iload_n 2, 1) := by decide +kernel
theorem dM_slow_39 : decode cM_slow 39 = .ok (.bipush 7, 2) := by decide +kernel
theorem dM_slow_41 : decode cM_slow 41 = .ok (.iand, 1) := by decide +kernel
theorem dM_slow_42 : decode cM_slow 42 = .ok (.bipush 6, 2) := by decide +kernel
theorem dM_slow_44 : decode cM_slow 44 = .ok (.if_icmp .ge 14, 3) := by decide +kernel
theorem dM_slow_47 : decode cM_slow 47 = .ok (.aload_n 0, 1) := by decide +kernel
theorem dM_slow_48 : decode cM_slow 48 = .ok (.bipush 6, 2) := by decide +kernel
theorem dM_slow_50 : decode cM_slow 50 = .ok (.iload_n 2, 1) := by decide +kernel
theorem dM_slow_51 : decode cM_slow 51 = .ok (.bipush 7, 2) := by decide +kernel
theorem dM_slow_53 : decode cM_slow 53 = .ok (.iand, 1) := by decide +kernel
theorem dM_slow_54 : decode cM_slow 54 = .ok (.isub, 1) := by decide +kernel
theorem dM_slow_55 : decode cM_slow 55 = .ok (.invokevirtual 33, 3) := by decide +kernel
theorem dM_slow_58 : decode cM_slow 58 = .ok (.return_, 1) := by decide +kernel
theorem dM_reach_0 : decode cM_reach 0 = .ok (.iload_n 1, 1) := by decide +kernel
theorem dM_reach_1 : decode cM_reach 1 = .ok (.sipush 4095, 3) := by decide +kernel
theorem dM_reach_4 : decode cM_reach 4 = .ok (.iand, 1) := by decide +kernel
theorem dM_reach_5 : decode cM_reach 5 = .ok (.istore_n 3, 1) := by decide +kernel
theorem dM_reach_6 : decode cM_reach 6 = .ok (.iload_n 3, 1) := by decide +kernel
theorem dM_reach_7 : decode cM_reach 7 = .ok (.sipush 1024, 3) := by decide +kernel
theorem dM_reach_10 : decode cM_reach 10 = .ok (.if_icmp .lt 14, 3) := by decide +kernel
theorem dM_reach_13 : decode cM_reach 13 = .ok (.iload_n 3, 1) := by decide +kernel
theorem dM_reach_14 : decode cM_reach 14 = .ok (.sipush 2048, 3) := by decide +kernel
theorem dM_reach_17 : decode cM_reach 17 = .ok (.if_icmp .ge 7, 3) := by decide +kernel
theorem dM_reach_20 : decode cM_reach 20 = .ok (.aload_n 0, 1) := by decide +kernel
theorem dM_reach_21 : decode cM_reach 21 = .ok (.invokevirtual 37, 3) := by decide +kernel
theorem dM_reach_24 : decode cM_reach 24 = .ok (.aload_n 0, 1) := by decide +kernel
theorem dM_reach_25 : decode cM_reach 25 = .ok (.iload_n 2, 1) := by decide +kernel
theorem dM_reach_26 : decode cM_reach 26 = .ok (.invokevirtual 33, 3) := by decide +kernel
theorem dM_reach_29 : decode cM_reach 29 = .ok (.return_, 1) := by decide +kernel
theorem dM_read_0 : decode cM_read 0 = .ok (.aload_n 0, 1) := by decide +kernel
theorem dM_read_1 : decode cM_read 1 = .ok (.iload_n 1, 1) := by decide +kernel
theorem dM_read_2 : decode cM_read 2 = .ok (.iconst 3, 1) := by decide +kernel
theorem dM_read_3 : decode cM_read 3 = .ok (.invokevirtual 40, 3) := by decide +kernel
theorem dM_read_6 : decode cM_read 6 = .ok (.aload_n 0, 1) := by decide +kernel
theorem dM_read_7 : decode cM_read 7 = .ok (.getfield 7, 3) := by decide +kernel
theorem dM_read_10 : decode cM_read 10 = .ok (.iload_n 1, 1) := by decide +kernel
theorem dM_read_11 : decode cM_read 11 = .ok (.sipush 4095, 3) := by decide +kernel
theorem dM_read_14 : decode cM_read 14 = .ok (.iand, 1) := by decide +kernel
theorem dM_read_15 : decode cM_read 15 = .ok (.iaload, 1) := by decide +kernel
theorem dM_read_16 : decode cM_read 16 = .ok (.ireturn, 1) := by decide +kernel
theorem dM_write_0 : decode cM_write 0 = .ok (.aload_n 0, 1) := by decide +kernel
theorem dM_write_1 : decode cM_write 1 = .ok (.iload_n 1, 1) := by decide +kernel
theorem dM_write_2 : decode cM_write 2 = .ok (.iconst 3, 1) := by decide +kernel
theorem dM_write_3 : decode cM_write 3 = .ok (.invokevirtual 40, 3) := by decide +kernel
theorem dM_write_6 : decode cM_write 6 = .ok (.iload_n 1, 1) := by decide +kernel
theorem dM_write_7 : decode cM_write 7 = .ok (.sipush 4095, 3) := by decide +kernel
theorem dM_write_10 : decode cM_write 10 = .ok (.iand, 1) := by decide +kernel
theorem dM_write_11 : decode cM_write 11 = .ok (.sipush 1024, 3) := by decide +kernel
theorem dM_write_14 : decode cM_write 14 = .ok (.if_icmp .lt 18, 3) := by decide +kernel
theorem dM_write_17 : decode cM_write 17 = .ok (.aload_n 0, 1) := by decide +kernel
theorem dM_write_18 : decode cM_write 18 = .ok (.getfield 7, 3) := by decide +kernel
theorem dM_write_21 : decode cM_write 21 = .ok (.iload_n 1, 1) := by decide +kernel
theorem dM_write_22 : decode cM_write 22 = .ok (.sipush 4095, 3) := by decide +kernel
theorem dM_write_25 : decode cM_write 25 = .ok (.iand, 1) := by decide +kernel
theorem dM_write_26 : decode cM_write 26 = .ok (.iload_n 2, 1) := by decide +kernel
theorem dM_write_27 : decode cM_write 27 = .ok (.sipush 255, 3) := by decide +kernel
theorem dM_write_30 : decode cM_write 30 = .ok (.iand, 1) := by decide +kernel
theorem dM_write_31 : decode cM_write 31 = .ok (.iastore, 1) := by decide +kernel
theorem dM_write_32 : decode cM_write 32 = .ok (.return_, 1) := by decide +kernel
theorem dM_refresh_0 : decode cM_refresh 0 = .ok (.aload_n 0, 1) := by decide +kernel
theorem dM_refresh_1 : decode cM_refresh 1 = .ok (.getfield 13, 3) := by decide +kernel
theorem dM_refresh_4 : decode cM_refresh 4 = .ok (.bipush 17, 2) := by decide +kernel
theorem dM_refresh_6 : decode cM_refresh 6 = .ok (.aload_n 0, 1) := by decide +kernel
theorem dM_refresh_7 : decode cM_refresh 7 = .ok (.getfield 13, 3) := by decide +kernel
theorem dM_refresh_10 : decode cM_refresh 10 = .ok (.bipush 17, 2) := by decide +kernel
theorem dM_refresh_12 : decode cM_refresh 12 = .ok (.iaload, 1) := by decide +kernel
theorem dM_refresh_13 : decode cM_refresh 13 = .ok (.sipush 128, 3) := by decide +kernel
theorem dM_refresh_16 : decode cM_refresh 16 = .ok (.iand, 1) := by decide +kernel
theorem dM_refresh_17 : decode cM_refresh 17 = .ok (.aload_n 0, 1) := by decide +kernel
theorem dM_refresh_18 : decode cM_refresh 18 = .ok (.getfield 13, 3) := by decide +kernel
theorem dM_refresh_21 : decode cM_refresh 21 = .ok (.bipush 17, 2) := by decide +kernel
theorem dM_refresh_23 : decode cM_refresh 23 = .ok (.iaload, 1) := by decide +kernel
theorem dM_refresh_24 : decode cM_refresh 24 = .ok (.iconst 1, 1) := by decide +kernel
theorem dM_refresh_25 : decode cM_refresh 25 = .ok (.iadd, 1) := by decide +kernel
theorem dM_refresh_26 : decode cM_refresh 26 = .ok (.bipush 127, 2) := by decide +kernel
theorem dM_refresh_28 : decode cM_refresh 28 = .ok (.iand, 1) := by decide +kernel
theorem dM_refresh_29 : decode cM_refresh 29 = .ok (.ior, 1) := by decide +kernel
theorem dM_refresh_30 : decode cM_refresh 30 = .ok (.iastore, 1) := by decide +kernel
theorem dM_refresh_31 : decode cM_refresh 31 = .ok (.return_, 1) := by decide +kernel
theorem dM_fetch_0 : decode cM_fetch 0 = .ok (.aload_n 0, 1) := by decide +kernel
theorem dM_fetch_1 : decode cM_fetch 1 = .ok (.getfield 7, 3) := by decide +kernel
theorem dM_fetch_4 : decode cM_fetch 4 = .ok (.aload_n 0, 1) := by decide +kernel
theorem dM_fetch_5 : decode cM_fetch 5 = .ok (.getfield 13, 3) := by decide +kernel
theorem dM_fetch_8 : decode cM_fetch 8 = .ok (.bipush 21, 2) := by decide +kernel
theorem dM_fetch_10 : decode cM_fetch 10 = .ok (.iaload, 1) := by decide +kernel
theorem dM_fetch_11 : decode cM_fetch 11 = .ok (.sipush 4095, 3) := by decide +kernel
theorem dM_fetch_14 : decode cM_fetch 14 = .ok (.iand, 1) := by decide +kernel
theorem dM_fetch_15 : decode cM_fetch 15 = .ok (.iaload, 1) := by decide +kernel
theorem dM_fetch_16 : decode cM_fetch 16 = .ok (.istore_n 1, 1) := by decide +kernel
theorem dM_fetch_17 : decode cM_fetch 17 = .ok (.aload_n 0, 1) := by decide +kernel
theorem dM_fetch_18 : decode cM_fetch 18 = .ok (.aload_n 0, 1) := by decide +kernel
theorem dM_fetch_19 : decode cM_fetch 19 = .ok (.getfield 13, 3) := by decide +kernel
theorem dM_fetch_22 : decode cM_fetch 22 = .ok (.bipush 21, 2) := by decide +kernel
theorem dM_fetch_24 : decode cM_fetch 24 = .ok (.iaload, 1) := by decide +kernel
theorem dM_fetch_25 : decode cM_fetch 25 = .ok (.iconst 4, 1) := by decide +kernel
theorem dM_fetch_26 : decode cM_fetch 26 = .ok (.invokevirtual 40, 3) := by decide +kernel
theorem dM_fetch_29 : decode cM_fetch 29 = .ok (.aload_n 0, 1) := by decide +kernel
theorem dM_fetch_30 : decode cM_fetch 30 = .ok (.getfield 13, 3) := by decide +kernel
theorem dM_fetch_33 : decode cM_fetch 33 = .ok (.bipush 21, 2) := by decide +kernel
theorem dM_fetch_35 : decode cM_fetch 35 = .ok (.aload_n 0, 1) := by decide +kernel
theorem dM_fetch_36 : decode cM_fetch 36 = .ok (.getfield 13, 3) := by decide +kernel
theorem dM_fetch_39 : decode cM_fetch 39 = .ok (.bipush 21, 2) := by decide +kernel
theorem dM_fetch_41 : decode cM_fetch 41 = .ok (.iaload, 1) := by decide +kernel
theorem dM_fetch_42 : decode cM_fetch 42 = .ok (.iconst 1, 1) := by decide +kernel
theorem dM_fetch_43 : decode cM_fetch 43 = .ok (.iadd, 1) := by decide +kernel
theorem dM_fetch_44 : decode cM_fetch 44 = .ok (.ldc 44, 2) := by decide +kernel
theorem dM_fetch_46 : decode cM_fetch 46 = .ok (.iand, 1) := by decide +kernel
theorem dM_fetch_47 : decode cM_fetch 47 = .ok (.iastore, 1) := by decide +kernel
theorem dM_fetch_48 : decode cM_fetch 48 = .ok (.aload_n 0, 1) := by decide +kernel
theorem dM_fetch_49 : decode cM_fetch 49 = .ok (.invokevirtual 45, 3) := by decide +kernel
theorem dM_fetch_52 : decode cM_fetch 52 = .ok (.iload_n 1, 1) := by decide +kernel
theorem dM_fetch_53 : decode cM_fetch 53 = .ok (.ireturn, 1) := by decide +kernel
theorem dM_next_0 : decode cM_next 0 = .ok (.aload_n 0, 1) := by decide +kernel
theorem dM_next_1 : decode cM_next 1 = .ok (.aload_n 0, 1) := by decide +kernel
theorem dM_next_2 : decode cM_next 2 = .ok (.getfield 13, 3) := by decide +kernel
theorem dM_next_5 : decode cM_next 5 = .ok (.bipush 21, 2) := by decide +kernel
theorem dM_next_7 : decode cM_next 7 = .ok (.iaload, 1) := by decide +kernel
theorem dM_next_8 : decode cM_next 8 = .ok (.invokevirtual 48, 3) := by decide +kernel
theorem dM_next_11 : decode cM_next 11 = .ok (.istore_n 1, 1) := by decide +kernel
theorem dM_next_12 : decode cM_next 12 = .ok (.aload_n 0, 1) := by decide +kernel
theorem dM_next_13 : decode cM_next 13 = .ok (.getfield 13, 3) := by decide +kernel
theorem dM_next_16 : decode cM_next 16 = .ok (.bipush 21, 2) := by decide +kernel
theorem dM_next_18 : decode cM_next 18 = .ok (.aload_n 0, 1) := by decide +kernel
theorem dM_next_19 : decode cM_next 19 = .ok (.getfield 13, 3) := by decide +kernel
theorem dM_next_22 : decode cM_next 22 = .ok (.bipush 21, 2) := by decide +kernel
theorem dM_next_24 : decode cM_next 24 = .ok (.iaload, 1) := by decide +kernel
theorem dM_next_25 : decode cM_next 25 = .ok (.iconst 1, 1) := by decide +kernel
theorem dM_next_26 : decode cM_next 26 = .ok (.iadd, 1) := by decide +kernel
theorem dM_next_27 : decode cM_next 27 = .ok (.ldc 44, 2) := by decide +kernel
theorem dM_next_29 : decode cM_next 29 = .ok (.iand, 1) := by decide +kernel
theorem dM_next_30 : decode cM_next 30 = .ok (.iastore, 1) := by decide +kernel
theorem dM_next_31 : decode cM_next 31 = .ok (.iload_n 1, 1) := by decide +kernel
theorem dM_next_32 : decode cM_next 32 = .ok (.ireturn, 1) := by decide +kernel
theorem dM_signed_0 : decode cM_signed 0 = .ok (.iload_n 0, 1) := by decide +kernel
theorem dM_signed_1 : decode cM_signed 1 = .ok (.bipush 127, 2) := by decide +kernel
theorem dM_signed_3 : decode cM_signed 3 = .ok (.if_icmp .le 11, 3) := by decide +kernel
theorem dM_signed_6 : decode cM_signed 6 = .ok (.iload_n 0, 1) := by decide +kernel
theorem dM_signed_7 : decode cM_signed 7 = .ok (.sipush 256, 3) := by decide +kernel
theorem dM_signed_10 : decode cM_signed 10 = .ok (.isub, 1) := by decide +kernel
theorem dM_signed_11 : decode cM_signed 11 = .ok (.goto 4, 3) := by decide +kernel
theorem dM_signed_14 : decode cM_signed 14 = .ok (.iload_n 0, 1) := by decide +kernel
theorem dM_signed_15 : decode cM_signed 15 = .ok (.ireturn, 1) := by decide +kernel
theorem dM_twoNext_0 : decode cM_twoNext 0 = .ok (.aload_n 0, 1) := by decide +kernel
theorem dM_twoNext_1 : decode cM_twoNext 1 = .ok (.invokevirtual 52, 3) := by decide +kernel
theorem dM_twoNext_4 : decode cM_twoNext 4 = .ok (.istore_n 1, 1) := by decide +kernel
theorem dM_twoNext_5 : decode cM_twoNext 5 = .ok (.aload_n 0, 1) := by decide +kernel
theorem dM_twoNext_6 : decode cM_twoNext 6 = .ok (.invokevirtual 52, 3) := by decide +kernel
theorem dM_twoNext_9 : decode cM_twoNext 9 = .ok (.istore_n 2, 1) := by decide +kernel
theorem dM_twoNext_10 : decode cM_twoNext 10 = .ok (.sipush 256, 3) := by decide +kernel
theorem dM_twoNext_13 : decode cM_twoNext 13 = .ok (.iload_n 2, 1) := by decide +kernel
theorem dM_twoNext_14 : decode cM_twoNext 14 = .ok (.imul, 1) := by decide +kernel
theorem dM_twoNext_15 : decode cM_twoNext 15 = .ok (.iload_n 1, 1) := by decide +kernel
theorem dM_twoNext_16 : decode cM_twoNext 16 = .ok (.iadd, 1) := by decide +kernel
theorem dM_twoNext_17 : decode cM_twoNext 17 = .ok (.ireturn, 1) := by decide +kernel
theorem dM_two_0 : decode cM_two 0 = .ok (.aload_n 0, 1) := by decide +kernel
theorem dM_two_1 : decode cM_two 1 = .ok (.iload_n 1, 1) := by decide +kernel
theorem dM_two_2 : decode cM_two 2 = .ok (.invokevirtual 48, 3) := by decide +kernel
theorem dM_two_5 : decode cM_two 5 = .ok (.istore_n 2, 1) := by decide +kernel
theorem dM_two_6 : decode cM_two 6 = .ok (.aload_n 0, 1) := by decide +kernel
theorem dM_two_7 : decode cM_two 7 = .ok (.iload_n 1, 1) := by decide +kernel
theorem dM_two_8 : decode cM_two 8 = .ok (.iconst 1, 1) := by decide +kernel
theorem dM_two_9 : decode cM_two 9 = .ok (.iadd, 1) := by decide +kernel
theorem dM_two_10 : decode cM_two 10 = .ok (.invokevirtual 48, 3) := by decide +kernel
theorem dM_two_13 : decode cM_two 13 = .ok (.istore_n 3, 1) := by decide +kernel
theorem dM_two_14 : decode cM_two 14 = .ok (.sipush 256, 3) := by decide +kernel
theorem dM_two_17 : decode cM_two 17 = .ok (.iload_n 3, 1) := by decide +kernel
theorem dM_two_18 : decode cM_two 18 = .ok (.imul, 1) := by decide +kernel
theorem dM_two_19 : decode cM_two 19 = .ok (.iload_n 2, 1) := by decide +kernel
theorem dM_two_20 : decode cM_two 20 = .ok (.iadd, 1) := by decide +kernel
theorem dM_two_21 : decode cM_two 21 = .ok (.ireturn, 1) := by decide +kernel
theorem dM_setTwo_0 : decode cM_setTwo 0 = .ok (.aload_n 0, 1) := by decide +kernel
theorem dM_setTwo_1 : decode cM_setTwo 1 = .ok (.iload_n 1, 1) := by decide +kernel
theorem dM_setTwo_2 : decode cM_setTwo 2 = .ok (.iload_n 2, 1) := by decide +kernel
theorem dM_setTwo_3 : decode cM_setTwo 3 = .ok (.invokevirtual 56, 3) := by decide +kernel
theorem dM_setTwo_6 : decode cM_setTwo 6 = .ok (.aload_n 0, 1) := by decide +kernel
theorem dM_setTwo_7 : decode cM_setTwo 7 = .ok (.iload_n 1, 1) := by decide +kernel
theorem dM_setTwo_8 : decode cM_setTwo 8 = .ok (.iconst 1, 1) := by decide +kernel
theorem dM_setTwo_9 : decode cM_setTwo 9 = .ok (.iadd, 1) := by decide +kernel
theorem dM_setTwo_10 : decode cM_setTwo 10 = .ok (.iload_n 2, 1) := by decide +kernel
theorem dM_setTwo_11 : decode cM_setTwo 11 = .ok (.bipush 8, 2) := by decide +kernel
theorem dM_setTwo_13 : decode cM_setTwo 13 = .ok (.ishr, 1) := by decide +kernel
theorem dM_setTwo_14 : decode cM_setTwo 14 = .ok (.invokevirtual 56, 3) := by decide +kernel
theorem dM_setTwo_17 : decode cM_setTwo 17 = .ok (.return_, 1) := by decide +kernel
theorem dM_pair_0 : decode cM_pair 0 = .ok (.sipush 256, 3) := by decide +kernel
theorem dM_pair_3 : decode cM_pair 3 = .ok (.aload_n 0, 1) := by decide +kernel
theorem dM_pair_4 : decode cM_pair 4 = .ok (.getfield 13, 3) := by decide +kernel
theorem dM_pair_7 : decode cM_pair 7 = .ok (.iload_n 1, 1) := by decide +kernel
theorem dM_pair_8 : decode cM_pair 8 = .ok (.iaload, 1) := by decide +kernel
theorem dM_pair_9 : decode cM_pair 9 = .ok (.imul, 1) := by decide +kernel
theorem dM_pair_10 : decode cM_pair 10 = .ok (.aload_n 0, 1) := by decide +kernel
theorem dM_pair_11 : decode cM_pair 11 = .ok (.getfield 13, 3) := by decide +kernel
theorem dM_pair_14 : decode cM_pair 14 = .ok (.iload_n 1, 1) := by decide +kernel
theorem dM_pair_15 : decode cM_pair 15 = .ok (.iconst 1, 1) := by decide +kernel
theorem dM_pair_16 : decode cM_pair 16 = .ok (.iadd, 1) := by decide +kernel
theorem dM_pair_17 : decode cM_pair 17 = .ok (.iaload, 1) := by decide +kernel
theorem dM_pair_18 : decode cM_pair 18 = .ok (.iadd, 1) := by decide +kernel
theorem dM_pair_19 : decode cM_pair 19 = .ok (.ireturn, 1) := by decide +kernel
theorem dM_setPair_0 : decode cM_setPair 0 = .ok (.aload_n 0, 1) := by decide +kernel
theorem dM_setPair_1 : decode cM_setPair 1 = .ok (.getfield 13, 3) := by decide +kernel
theorem dM_setPair_4 : decode cM_setPair 4 = .ok (.iload_n 1, 1) := by decide +kernel
theorem dM_setPair_5 : decode cM_setPair 5 = .ok (.iload_n 2, 1) := by decide +kernel
theorem dM_setPair_6 : decode cM_setPair 6 = .ok (.bipush 8, 2) := by decide +kernel
theorem dM_setPair_8 : decode cM_setPair 8 = .ok (.ishr, 1) := by decide +kernel
theorem dM_setPair_9 : decode cM_setPair 9 = .ok (.sipush 255, 3) := by decide +kernel
theorem dM_setPair_12 : decode cM_setPair 12 = .ok (.iand, 1) := by decide +kernel
theorem dM_setPair_13 : decode cM_setPair 13 = .ok (.iastore, 1) := by decide +kernel
theorem dM_setPair_14 : decode cM_setPair 14 = .ok (.aload_n 0, 1) := by decide +kernel
theorem dM_setPair_15 : decode cM_setPair 15 = .ok (.getfield 13, 3) := by decide +kernel
theorem dM_setPair_18 : decode cM_setPair 18 = .ok (.iload_n 1, 1) := by decide +kernel
theorem dM_setPair_19 : decode cM_setPair 19 = .ok (.iconst 1, 1) := by decide +kernel
theorem dM_setPair_20 : decode cM_setPair 20 = .ok (.iadd, 1) := by decide +kernel
theorem dM_setPair_21 : decode cM_setPair 21 = .ok (.iload_n 2, 1) := by decide +kernel
theorem dM_setPair_22 : decode cM_setPair 22 = .ok (.sipush 255, 3) := by decide +kernel
theorem dM_setPair_25 : decode cM_setPair 25 = .ok (.iand, 1) := by decide +kernel
theorem dM_setPair_26 : decode cM_setPair 26 = .ok (.iastore, 1) := by decide +kernel
theorem dM_setPair_27 : decode cM_setPair 27 = .ok (.return_, 1) := by decide +kernel
theorem dM_main_0 : decode cM_main 0 = .ok (.aload_n 0, 1) := by decide +kernel
theorem dM_main_1 : decode cM_main 1 = .ok (.getfield 59, 3) := by decide +kernel
theorem dM_main_4 : decode cM_main 4 = .ok (.ifCond .ne 12, 3) := by decide +kernel
theorem dM_main_7 : decode cM_main 7 = .ok (.aload_n 0, 1) := by decide +kernel
theorem dM_main_8 : decode cM_main 8 = .ok (.bipush 6, 2) := by decide +kernel
theorem dM_main_10 : decode cM_main 10 = .ok (.invokevirtual 62, 3) := by decide +kernel
theorem dM_main_13 : decode cM_main 13 = .ok (.goto 12, 3) := by decide +kernel
theorem dM_main_16 : decode cM_main 16 = .ok (.aload_n 0, 1) := by decide +kernel
theorem dM_main_17 : decode cM_main 17 = .ok (.getfield 13, 3) := by decide +kernel
theorem dM_main_20 : decode cM_main 20 = .ok (.aload_n 0, 1) := by decide +kernel
theorem dM_main_21 : decode cM_main 21 = .ok (.getfield 59, 3) := by decide +kernel
theorem dM_main_24 : decode cM_main 24 = .ok (.iaload, 1) := by decide +kernel
theorem dM_main_25 : decode cM_main 25 = .ok (.ireturn, 1) := by decide +kernel
theorem dM_setMain_0 : decode cM_setMain 0 = .ok (.aload_n 0, 1) := by decide +kernel
theorem dM_setMain_1 : decode cM_setMain 1 = .ok (.getfield 59, 3) := by decide +kernel
theorem dM_setMain_4 : decode cM_setMain 4 = .ok (.ifCond .ne 13, 3) := by decide +kernel
theorem dM_setMain_7 : decode cM_setMain 7 = .ok (.aload_n 0, 1) := by decide +kernel
theorem dM_setMain_8 : decode cM_setMain 8 = .ok (.bipush 6, 2) := by decide +kernel
theorem dM_setMain_10 : decode cM_setMain 10 = .ok (.iload_n 1, 1) := by decide +kernel
theorem dM_setMain_11 : decode cM_setMain 11 = .ok (.invokevirtual 65, 3) := by decide +kernel
theorem dM_setMain_14 : decode cM_setMain 14 = .ok (.goto 16, 3) := by decide +kernel
theorem dM_setMain_17 : decode cM_setMain 17 = .ok (.aload_n 0, 1) := by decide +kernel
theorem dM_setMain_18 : decode cM_setMain 18 = .ok (.getfield 13, 3) := by decide +kernel
theorem dM_setMain_21 : decode cM_setMain 21 = .ok (.aload_n 0, 1) := by decide +kernel
theorem dM_setMain_22 : decode cM_setMain 22 = .ok (.getfield 59, 3) := by decide +kernel
theorem dM_setMain_25 : decode cM_setMain 25 = .ok (.iload_n 1, 1) := by decide +kernel
theorem dM_setMain_26 : decode cM_setMain 26 = .ok (.ldc 44, 2) := by decide +kernel
theorem dM_setMain_28 : decode cM_setMain 28 = .ok (.iand, 1) := by decide +kernel
theorem dM_setMain_29 : decode cM_setMain 29 = .ok (.iastore, 1) := by decide +kernel
theorem dM_setMain_30 : decode cM_setMain 30 = .ok (.return_, 1) := by decide +kernel
theorem dM_w_0 : decode cM_w 0 = .ok (.iload_n 1, 1) := by decide +kernel
theorem dM_w_1 : decode cM_w 1 = .ok (.iconst 3, 1) := by decide +kernel
theorem dM_w_2 : decode cM_w 2 = .ok (.if_icmp .ne 13, 3) := by decide +kernel
theorem dM_w_5 : decode cM_w 5 = .ok (.aload_n 0, 1) := by decide +kernel
theorem dM_w_6 : decode cM_w 6 = .ok (.getfield 13, 3) := by decide +kernel
theorem dM_w_9 : decode cM_w 9 = .ok (.bipush 20, 2) := by decide +kernel
theorem dM_w_11 : decode cM_w 11 = .ok (.iaload, 1) := by decide +kernel
theorem dM_w_12 : decode cM_w 12 = .ok (.goto 24, 3) := by decide +kernel
theorem dM_w_15 : decode cM_w 15 = .ok (.iload_n 1, 1) := by decide +kernel
theorem dM_w_16 : decode cM_w 16 = .ok (.iconst 2, 1) := by decide +kernel
theorem dM_w_17 : decode cM_w 17 = .ok (.if_icmp .ne 10, 3) := by decide +kernel
theorem dM_w_20 : decode cM_w 20 = .ok (.aload_n 0, 1) := by decide +kernel
theorem dM_w_21 : decode cM_w 21 = .ok (.invokevirtual 68, 3) := by decide +kernel
theorem dM_w_24 : decode cM_w 24 = .ok (.goto 12, 3) := by decide +kernel
theorem dM_w_27 : decode cM_w 27 = .ok (.aload_n 0, 1) := by decide +kernel
theorem dM_w_28 : decode cM_w 28 = .ok (.iconst 2, 1) := by decide +kernel
theorem dM_w_29 : decode cM_w 29 = .ok (.iconst 2, 1) := by decide +kernel
theorem dM_w_30 : decode cM_w 30 = .ok (.iload_n 1, 1) := by decide +kernel
theorem dM_w_31 : decode cM_w 31 = .ok (.imul, 1) := by decide +kernel
theorem dM_w_32 : decode cM_w 32 = .ok (.iadd, 1) := by decide +kernel
theorem dM_w_33 : decode cM_w 33 = .ok (.invokevirtual 62, 3) := by decide +kernel
theorem dM_w_36 : decode cM_w 36 = .ok (.ireturn, 1) := by decide +kernel
theorem dM_setW_0 : decode cM_setW 0 = .ok (.iload_n 1, 1) := by decide +kernel
theorem dM_setW_1 : decode cM_setW 1 = .ok (.iconst 3, 1) := by decide +kernel
theorem dM_setW_2 : decode cM_setW 2 = .ok (.if_icmp .ne 17, 3) := by decide +kernel
theorem dM_setW_5 : decode cM_setW 5 = .ok (.aload_n 0, 1) := by decide +kernel
theorem dM_setW_6 : decode cM_setW 6 = .ok (.getfield 13, 3) := by decide +kernel
theorem dM_setW_9 : decode cM_setW 9 = .ok (.bipush 20, 2) := by decide +kernel
theorem dM_setW_11 : decode cM_setW 11 = .ok (.iload_n 2, 1) := by decide +kernel
theorem dM_setW_12 : decode cM_setW 12 = .ok (.ldc 44, 2) := by decide +kernel
theorem dM_setW_14 : decode cM_setW 14 = .ok (.iand, 1) := by decide +kernel
theorem dM_setW_15 : decode cM_setW 15 = .ok (.iastore, 1) := by decide +kernel
theorem dM_setW_16 : decode cM_setW 16 = .ok (.goto 26, 3) := by decide +kernel
theorem dM_setW_19 : decode cM_setW 19 = .ok (.iload_n 1, 1) := by decide +kernel
theorem dM_setW_20 : decode cM_setW 20 = .ok (.iconst 2, 1) := by decide +kernel
theorem dM_setW_21 : decode cM_setW 21 = .ok (.if_icmp .ne 11, 3) := by decide +kernel
theorem dM_setW_24 : decode cM_setW 24 = .ok (.aload_n 0, 1) := by decide +kernel
theorem dM_setW_25 : decode cM_setW 25 = .ok (.iload_n 2, 1) := by decide +kernel
theorem dM_setW_26 : decode cM_setW 26 = .ok (.invokevirtual 71, 3) := by decide +kernel
theorem dM_setW_29 : decode cM_setW 29 = .ok (.goto 13, 3) := by decide +kernel
theorem dM_setW_32 : decode cM_setW 32 = .ok (.aload_n 0, 1) := by decide +kernel
theorem dM_setW_33 : decode cM_setW 33 = .ok (.iconst 2, 1) := by decide +kernel
theorem dM_setW_34 : decode cM_setW 34 = .ok (.iconst 2, 1) := by decide +kernel
theorem dM_setW_35 : decode cM_setW 35 = .ok (.iload_n 1, 1) := by decide +kernel
theorem dM_setW_36 : decode cM_setW 36 = .ok (.imul, 1) := by decide +kernel
theorem dM_setW_37 : decode cM_setW 37 = .ok (.iadd, 1) := by decide +kernel
theorem dM_setW_38 : decode cM_setW 38 = .ok (.iload_n 2, 1) := by decide +kernel
theorem dM_setW_39 : decode cM_setW 39 = .ok (.invokevirtual 65, 3) := by decide +kernel
theorem dM_setW_42 : decode cM_setW 42 = .ok (.return_, 1) := by decide +kernel
theorem dM_aim_0 : decode cM_aim 0 = .ok (.aload_n 0, 1) := by decide +kernel
theorem dM_aim_1 : decode cM_aim 1 = .ok (.getfield 59, 3) := by decide +kernel
theorem dM_aim_4 : decode cM_aim 4 = .ok (.ifCond .ne 7, 3) := by decide +kernel
theorem dM_aim_7 : decode cM_aim 7 = .ok (.iconst 0, 1) := by decide +kernel
theorem dM_aim_8 : decode cM_aim 8 = .ok (.goto 10, 3) := by decide +kernel
theorem dM_aim_11 : decode cM_aim 11 = .ok (.aload_n 0, 1) := by decide +kernel
theorem dM_aim_12 : decode cM_aim 12 = .ok (.invokevirtual 52, 3) := by decide +kernel
theorem dM_aim_15 : decode cM_aim 15 = .ok (.invokestatic 74, 3) := by decide +kernel
theorem dM_aim_18 : decode cM_aim 18 = .ok (.istore_n 1, 1) := by decide +kernel
theorem dM_aim_19 : decode cM_aim 19 = .ok (.aload_n 0, 1) := by decide +kernel
theorem dM_aim_20 : decode cM_aim 20 = .ok (.aload_n 0, 1) := by decide +kernel
theorem dM_aim_21 : decode cM_aim 21 = .ok (.invokevirtual 68, 3) := by decide +kernel
theorem dM_aim_24 : decode cM_aim 24 = .ok (.iload_n 1, 1) := by decide +kernel
theorem dM_aim_25 : decode cM_aim 25 = .ok (.iadd, 1) := by decide +kernel
theorem dM_aim_26 : decode cM_aim 26 = .ok (.ldc 44, 2) := by decide +kernel
theorem dM_aim_28 : decode cM_aim 28 = .ok (.iand, 1) := by decide +kernel
theorem dM_aim_29 : decode cM_aim 29 = .ok (.putfield 77, 3) := by decide +kernel
theorem dM_aim_32 : decode cM_aim 32 = .ok (.aload_n 0, 1) := by decide +kernel
theorem dM_aim_33 : decode cM_aim 33 = .ok (.iconst 1, 1) := by decide +kernel
theorem dM_aim_34 : decode cM_aim 34 = .ok (.putfield 80, 3) := by decide +kernel
theorem dM_aim_37 : decode cM_aim 37 = .ok (.return_, 1) := by decide +kernel
theorem dM_get_0 : decode cM_get 0 = .ok (.iload_n 1, 1) := by decide +kernel
theorem dM_get_1 : decode cM_get 1 = .ok (.bipush 6, 2) := by decide +kernel
theorem dM_get_3 : decode cM_get 3 = .ok (.if_icmp .ne 12, 3) := by decide +kernel
theorem dM_get_6 : decode cM_get 6 = .ok (.aload_n 0, 1) := by decide +kernel
theorem dM_get_7 : decode cM_get 7 = .ok (.aload_n 0, 1) := by decide +kernel
theorem dM_get_8 : decode cM_get 8 = .ok (.getfield 77, 3) := by decide +kernel
theorem dM_get_11 : decode cM_get 11 = .ok (.invokevirtual 48, 3) := by decide +kernel
theorem dM_get_14 : decode cM_get 14 = .ok (.ireturn, 1) := by decide +kernel
theorem dM_get_15 : decode cM_get 15 = .ok (.iload_n 1, 1) := by decide +kernel
theorem dM_get_16 : decode cM_get 16 = .ok (.iconst 4, 1) := by decide +kernel
theorem dM_get_17 : decode cM_get 17 = .ok (.if_icmp .eq 8, 3) := by decide +kernel
theorem dM_get_20 : decode cM_get 20 = .ok (.iload_n 1, 1) := by decide +kernel
theorem dM_get_21 : decode cM_get 21 = .ok (.iconst 5, 1) := by decide +kernel
theorem dM_get_22 : decode cM_get 22 = .ok (.if_icmp .ne 51, 3) := by decide +kernel
theorem dM_get_25 : decode cM_get 25 = .ok (.aload_n 0, 1) := by decide +kernel
theorem dM_get_26 : decode cM_get 26 = .ok (.getfield 59, 3) := by decide +kernel
theorem dM_get_29 : decode cM_get 29 = .ok (.ifCond .eq 44, 3) := by decide +kernel
theorem dM_get_32 : decode cM_get 32 = .ok (.aload_n 0, 1) := by decide +kernel
theorem dM_get_33 : decode cM_get 33 = .ok (.getfield 80, 3) := by decide +kernel
theorem dM_get_36 : decode cM_get 36 = .ok (.ifCond .ne 37, 3) := by decide +kernel
theorem dM_get_39 : decode cM_get 39 = .ok (.iload_n 1, 1) := by decide +kernel
theorem dM_get_40 : decode cM_get 40 = .ok (.iconst 4, 1) := by decide +kernel
theorem dM_get_41 : decode cM_get 41 = .ok (.if_icmp .ne 18, 3) := by decide +kernel
theorem dM_get_44 : decode cM_get 44 = .ok (.aload_n 0, 1) := by decide +kernel
theorem dM_get_45 : decode cM_get 45 = .ok (.getfield 13, 3) := by decide +kernel
theorem dM_get_48 : decode cM_get 48 = .ok (.aload_n 0, 1) := by decide +kernel
theorem dM_get_49 : decode cM_get 49 = .ok (.getfield 59, 3) := by decide +kernel
theorem dM_get_52 : decode cM_get 52 = .ok (.iaload, 1) := by decide +kernel
theorem dM_get_53 : decode cM_get 53 = .ok (.bipush 8, 2) := by decide +kernel
theorem dM_get_55 : decode cM_get 55 = .ok (.ishr, 1) := by decide +kernel
theorem dM_get_56 : decode cM_get 56 = .ok (.goto 16, 3) := by decide +kernel
theorem dM_get_59 : decode cM_get 59 = .ok (.aload_n 0, 1) := by decide +kernel
theorem dM_get_60 : decode cM_get 60 = .ok (.getfield 13, 3) := by decide +kernel
theorem dM_get_63 : decode cM_get 63 = .ok (.aload_n 0, 1) := by decide +kernel
theorem dM_get_64 : decode cM_get 64 = .ok (.getfield 59, 3) := by decide +kernel
theorem dM_get_67 : decode cM_get 67 = .ok (.iaload, 1) := by decide +kernel
theorem dM_get_68 : decode cM_get 68 = .ok (.sipush 255, 3) := by decide +kernel
theorem dM_get_71 : decode cM_get 71 = .ok (.iand, 1) := by decide +kernel
theorem dM_get_72 : decode cM_get 72 = .ok (.ireturn, 1) := by decide +kernel
theorem dM_get_73 : decode cM_get 73 = .ok (.aload_n 0, 1) := by decide +kernel
theorem dM_get_74 : decode cM_get 74 = .ok (.getfield 13, 3) := by decide +kernel
theorem dM_get_77 : decode cM_get 77 = .ok (.iload_n 1, 1) := by decide +kernel
theorem dM_get_78 : decode cM_get 78 = .ok (.bipush 7, 2) := by decide +kernel
theorem dM_get_80 : decode cM_get 80 = .ok (.if_icmp .ne 7, 3) := by decide +kernel
theorem dM_get_83 : decode cM_get 83 = .ok (.iconst 0, 1) := by decide +kernel
theorem dM_get_84 : decode cM_get 84 = .ok (.goto 6, 3) := by decide +kernel
theorem dM_get_87 : decode cM_get 87 = .ok (.iload_n 1, 1) := by decide +kernel
theorem dM_get_88 : decode cM_get 88 = .ok (.iconst 2, 1) := by decide +kernel
theorem dM_get_89 : decode cM_get 89 = .ok (.iadd, 1) := by decide +kernel
theorem dM_get_90 : decode cM_get 90 = .ok (.iaload, 1) := by decide +kernel
theorem dM_get_91 : decode cM_get 91 = .ok (.ireturn, 1) := by decide +kernel
theorem dM_put_0 : decode cM_put 0 = .ok (.iload_n 1, 1) := by decide +kernel
theorem dM_put_1 : decode cM_put 1 = .ok (.bipush 6, 2) := by decide +kernel
theorem dM_put_3 : decode cM_put 3 = .ok (.if_icmp .ne 15, 3) := by decide +kernel
theorem dM_put_6 : decode cM_put 6 = .ok (.aload_n 0, 1) := by decide +kernel
theorem dM_put_7 : decode cM_put 7 = .ok (.aload_n 0, 1) := by decide +kernel
theorem dM_put_8 : decode cM_put 8 = .ok (.getfield 77, 3) := by decide +kernel
theorem dM_put_11 : decode cM_put 11 = .ok (.iload_n 2, 1) := by decide +kernel
theorem dM_put_12 : decode cM_put 12 = .ok (.invokevirtual 56, 3) := by decide +kernel
theorem dM_put_15 : decode cM_put 15 = .ok (.goto 99, 3) := by decide +kernel
theorem dM_put_18 : decode cM_put 18 = .ok (.iload_n 1, 1) := by decide +kernel
theorem dM_put_19 : decode cM_put 19 = .ok (.iconst 4, 1) := by decide +kernel
theorem dM_put_20 : decode cM_put 20 = .ok (.if_icmp .eq 8, 3) := by decide +kernel
theorem dM_put_23 : decode cM_put 23 = .ok (.iload_n 1, 1) := by decide +kernel
theorem dM_put_24 : decode cM_put 24 = .ok (.iconst 5, 1) := by decide +kernel
theorem dM_put_25 : decode cM_put 25 = .ok (.if_icmp .ne 70, 3) := by decide +kernel
theorem dM_put_28 : decode cM_put 28 = .ok (.aload_n 0, 1) := by decide +kernel
theorem dM_put_29 : decode cM_put 29 = .ok (.getfield 59, 3) := by decide +kernel
theorem dM_put_32 : decode cM_put 32 = .ok (.ifCond .eq 63, 3) := by decide +kernel
theorem dM_put_35 : decode cM_put 35 = .ok (.aload_n 0, 1) := by decide +kernel
theorem dM_put_36 : decode cM_put 36 = .ok (.getfield 80, 3) := by decide +kernel
theorem dM_put_39 : decode cM_put 39 = .ok (.ifCond .ne 56, 3) := by decide +kernel
theorem dM_put_42 : decode cM_put 42 = .ok (.aload_n 0, 1) := by decide +kernel
theorem dM_put_43 : decode cM_put 43 = .ok (.getfield 13, 3) := by decide +kernel
theorem dM_put_46 : decode cM_put 46 = .ok (.aload_n 0, 1) := by decide +kernel
theorem dM_put_47 : decode cM_put 47 = .ok (.getfield 59, 3) := by decide +kernel
theorem dM_put_50 : decode cM_put 50 = .ok (.iload_n 1, 1) := by decide +kernel
theorem dM_put_51 : decode cM_put 51 = .ok (.iconst 4, 1) := by decide +kernel
theorem dM_put_52 : decode cM_put 52 = .ok (.if_icmp .ne 25, 3) := by decide +kernel
theorem dM_put_55 : decode cM_put 55 = .ok (.sipush 256, 3) := by decide +kernel
theorem dM_put_58 : decode cM_put 58 = .ok (.iload_n 2, 1) := by decide +kernel
theorem dM_put_59 : decode cM_put 59 = .ok (.imul, 1) := by decide +kernel
theorem dM_put_60 : decode cM_put 60 = .ok (.aload_n 0, 1) := by decide +kernel
theorem dM_put_61 : decode cM_put 61 = .ok (.getfield 13, 3) := by decide +kernel
theorem dM_put_64 : decode cM_put 64 = .ok (.aload_n 0, 1) := by decide +kernel
theorem dM_put_65 : decode cM_put 65 = .ok (.getfield 59, 3) := by decide +kernel
theorem dM_put_68 : decode cM_put 68 = .ok (.iaload, 1) := by decide +kernel
theorem dM_put_69 : decode cM_put 69 = .ok (.sipush 255, 3) := by decide +kernel
theorem dM_put_72 : decode cM_put 72 = .ok (.iand, 1) := by decide +kernel
theorem dM_put_73 : decode cM_put 73 = .ok (.iadd, 1) := by decide +kernel
theorem dM_put_74 : decode cM_put 74 = .ok (.goto 17, 3) := by decide +kernel
theorem dM_put_77 : decode cM_put 77 = .ok (.aload_n 0, 1) := by decide +kernel
theorem dM_put_78 : decode cM_put 78 = .ok (.getfield 13, 3) := by decide +kernel
theorem dM_put_81 : decode cM_put 81 = .ok (.aload_n 0, 1) := by decide +kernel
theorem dM_put_82 : decode cM_put 82 = .ok (.getfield 59, 3) := by decide +kernel
theorem dM_put_85 : decode cM_put 85 = .ok (.iaload, 1) := by decide +kernel
theorem dM_put_86 : decode cM_put 86 = .ok (.ldc 84, 2) := by decide +kernel
theorem dM_put_88 : decode cM_put 88 = .ok (.iand, 1) := by decide +kernel
theorem dM_put_89 : decode cM_put 89 = .ok (.iload_n 2, 1) := by decide +kernel
theorem dM_put_90 : decode cM_put 90 = .ok (.iadd, 1) := by decide +kernel
theorem dM_put_91 : decode cM_put 91 = .ok (.iastore, 1) := by decide +kernel
theorem dM_put_92 : decode cM_put 92 = .ok (.goto 22, 3) := by decide +kernel
theorem dM_put_95 : decode cM_put 95 = .ok (.aload_n 0, 1) := by decide +kernel
theorem dM_put_96 : decode cM_put 96 = .ok (.getfield 13, 3) := by decide +kernel
theorem dM_put_99 : decode cM_put 99 = .ok (.iload_n 1, 1) := by decide +kernel
theorem dM_put_100 : decode cM_put 100 = .ok (.bipush 7, 2) := by decide +kernel
theorem dM_put_102 : decode cM_put 102 = .ok (.if_icmp .ne 7, 3) := by decide +kernel
theorem dM_put_105 : decode cM_put 105 = .ok (.iconst 0, 1) := by decide +kernel
theorem dM_put_106 : decode cM_put 106 = .ok (.goto 6, 3) := by decide +kernel
theorem dM_put_109 : decode cM_put 109 = .ok (.iload_n 1, 1) := by decide +kernel
theorem dM_put_110 : decode cM_put 110 = .ok (.iconst 2, 1) := by decide +kernel
theorem dM_put_111 : decode cM_put 111 = .ok (.iadd, 1) := by decide +kernel
theorem dM_put_112 : decode cM_put 112 = .ok (.iload_n 2, 1) := by decide +kernel
theorem dM_put_113 : decode cM_put 113 = .ok (.iastore, 1) := by decide +kernel
theorem dM_put_114 : decode cM_put 114 = .ok (.return_, 1) := by decide +kernel
theorem dM_push_0 : decode cM_push 0 = .ok (.aload_n 0, 1) := by decide +kernel
theorem dM_push_1 : decode cM_push 1 = .ok (.getfield 13, 3) := by decide +kernel
theorem dM_push_4 : decode cM_push 4 = .ok (.bipush 20, 2) := by decide +kernel
theorem dM_push_6 : decode cM_push 6 = .ok (.aload_n 0, 1) := by decide +kernel
theorem dM_push_7 : decode cM_push 7 = .ok (.getfield 13, 3) := by decide +kernel
theorem dM_push_10 : decode cM_push 10 = .ok (.bipush 20, 2) := by decide +kernel
theorem dM_push_12 : decode cM_push 12 = .ok (.iaload, 1) := by decide +kernel
theorem dM_push_13 : decode cM_push 13 = .ok (.iconst 1, 1) := by decide +kernel
theorem dM_push_14 : decode cM_push 14 = .ok (.isub, 1) := by decide +kernel
theorem dM_push_15 : decode cM_push 15 = .ok (.ldc 44, 2) := by decide +kernel
theorem dM_push_17 : decode cM_push 17 = .ok (.iand, 1) := by decide +kernel
theorem dM_push_18 : decode cM_push 18 = .ok (.iastore, 1) := by decide +kernel
theorem dM_push_19 : decode cM_push 19 = .ok (.aload_n 0, 1) := by decide +kernel
theorem dM_push_20 : decode cM_push 20 = .ok (.aload_n 0, 1) := by decide +kernel
theorem dM_push_21 : decode cM_push 21 = .ok (.getfield 13, 3) := by decide +kernel
theorem dM_push_24 : decode cM_push 24 = .ok (.bipush 20, 2) := by decide +kernel
theorem dM_push_26 : decode cM_push 26 = .ok (.iaload, 1) := by decide +kernel
theorem dM_push_27 : decode cM_push 27 = .ok (.iload_n 1, 1) := by decide +kernel
theorem dM_push_28 : decode cM_push 28 = .ok (.bipush 8, 2) := by decide +kernel
theorem dM_push_30 : decode cM_push 30 = .ok (.ishr, 1) := by decide +kernel
theorem dM_push_31 : decode cM_push 31 = .ok (.invokevirtual 56, 3) := by decide +kernel
theorem dM_push_34 : decode cM_push 34 = .ok (.aload_n 0, 1) := by decide +kernel
theorem dM_push_35 : decode cM_push 35 = .ok (.getfield 13, 3) := by decide +kernel
theorem dM_push_38 : decode cM_push 38 = .ok (.bipush 20, 2) := by decide +kernel
theorem dM_push_40 : decode cM_push 40 = .ok (.aload_n 0, 1) := by decide +kernel
theorem dM_push_41 : decode cM_push 41 = .ok (.getfield 13, 3) := by decide +kernel
theorem dM_push_44 : decode cM_push 44 = .ok (.bipush 20, 2) := by decide +kernel
theorem dM_push_46 : decode cM_push 46 = .ok (.iaload, 1) := by decide +kernel
theorem dM_push_47 : decode cM_push 47 = .ok (.iconst 1, 1) := by decide +kernel
theorem dM_push_48 : decode cM_push 48 = .ok (.isub, 1) := by decide +kernel
theorem dM_push_49 : decode cM_push 49 = .ok (.ldc 44, 2) := by decide +kernel
theorem dM_push_51 : decode cM_push 51 = .ok (.iand, 1) := by decide +kernel
theorem dM_push_52 : decode cM_push 52 = .ok (.iastore, 1) := by decide +kernel
theorem dM_push_53 : decode cM_push 53 = .ok (.aload_n 0, 1) := by decide +kernel
theorem dM_push_54 : decode cM_push 54 = .ok (.aload_n 0, 1) := by decide +kernel
theorem dM_push_55 : decode cM_push 55 = .ok (.getfield 13, 3) := by decide +kernel
theorem dM_push_58 : decode cM_push 58 = .ok (.bipush 20, 2) := by decide +kernel
theorem dM_push_60 : decode cM_push 60 = .ok (.iaload, 1) := by decide +kernel
theorem dM_push_61 : decode cM_push 61 = .ok (.iload_n 1, 1) := by decide +kernel
theorem dM_push_62 : decode cM_push 62 = .ok (.invokevirtual 56, 3) := by decide +kernel
theorem dM_push_65 : decode cM_push 65 = .ok (.return_, 1) := by decide +kernel
theorem dM_pop_0 : decode cM_pop 0 = .ok (.aload_n 0, 1) := by decide +kernel
theorem dM_pop_1 : decode cM_pop 1 = .ok (.aload_n 0, 1) := by decide +kernel
theorem dM_pop_2 : decode cM_pop 2 = .ok (.getfield 13, 3) := by decide +kernel
theorem dM_pop_5 : decode cM_pop 5 = .ok (.bipush 20, 2) := by decide +kernel
theorem dM_pop_7 : decode cM_pop 7 = .ok (.iaload, 1) := by decide +kernel
theorem dM_pop_8 : decode cM_pop 8 = .ok (.invokevirtual 48, 3) := by decide +kernel
theorem dM_pop_11 : decode cM_pop 11 = .ok (.istore_n 1, 1) := by decide +kernel
theorem dM_pop_12 : decode cM_pop 12 = .ok (.aload_n 0, 1) := by decide +kernel
theorem dM_pop_13 : decode cM_pop 13 = .ok (.getfield 13, 3) := by decide +kernel
theorem dM_pop_16 : decode cM_pop 16 = .ok (.bipush 20, 2) := by decide +kernel
theorem dM_pop_18 : decode cM_pop 18 = .ok (.aload_n 0, 1) := by decide +kernel
theorem dM_pop_19 : decode cM_pop 19 = .ok (.getfield 13, 3) := by decide +kernel
theorem dM_pop_22 : decode cM_pop 22 = .ok (.bipush 20, 2) := by decide +kernel
theorem dM_pop_24 : decode cM_pop 24 = .ok (.iaload, 1) := by decide +kernel
theorem dM_pop_25 : decode cM_pop 25 = .ok (.iconst 1, 1) := by decide +kernel
theorem dM_pop_26 : decode cM_pop 26 = .ok (.iadd, 1) := by decide +kernel
theorem dM_pop_27 : decode cM_pop 27 = .ok (.ldc 44, 2) := by decide +kernel
theorem dM_pop_29 : decode cM_pop 29 = .ok (.iand, 1) := by decide +kernel
theorem dM_pop_30 : decode cM_pop 30 = .ok (.iastore, 1) := by decide +kernel
theorem dM_pop_31 : decode cM_pop 31 = .ok (.aload_n 0, 1) := by decide +kernel
theorem dM_pop_32 : decode cM_pop 32 = .ok (.aload_n 0, 1) := by decide +kernel
theorem dM_pop_33 : decode cM_pop 33 = .ok (.getfield 13, 3) := by decide +kernel
theorem dM_pop_36 : decode cM_pop 36 = .ok (.bipush 20, 2) := by decide +kernel
theorem dM_pop_38 : decode cM_pop 38 = .ok (.iaload, 1) := by decide +kernel
theorem dM_pop_39 : decode cM_pop 39 = .ok (.invokevirtual 48, 3) := by decide +kernel
theorem dM_pop_42 : decode cM_pop 42 = .ok (.istore_n 2, 1) := by decide +kernel
theorem dM_pop_43 : decode cM_pop 43 = .ok (.aload_n 0, 1) := by decide +kernel
theorem dM_pop_44 : decode cM_pop 44 = .ok (.getfield 13, 3) := by decide +kernel
theorem dM_pop_47 : decode cM_pop 47 = .ok (.bipush 20, 2) := by decide +kernel
theorem dM_pop_49 : decode cM_pop 49 = .ok (.aload_n 0, 1) := by decide +kernel
theorem dM_pop_50 : decode cM_pop 50 = .ok (.getfield 13, 3) := by decide +kernel
theorem dM_pop_53 : decode cM_pop 53 = .ok (.bipush 20, 2) := by decide +kernel
theorem dM_pop_55 : decode cM_pop 55 = .ok (.iaload, 1) := by decide +kernel
theorem dM_pop_56 : decode cM_pop 56 = .ok (.iconst 1, 1) := by decide +kernel
theorem dM_pop_57 : decode cM_pop 57 = .ok (.iadd, 1) := by decide +kernel
theorem dM_pop_58 : decode cM_pop 58 = .ok (.ldc 44, 2) := by decide +kernel
theorem dM_pop_60 : decode cM_pop 60 = .ok (.iand, 1) := by decide +kernel
theorem dM_pop_61 : decode cM_pop 61 = .ok (.iastore, 1) := by decide +kernel
theorem dM_pop_62 : decode cM_pop 62 = .ok (.sipush 256, 3) := by decide +kernel
theorem dM_pop_65 : decode cM_pop 65 = .ok (.iload_n 2, 1) := by decide +kernel
theorem dM_pop_66 : decode cM_pop 66 = .ok (.imul, 1) := by decide +kernel
theorem dM_pop_67 : decode cM_pop 67 = .ok (.iload_n 1, 1) := by decide +kernel
theorem dM_pop_68 : decode cM_pop 68 = .ok (.iadd, 1) := by decide +kernel
theorem dM_pop_69 : decode cM_pop 69 = .ok (.ireturn, 1) := by decide +kernel
theorem dM_cond_0 : decode cM_cond 0 = .ok (.iload_n 1, 1) := by decide +kernel
theorem dM_cond_1 : decode cM_cond 1 = .ok (.iconst 2, 1) := by decide +kernel
theorem dM_cond_2 : decode cM_cond 2 = .ok (.if_icmp .ge 8, 3) := by decide +kernel
theorem dM_cond_5 : decode cM_cond 5 = .ok (.bipush 64, 2) := by decide +kernel
theorem dM_cond_7 : decode cM_cond 7 = .ok (.goto 25, 3) := by decide +kernel
theorem dM_cond_10 : decode cM_cond 10 = .ok (.iload_n 1, 1) := by decide +kernel
theorem dM_cond_11 : decode cM_cond 11 = .ok (.iconst 4, 1) := by decide +kernel
theorem dM_cond_12 : decode cM_cond 12 = .ok (.if_icmp .ge 7, 3) := by decide +kernel
theorem dM_cond_15 : decode cM_cond 15 = .ok (.iconst 1, 1) := by decide +kernel
theorem dM_cond_16 : decode cM_cond 16 = .ok (.goto 16, 3) := by decide +kernel
theorem dM_cond_19 : decode cM_cond 19 = .ok (.iload_n 1, 1) := by decide +kernel
theorem dM_cond_20 : decode cM_cond 20 = .ok (.bipush 6, 2) := by decide +kernel
theorem dM_cond_22 : decode cM_cond 22 = .ok (.if_icmp .ge 7, 3) := by decide +kernel
theorem dM_cond_25 : decode cM_cond 25 = .ok (.iconst 4, 1) := by decide +kernel
theorem dM_cond_26 : decode cM_cond 26 = .ok (.goto 6, 3) := by decide +kernel
theorem dM_cond_29 : decode cM_cond 29 = .ok (.sipush 128, 3) := by decide +kernel
theorem dM_cond_32 : decode cM_cond 32 = .ok (.istore_n 2, 1) := by decide +kernel
theorem dM_cond_33 : decode cM_cond 33 = .ok (.aload_n 0, 1) := by decide +kernel
theorem dM_cond_34 : decode cM_cond 34 = .ok (.getfield 13, 3) := by decide +kernel
theorem dM_cond_37 : decode cM_cond 37 = .ok (.iconst 1, 1) := by decide +kernel
theorem dM_cond_38 : decode cM_cond 38 = .ok (.iaload, 1) := by decide +kernel
theorem dM_cond_39 : decode cM_cond 39 = .ok (.iload_n 2, 1) := by decide +kernel
theorem dM_cond_40 : decode cM_cond 40 = .ok (.iand, 1) := by decide +kernel
theorem dM_cond_41 : decode cM_cond 41 = .ok (.ifCond .eq 7, 3) := by decide +kernel
theorem dM_cond_44 : decode cM_cond 44 = .ok (.iconst 1, 1) := by decide +kernel
theorem dM_cond_45 : decode cM_cond 45 = .ok (.goto 4, 3) := by decide +kernel
theorem dM_cond_48 : decode cM_cond 48 = .ok (.iconst 0, 1) := by decide +kernel
theorem dM_cond_49 : decode cM_cond 49 = .ok (.iload_n 1, 1) := by decide +kernel
theorem dM_cond_50 : decode cM_cond 50 = .ok (.iconst 2, 1) := by decide +kernel
theorem dM_cond_51 : decode cM_cond 51 = .ok (.irem, 1) := by decide +kernel
theorem dM_cond_52 : decode cM_cond 52 = .ok (.iconst 1, 1) := by decide +kernel
theorem dM_cond_53 : decode cM_cond 53 = .ok (.if_icmp .ne 7, 3) := by decide +kernel
theorem dM_cond_56 : decode cM_cond 56 = .ok (.iconst 1, 1) := by decide +kernel
theorem dM_cond_57 : decode cM_cond 57 = .ok (.goto 4, 3) := by decide +kernel
theorem dM_cond_60 : decode cM_cond 60 = .ok (.iconst 0, 1) := by decide +kernel
theorem dM_cond_61 : decode cM_cond 61 = .ok (.if_icmp .ne 7, 3) := by decide +kernel
theorem dM_cond_64 : decode cM_cond 64 = .ok (.iconst 1, 1) := by decide +kernel
theorem dM_cond_65 : decode cM_cond 65 = .ok (.goto 4, 3) := by decide +kernel
theorem dM_cond_68 : decode cM_cond 68 = .ok (.iconst 0, 1) := by decide +kernel
theorem dM_cond_69 : decode cM_cond 69 = .ok (.ireturn, 1) := by decide +kernel
theorem dM_change_0 : decode cM_change 0 = .ok (.aload_n 0, 1) := by decide +kernel
theorem dM_change_1 : decode cM_change 1 = .ok (.getfield 13, 3) := by decide +kernel
theorem dM_change_4 : decode cM_change 4 = .ok (.iload_n 1, 1) := by decide +kernel
theorem dM_change_5 : decode cM_change 5 = .ok (.iaload, 1) := by decide +kernel
theorem dM_change_6 : decode cM_change 6 = .ok (.istore_n 3, 1) := by decide +kernel
theorem dM_change_7 : decode cM_change 7 = .ok (.aload_n 0, 1) := by decide +kernel
theorem dM_change_8 : decode cM_change 8 = .ok (.getfield 13, 3) := by decide +kernel
theorem dM_change_11 : decode cM_change 11 = .ok (.iload_n 1, 1) := by decide +kernel
theorem dM_change_12 : decode cM_change 12 = .ok (.aload_n 0, 1) := by decide +kernel
theorem dM_change_13 : decode cM_change 13 = .ok (.getfield 13, 3) := by decide +kernel
theorem dM_change_16 : decode cM_change 16 = .ok (.iload_n 2, 1) := by decide +kernel
theorem dM_change_17 : decode cM_change 17 = .ok (.iaload, 1) := by decide +kernel
theorem dM_change_18 : decode cM_change 18 = .ok (.iastore, 1) := by decide +kernel
theorem dM_change_19 : decode cM_change 19 = .ok (.aload_n 0, 1) := by decide +kernel
theorem dM_change_20 : decode cM_change 20 = .ok (.getfield 13, 3) := by decide +kernel
theorem dM_change_23 : decode cM_change 23 = .ok (.iload_n 2, 1) := by decide +kernel
theorem dM_change_24 : decode cM_change 24 = .ok (.iload_n 3, 1) := by decide +kernel
theorem dM_change_25 : decode cM_change 25 = .ok (.iastore, 1) := by decide +kernel
theorem dM_change_26 : decode cM_change 26 = .ok (.return_, 1) := by decide +kernel
theorem dM_sum_0 : decode cM_sum 0 = .ok (.iload_n 3, 1) := by decide +kernel
theorem dM_sum_1 : decode cM_sum 1 = .ok (.istore 5, 2) := by decide +kernel
theorem dM_sum_3 : decode cM_sum 3 = .ok (.iconst 0, 1) := by decide +kernel
theorem dM_sum_4 : decode cM_sum 4 = .ok (.istore 6, 2) := by decide +kernel
theorem dM_sum_6 : decode cM_sum 6 = .ok (.aload_n 0, 1) := by decide +kernel
theorem dM_sum_7 : decode cM_sum 7 = .ok (.iconst 0, 1) := by decide +kernel
theorem dM_sum_8 : decode cM_sum 8 = .ok (.putfield 85, 3) := by decide +kernel
theorem dM_sum_11 : decode cM_sum 11 = .ok (.iconst 0, 1) := by decide +kernel
theorem dM_sum_12 : decode cM_sum 12 = .ok (.istore 7, 2) := by decide +kernel
theorem dM_sum_14 : decode cM_sum 14 = .ok (.iload 7, 2) := by decide +kernel
theorem dM_sum_16 : decode cM_sum 16 = .ok (.iload 4, 2) := by decide +kernel
theorem dM_sum_18 : decode cM_sum 18 = .ok (.if_icmp .ge 96, 3) := by decide +kernel
theorem dM_sum_21 : decode cM_sum 21 = .ok (.iload_n 1, 1) := by decide +kernel
theorem dM_sum_22 : decode cM_sum 22 = .ok (.iload 7, 2) := by decide +kernel
theorem dM_sum_24 : decode cM_sum 24 = .ok (.ishr, 1) := by decide +kernel
theorem dM_sum_25 : decode cM_sum 25 = .ok (.iconst 1, 1) := by decide +kernel
theorem dM_sum_26 : decode cM_sum 26 = .ok (.iand, 1) := by decide +kernel
theorem dM_sum_27 : decode cM_sum 27 = .ok (.iload_n 2, 1) := by decide +kernel
theorem dM_sum_28 : decode cM_sum 28 = .ok (.iload 7, 2) := by decide +kernel
theorem dM_sum_30 : decode cM_sum 30 = .ok (.ishr, 1) := by decide +kernel
theorem dM_sum_31 : decode cM_sum 31 = .ok (.iconst 1, 1) := by decide +kernel
theorem dM_sum_32 : decode cM_sum 32 = .ok (.iand, 1) := by decide +kernel
theorem dM_sum_33 : decode cM_sum 33 = .ok (.iadd, 1) := by decide +kernel
theorem dM_sum_34 : decode cM_sum 34 = .ok (.iload 5, 2) := by decide +kernel
theorem dM_sum_36 : decode cM_sum 36 = .ok (.iadd, 1) := by decide +kernel
theorem dM_sum_37 : decode cM_sum 37 = .ok (.istore 8, 2) := by decide +kernel
theorem dM_sum_39 : decode cM_sum 39 = .ok (.iload 6, 2) := by decide +kernel
theorem dM_sum_41 : decode cM_sum 41 = .ok (.iload 8, 2) := by decide +kernel
theorem dM_sum_43 : decode cM_sum 43 = .ok (.iconst 1, 1) := by decide +kernel
theorem dM_sum_44 : decode cM_sum 44 = .ok (.iand, 1) := by decide +kernel
theorem dM_sum_45 : decode cM_sum 45 = .ok (.iload 7, 2) := by decide +kernel
theorem dM_sum_47 : decode cM_sum 47 = .ok (.ishl, 1) := by decide +kernel
theorem dM_sum_48 : decode cM_sum 48 = .ok (.ior, 1) := by decide +kernel
theorem dM_sum_49 : decode cM_sum 49 = .ok (.istore 6, 2) := by decide +kernel
theorem dM_sum_51 : decode cM_sum 51 = .ok (.aload_n 0, 1) := by decide +kernel
theorem dM_sum_52 : decode cM_sum 52 = .ok (.iload 7, 2) := by decide +kernel
theorem dM_sum_54 : decode cM_sum 54 = .ok (.iload 4, 2) := by decide +kernel
theorem dM_sum_56 : decode cM_sum 56 = .ok (.iconst 1, 1) := by decide +kernel
theorem dM_sum_57 : decode cM_sum 57 = .ok (.isub, 1) := by decide +kernel
theorem dM_sum_58 : decode cM_sum 58 = .ok (.if_icmp .ne 16, 3) := by decide +kernel
theorem dM_sum_61 : decode cM_sum 61 = .ok (.iload 5, 2) := by decide +kernel
theorem dM_sum_63 : decode cM_sum 63 = .ok (.iload 8, 2) := by decide +kernel
theorem dM_sum_65 : decode cM_sum 65 = .ok (.iconst 1, 1) := by decide +kernel
theorem dM_sum_66 : decode cM_sum 66 = .ok (.ishr, 1) := by decide +kernel
theorem dM_sum_67 : decode cM_sum 67 = .ok (.if_icmp .eq 7, 3) := by decide +kernel
theorem dM_sum_70 : decode cM_sum 70 = .ok (.iconst 1, 1) := by decide +kernel
theorem dM_sum_71 : decode cM_sum 71 = .ok (.goto 4, 3) := by decide +kernel
theorem dM_sum_74 : decode cM_sum 74 = .ok (.iconst 0, 1) := by decide +kernel
theorem dM_sum_75 : decode cM_sum 75 = .ok (.putfield 85, 3) := by decide +kernel
theorem dM_sum_78 : decode cM_sum 78 = .ok (.iload 8, 2) := by decide +kernel
theorem dM_sum_80 : decode cM_sum 80 = .ok (.iconst 1, 1) := by decide +kernel
theorem dM_sum_81 : decode cM_sum 81 = .ok (.ishr, 1) := by decide +kernel
theorem dM_sum_82 : decode cM_sum 82 = .ok (.istore 5, 2) := by decide +kernel
theorem dM_sum_84 : decode cM_sum 84 = .ok (.iload 7, 2) := by decide +kernel
theorem dM_sum_86 : decode cM_sum 86 = .ok (.iload 4, 2) := by decide +kernel
theorem dM_sum_88 : decode cM_sum 88 = .ok (.iconst 5, 1) := by decide +kernel
theorem dM_sum_89 : decode cM_sum 89 = .ok (.isub, 1) := by decide +kernel
theorem dM_sum_90 : decode cM_sum 90 = .ok (.if_icmp .ne 18, 3) := by decide +kernel
theorem dM_sum_93 : decode cM_sum 93 = .ok (.aload_n 0, 1) := by decide +kernel
theorem dM_sum_94 : decode cM_sum 94 = .ok (.iload 5, 2) := by decide +kernel
theorem dM_sum_96 : decode cM_sum 96 = .ok (.iconst 1, 1) := by decide +kernel
theorem dM_sum_97 : decode cM_sum 97 = .ok (.if_icmp .ne 7, 3) := by decide +kernel
theorem dM_sum_100 : decode cM_sum 100 = .ok (.iconst 1, 1) := by decide +kernel
theorem dM_sum_101 : decode cM_sum 101 = .ok (.goto 4, 3) := by decide +kernel
theorem dM_sum_104 : decode cM_sum 104 = .ok (.iconst 0, 1) := by decide +kernel
theorem dM_sum_105 : decode cM_sum 105 = .ok (.putfield 88, 3) := by decide +kernel
theorem dM_sum_108 : decode cM_sum 108 = .ok (.iinc 7 1, 3) := by decide +kernel
theorem dM_sum_111 : decode cM_sum 111 = .ok (.goto (-97), 3) := by decide +kernel
theorem dM_sum_114 : decode cM_sum 114 = .ok (.aload_n 0, 1) := by decide +kernel
theorem dM_sum_115 : decode cM_sum 115 = .ok (.iload 5, 2) := by decide +kernel
theorem dM_sum_117 : decode cM_sum 117 = .ok (.iconst 1, 1) := by decide +kernel
theorem dM_sum_118 : decode cM_sum 118 = .ok (.if_icmp .ne 7, 3) := by decide +kernel
theorem dM_sum_121 : decode cM_sum 121 = .ok (.iconst 1, 1) := by decide +kernel
theorem dM_sum_122 : decode cM_sum 122 = .ok (.goto 4, 3) := by decide +kernel
theorem dM_sum_125 : decode cM_sum 125 = .ok (.iconst 0, 1) := by decide +kernel
theorem dM_sum_126 : decode cM_sum 126 = .ok (.putfield 91, 3) := by decide +kernel
theorem dM_sum_129 : decode cM_sum 129 = .ok (.iload 6, 2) := by decide +kernel
theorem dM_sum_131 : decode cM_sum 131 = .ok (.ireturn, 1) := by decide +kernel
theorem dM_difference_0 : decode cM_difference 0 = .ok (.aload_n 0, 1) := by decide +kernel
theorem dM_difference_1 : decode cM_difference 1 = .ok (.iload_n 1, 1) := by decide +kernel
theorem dM_difference_2 : decode cM_difference 2 = .ok (.iload_n 2, 1) := by decide +kernel
theorem dM_difference_3 : decode cM_difference 3 = .ok (.iconst (-1), 1) := by decide +kernel
theorem dM_difference_4 : decode cM_difference 4 = .ok (.ixor, 1) := by decide +kernel
theorem dM_difference_5 : decode cM_difference 5 = .ok (.iconst 1, 1) := by decide +kernel
theorem dM_difference_6 : decode cM_difference 6 = .ok (.iload_n 3, 1) := by decide +kernel
theorem dM_difference_7 : decode cM_difference 7 = .ok (.isub, 1) := by decide +kernel
theorem dM_difference_8 : decode cM_difference 8 = .ok (.iload 4, 2) := by decide +kernel
theorem dM_difference_10 : decode cM_difference 10 = .ok (.invokevirtual 94, 3) := by decide +kernel
theorem dM_difference_13 : decode cM_difference 13 = .ok (.istore 5, 2) := by decide +kernel
theorem dM_difference_15 : decode cM_difference 15 = .ok (.aload_n 0, 1) := by decide +kernel
theorem dM_difference_16 : decode cM_difference 16 = .ok (.aload_n 0, 1) := by decide +kernel
theorem dM_difference_17 : decode cM_difference 17 = .ok (.getfield 88, 3) := by decide +kernel
theorem dM_difference_20 : decode cM_difference 20 = .ok (.ifCond .ne 7, 3) := by decide +kernel
theorem dM_difference_23 : decode cM_difference 23 = .ok (.iconst 1, 1) := by decide +kernel
theorem dM_difference_24 : decode cM_difference 24 = .ok (.goto 4, 3) := by decide +kernel
theorem dM_difference_27 : decode cM_difference 27 = .ok (.iconst 0, 1) := by decide +kernel
theorem dM_difference_28 : decode cM_difference 28 = .ok (.putfield 88, 3) := by decide +kernel
theorem dM_difference_31 : decode cM_difference 31 = .ok (.aload_n 0, 1) := by decide +kernel
theorem dM_difference_32 : decode cM_difference 32 = .ok (.aload_n 0, 1) := by decide +kernel
theorem dM_difference_33 : decode cM_difference 33 = .ok (.getfield 91, 3) := by decide +kernel
theorem dM_difference_36 : decode cM_difference 36 = .ok (.ifCond .ne 7, 3) := by decide +kernel
theorem dM_difference_39 : decode cM_difference 39 = .ok (.iconst 1, 1) := by decide +kernel
theorem dM_difference_40 : decode cM_difference 40 = .ok (.goto 4, 3) := by decide +kernel
theorem dM_difference_43 : decode cM_difference 43 = .ok (.iconst 0, 1) := by decide +kernel
theorem dM_difference_44 : decode cM_difference 44 = .ok (.putfield 91, 3) := by decide +kernel
theorem dM_difference_47 : decode cM_difference 47 = .ok (.iload 5, 2) := by decide +kernel
theorem dM_difference_49 : decode cM_difference 49 = .ok (.ireturn, 1) := by decide +kernel
theorem dM_parity_0 : decode cM_parity 0 = .ok (.iconst 0, 1) := by decide +kernel
theorem dM_parity_1 : decode cM_parity 1 = .ok (.istore_n 1, 1) := by decide +kernel
theorem dM_parity_2 : decode cM_parity 2 = .ok (.iconst 0, 1) := by decide +kernel
theorem dM_parity_3 : decode cM_parity 3 = .ok (.istore_n 2, 1) := by decide +kernel
theorem dM_parity_4 : decode cM_parity 4 = .ok (.iload_n 2, 1) := by decide +kernel
theorem dM_parity_5 : decode cM_parity 5 = .ok (.bipush 8, 2) := by decide +kernel
theorem dM_parity_7 : decode cM_parity 7 = .ok (.if_icmp .ge 17, 3) := by decide +kernel
theorem dM_parity_10 : decode cM_parity 10 = .ok (.iload_n 1, 1) := by decide +kernel
theorem dM_parity_11 : decode cM_parity 11 = .ok (.iload_n 0, 1) := by decide +kernel
theorem dM_parity_12 : decode cM_parity 12 = .ok (.iload_n 2, 1) := by decide +kernel
theorem dM_parity_13 : decode cM_parity 13 = .ok (.ishr, 1) := by decide +kernel
theorem dM_parity_14 : decode cM_parity 14 = .ok (.iconst 1, 1) := by decide +kernel
theorem dM_parity_15 : decode cM_parity 15 = .ok (.iand, 1) := by decide +kernel
theorem dM_parity_16 : decode cM_parity 16 = .ok (.iadd, 1) := by decide +kernel
theorem dM_parity_17 : decode cM_parity 17 = .ok (.istore_n 1, 1) := by decide +kernel
theorem dM_parity_18 : decode cM_parity 18 = .ok (.iinc 2 1, 3) := by decide +kernel
theorem dM_parity_21 : decode cM_parity 21 = .ok (.goto (-17), 3) := by decide +kernel
theorem dM_parity_24 : decode cM_parity 24 = .ok (.iload_n 1, 1) := by decide +kernel
theorem dM_parity_25 : decode cM_parity 25 = .ok (.iconst 2, 1) := by decide +kernel
theorem dM_parity_26 : decode cM_parity 26 = .ok (.irem, 1) := by decide +kernel
theorem dM_parity_27 : decode cM_parity 27 = .ok (.ifCond .ne 7, 3) := by decide +kernel
theorem dM_parity_30 : decode cM_parity 30 = .ok (.iconst 4, 1) := by decide +kernel
theorem dM_parity_31 : decode cM_parity 31 = .ok (.goto 4, 3) := by decide +kernel
theorem dM_parity_34 : decode cM_parity 34 = .ok (.iconst 0, 1) := by decide +kernel
theorem dM_parity_35 : decode cM_parity 35 = .ok (.ireturn, 1) := by decide +kernel
theorem dM_by_0 : decode cM_by 0 = .ok (.iload_n 0, 1) := by decide +kernel
theorem dM_by_1 : decode cM_by 1 = .ok (.sipush 168, 3) := by decide +kernel
theorem dM_by_4 : decode cM_by 4 = .ok (.iand, 1) := by decide +kernel
theorem dM_by_5 : decode cM_by 5 = .ok (.iload_n 0, 1) := by decide +kernel
theorem dM_by_6 : decode cM_by 6 = .ok (.ifCond .ne 8, 3) := by decide +kernel
theorem dM_by_9 : decode cM_by 9 = .ok (.bipush 64, 2) := by decide +kernel
theorem dM_by_11 : decode cM_by 11 = .ok (.goto 4, 3) := by decide +kernel
theorem dM_by_14 : decode cM_by 14 = .ok (.iconst 0, 1) := by decide +kernel
theorem dM_by_15 : decode cM_by 15 = .ok (.ior, 1) := by decide +kernel
theorem dM_by_16 : decode cM_by 16 = .ok (.ireturn, 1) := by decide +kernel
theorem dM_rest_0 : decode cM_rest 0 = .ok (.aload_n 0, 1) := by decide +kernel
theorem dM_rest_1 : decode cM_rest 1 = .ok (.getfield 88, 3) := by decide +kernel
theorem dM_rest_4 : decode cM_rest 4 = .ok (.ifCond .eq 8, 3) := by decide +kernel
theorem dM_rest_7 : decode cM_rest 7 = .ok (.bipush 16, 2) := by decide +kernel
theorem dM_rest_9 : decode cM_rest 9 = .ok (.goto 4, 3) := by decide +kernel
theorem dM_rest_12 : decode cM_rest 12 = .ok (.iconst 0, 1) := by decide +kernel
theorem dM_rest_13 : decode cM_rest 13 = .ok (.aload_n 0, 1) := by decide +kernel
theorem dM_rest_14 : decode cM_rest 14 = .ok (.getfield 85, 3) := by decide +kernel
theorem dM_rest_17 : decode cM_rest 17 = .ok (.ifCond .eq 7, 3) := by decide +kernel
theorem dM_rest_20 : decode cM_rest 20 = .ok (.iconst 4, 1) := by decide +kernel
theorem dM_rest_21 : decode cM_rest 21 = .ok (.goto 4, 3) := by decide +kernel
theorem dM_rest_24 : decode cM_rest 24 = .ok (.iconst 0, 1) := by decide +kernel
theorem dM_rest_25 : decode cM_rest 25 = .ok (.ior, 1) := by decide +kernel
theorem dM_rest_26 : decode cM_rest 26 = .ok (.aload_n 0, 1) := by decide +kernel
theorem dM_rest_27 : decode cM_rest 27 = .ok (.getfield 91, 3) := by decide +kernel
theorem dM_rest_30 : decode cM_rest 30 = .ok (.ifCond .eq 7, 3) := by decide +kernel
theorem dM_rest_33 : decode cM_rest 33 = .ok (.iconst 1, 1) := by decide +kernel
theorem dM_rest_34 : decode cM_rest 34 = .ok (.goto 4, 3) := by decide +kernel
theorem dM_rest_37 : decode cM_rest 37 = .ok (.iconst 0, 1) := by decide +kernel
theorem dM_rest_38 : decode cM_rest 38 = .ok (.ior, 1) := by decide +kernel
theorem dM_rest_39 : decode cM_rest 39 = .ok (.iload_n 1, 1) := by decide +kernel
theorem dM_rest_40 : decode cM_rest 40 = .ok (.ior, 1) := by decide +kernel
theorem dM_rest_41 : decode cM_rest 41 = .ok (.ireturn, 1) := by decide +kernel
theorem dM_work_0 : decode cM_work 0 = .ok (.aload_n 0, 1) := by decide +kernel
theorem dM_work_1 : decode cM_work 1 = .ok (.getfield 13, 3) := by decide +kernel
theorem dM_work_4 : decode cM_work 4 = .ok (.iconst 0, 1) := by decide +kernel
theorem dM_work_5 : decode cM_work 5 = .ok (.iaload, 1) := by decide +kernel
theorem dM_work_6 : decode cM_work 6 = .ok (.istore_n 3, 1) := by decide +kernel
theorem dM_work_7 : decode cM_work 7 = .ok (.aload_n 0, 1) := by decide +kernel
theorem dM_work_8 : decode cM_work 8 = .ok (.getfield 13, 3) := by decide +kernel
theorem dM_work_11 : decode cM_work 11 = .ok (.iconst 1, 1) := by decide +kernel
theorem dM_work_12 : decode cM_work 12 = .ok (.iaload, 1) := by decide +kernel
theorem dM_work_13 : decode cM_work 13 = .ok (.iconst 1, 1) := by decide +kernel
theorem dM_work_14 : decode cM_work 14 = .ok (.iand, 1) := by decide +kernel
theorem dM_work_15 : decode cM_work 15 = .ok (.istore 4, 2) := by decide +kernel
theorem dM_work_17 : decode cM_work 17 = .ok (.iload_n 1, 1) := by decide +kernel
theorem dM_work_18 : decode cM_work 18 = .ok (.iconst 2, 1) := by decide +kernel
theorem dM_work_19 : decode cM_work 19 = .ok (.if_icmp .ge 52, 3) := by decide +kernel
theorem dM_work_22 : decode cM_work 22 = .ok (.aload_n 0, 1) := by decide +kernel
theorem dM_work_23 : decode cM_work 23 = .ok (.getfield 13, 3) := by decide +kernel
theorem dM_work_26 : decode cM_work 26 = .ok (.iconst 0, 1) := by decide +kernel
theorem dM_work_27 : decode cM_work 27 = .ok (.aload_n 0, 1) := by decide +kernel
theorem dM_work_28 : decode cM_work 28 = .ok (.iload_n 3, 1) := by decide +kernel
theorem dM_work_29 : decode cM_work 29 = .ok (.iload_n 2, 1) := by decide +kernel
theorem dM_work_30 : decode cM_work 30 = .ok (.iload_n 1, 1) := by decide +kernel
theorem dM_work_31 : decode cM_work 31 = .ok (.iconst 1, 1) := by decide +kernel
theorem dM_work_32 : decode cM_work 32 = .ok (.if_icmp .ne 8, 3) := by decide +kernel
theorem dM_work_35 : decode cM_work 35 = .ok (.iload 4, 2) := by decide +kernel
theorem dM_work_37 : decode cM_work 37 = .ok (.goto 4, 3) := by decide +kernel
theorem dM_work_40 : decode cM_work 40 = .ok (.iconst 0, 1) := by decide +kernel
theorem dM_work_41 : decode cM_work 41 = .ok (.bipush 8, 2) := by decide +kernel
theorem dM_work_43 : decode cM_work 43 = .ok (.invokevirtual 94, 3) := by decide +kernel
theorem dM_work_46 : decode cM_work 46 = .ok (.iastore, 1) := by decide +kernel
theorem dM_work_47 : decode cM_work 47 = .ok (.aload_n 0, 1) := by decide +kernel
theorem dM_work_48 : decode cM_work 48 = .ok (.getfield 13, 3) := by decide +kernel
theorem dM_work_51 : decode cM_work 51 = .ok (.iconst 1, 1) := by decide +kernel
theorem dM_work_52 : decode cM_work 52 = .ok (.aload_n 0, 1) := by decide +kernel
theorem dM_work_53 : decode cM_work 53 = .ok (.getfield 13, 3) := by decide +kernel
theorem dM_work_56 : decode cM_work 56 = .ok (.iconst 0, 1) := by decide +kernel
theorem dM_work_57 : decode cM_work 57 = .ok (.iaload, 1) := by decide +kernel
theorem dM_work_58 : decode cM_work 58 = .ok (.invokestatic 98, 3) := by decide +kernel
theorem dM_work_61 : decode cM_work 61 = .ok (.aload_n 0, 1) := by decide +kernel
theorem dM_work_62 : decode cM_work 62 = .ok (.iconst 0, 1) := by decide +kernel
theorem dM_work_63 : decode cM_work 63 = .ok (.invokevirtual 101, 3) := by decide +kernel
theorem dM_work_66 : decode cM_work 66 = .ok (.ior, 1) := by decide +kernel
theorem dM_work_67 : decode cM_work 67 = .ok (.iastore, 1) := by decide +kernel
theorem dM_work_68 : decode cM_work 68 = .ok (.goto 165, 3) := by decide +kernel
theorem dM_work_71 : decode cM_work 71 = .ok (.iload_n 1, 1) := by decide +kernel
theorem dM_work_72 : decode cM_work 72 = .ok (.iconst 2, 1) := by decide +kernel
theorem dM_work_73 : decode cM_work 73 = .ok (.if_icmp .eq 14, 3) := by decide +kernel
theorem dM_work_76 : decode cM_work 76 = .ok (.iload_n 1, 1) := by decide +kernel
theorem dM_work_77 : decode cM_work 77 = .ok (.iconst 3, 1) := by decide +kernel
theorem dM_work_78 : decode cM_work 78 = .ok (.if_icmp .eq 9, 3) := by decide +kernel
theorem dM_work_81 : decode cM_work 81 = .ok (.iload_n 1, 1) := by decide +kernel
theorem dM_work_82 : decode cM_work 82 = .ok (.bipush 7, 2) := by decide +kernel
theorem dM_work_84 : decode cM_work 84 = .ok (.if_icmp .ne 81, 3) := by decide +kernel
theorem dM_work_87 : decode cM_work 87 = .ok (.aload_n 0, 1) := by decide +kernel
theorem dM_work_88 : decode cM_work 88 = .ok (.iload_n 3, 1) := by decide +kernel
theorem dM_work_89 : decode cM_work 89 = .ok (.iload_n 2, 1) := by decide +kernel
theorem dM_work_90 : decode cM_work 90 = .ok (.iload_n 1, 1) := by decide +kernel
theorem dM_work_91 : decode cM_work 91 = .ok (.iconst 3, 1) := by decide +kernel
theorem dM_work_92 : decode cM_work 92 = .ok (.if_icmp .ne 8, 3) := by decide +kernel
theorem dM_work_95 : decode cM_work 95 = .ok (.iload 4, 2) := by decide +kernel
theorem dM_work_97 : decode cM_work 97 = .ok (.goto 4, 3) := by decide +kernel
theorem dM_work_100 : decode cM_work 100 = .ok (.iconst 0, 1) := by decide +kernel
theorem dM_work_101 : decode cM_work 101 = .ok (.bipush 8, 2) := by decide +kernel
theorem dM_work_103 : decode cM_work 103 = .ok (.invokevirtual 104, 3) := by decide +kernel
theorem dM_work_106 : decode cM_work 106 = .ok (.istore 5, 2) := by decide +kernel
theorem dM_work_108 : decode cM_work 108 = .ok (.aload_n 0, 1) := by decide +kernel
theorem dM_work_109 : decode cM_work 109 = .ok (.getfield 13, 3) := by decide +kernel
theorem dM_work_112 : decode cM_work 112 = .ok (.iconst 1, 1) := by decide +kernel
theorem dM_work_113 : decode cM_work 113 = .ok (.iload 5, 2) := by decide +kernel
theorem dM_work_115 : decode cM_work 115 = .ok (.invokestatic 98, 3) := by decide +kernel
theorem dM_work_118 : decode cM_work 118 = .ok (.bipush (-41), 2) := by decide +kernel
theorem dM_work_120 : decode cM_work 120 = .ok (.iand, 1) := by decide +kernel
theorem dM_work_121 : decode cM_work 121 = .ok (.iload_n 1, 1) := by decide +kernel
theorem dM_work_122 : decode cM_work 122 = .ok (.bipush 7, 2) := by decide +kernel
theorem dM_work_124 : decode cM_work 124 = .ok (.if_icmp .ne 7, 3) := by decide +kernel
theorem dM_work_127 : decode cM_work 127 = .ok (.iload_n 2, 1) := by decide +kernel
theorem dM_work_128 : decode cM_work 128 = .ok (.goto 5, 3) := by decide +kernel
theorem dM_work_131 : decode cM_work 131 = .ok (.iload 5, 2) := by decide +kernel
theorem dM_work_133 : decode cM_work 133 = .ok (.bipush 40, 2) := by decide +kernel
theorem dM_work_135 : decode cM_work 135 = .ok (.iand, 1) := by decide +kernel
theorem dM_work_136 : decode cM_work 136 = .ok (.ior, 1) := by decide +kernel
theorem dM_work_137 : decode cM_work 137 = .ok (.aload_n 0, 1) := by decide +kernel
theorem dM_work_138 : decode cM_work 138 = .ok (.iconst 2, 1) := by decide +kernel
theorem dM_work_139 : decode cM_work 139 = .ok (.invokevirtual 101, 3) := by decide +kernel
theorem dM_work_142 : decode cM_work 142 = .ok (.ior, 1) := by decide +kernel
theorem dM_work_143 : decode cM_work 143 = .ok (.iastore, 1) := by decide +kernel
theorem dM_work_144 : decode cM_work 144 = .ok (.aload_n 0, 1) := by decide +kernel
theorem dM_work_145 : decode cM_work 145 = .ok (.getfield 13, 3) := by decide +kernel
theorem dM_work_148 : decode cM_work 148 = .ok (.iconst 0, 1) := by decide +kernel
theorem dM_work_149 : decode cM_work 149 = .ok (.iload_n 1, 1) := by decide +kernel
theorem dM_work_150 : decode cM_work 150 = .ok (.bipush 7, 2) := by decide +kernel
theorem dM_work_152 : decode cM_work 152 = .ok (.if_icmp .ne 7, 3) := by decide +kernel
theorem dM_work_155 : decode cM_work 155 = .ok (.iload_n 3, 1) := by decide +kernel
theorem dM_work_156 : decode cM_work 156 = .ok (.goto 5, 3) := by decide +kernel
theorem dM_work_159 : decode cM_work 159 = .ok (.iload 5, 2) := by decide +kernel
theorem dM_work_161 : decode cM_work 161 = .ok (.iastore, 1) := by decide +kernel
theorem dM_work_162 : decode cM_work 162 = .ok (.goto 71, 3) := by decide +kernel
theorem dM_work_165 : decode cM_work 165 = .ok (.aload_n 0, 1) := by decide +kernel
theorem dM_work_166 : decode cM_work 166 = .ok (.getfield 13, 3) := by decide +kernel
theorem dM_work_169 : decode cM_work 169 = .ok (.iconst 0, 1) := by decide +kernel
theorem dM_work_170 : decode cM_work 170 = .ok (.iload_n 1, 1) := by decide +kernel
theorem dM_work_171 : decode cM_work 171 = .ok (.iconst 4, 1) := by decide +kernel
theorem dM_work_172 : decode cM_work 172 = .ok (.if_icmp .ne 9, 3) := by decide +kernel
theorem dM_work_175 : decode cM_work 175 = .ok (.iload_n 3, 1) := by decide +kernel
theorem dM_work_176 : decode cM_work 176 = .ok (.iload_n 2, 1) := by decide +kernel
theorem dM_work_177 : decode cM_work 177 = .ok (.iand, 1) := by decide +kernel
theorem dM_work_178 : decode cM_work 178 = .ok (.goto 17, 3) := by decide +kernel
theorem dM_work_181 : decode cM_work 181 = .ok (.iload_n 1, 1) := by decide +kernel
theorem dM_work_182 : decode cM_work 182 = .ok (.iconst 5, 1) := by decide +kernel
theorem dM_work_183 : decode cM_work 183 = .ok (.if_icmp .ne 9, 3) := by decide +kernel
theorem dM_work_186 : decode cM_work 186 = .ok (.iload_n 3, 1) := by decide +kernel
theorem dM_work_187 : decode cM_work 187 = .ok (.iload_n 2, 1) := by decide +kernel
theorem dM_work_188 : decode cM_work 188 = .ok (.ixor, 1) := by decide +kernel
theorem dM_work_189 : decode cM_work 189 = .ok (.goto 6, 3) := by decide +kernel
theorem dM_work_192 : decode cM_work 192 = .ok (.iload_n 3, 1) := by decide +kernel
theorem dM_work_193 : decode cM_work 193 = .ok (.iload_n 2, 1) := by decide +kernel
theorem dM_work_194 : decode cM_work 194 = .ok (.ior, 1) := by decide +kernel
theorem dM_work_195 : decode cM_work 195 = .ok (.iastore, 1) := by decide +kernel
theorem dM_work_196 : decode cM_work 196 = .ok (.aload_n 0, 1) := by decide +kernel
theorem dM_work_197 : decode cM_work 197 = .ok (.getfield 13, 3) := by decide +kernel
theorem dM_work_200 : decode cM_work 200 = .ok (.iconst 1, 1) := by decide +kernel
theorem dM_work_201 : decode cM_work 201 = .ok (.aload_n 0, 1) := by decide +kernel
theorem dM_work_202 : decode cM_work 202 = .ok (.getfield 13, 3) := by decide +kernel
theorem dM_work_205 : decode cM_work 205 = .ok (.iconst 0, 1) := by decide +kernel
theorem dM_work_206 : decode cM_work 206 = .ok (.iaload, 1) := by decide +kernel
theorem dM_work_207 : decode cM_work 207 = .ok (.invokestatic 98, 3) := by decide +kernel
theorem dM_work_210 : decode cM_work 210 = .ok (.aload_n 0, 1) := by decide +kernel
theorem dM_work_211 : decode cM_work 211 = .ok (.getfield 13, 3) := by decide +kernel
theorem dM_work_214 : decode cM_work 214 = .ok (.iconst 0, 1) := by decide +kernel
theorem dM_work_215 : decode cM_work 215 = .ok (.iaload, 1) := by decide +kernel
theorem dM_work_216 : decode cM_work 216 = .ok (.invokestatic 107, 3) := by decide +kernel
theorem dM_work_219 : decode cM_work 219 = .ok (.ior, 1) := by decide +kernel
theorem dM_work_220 : decode cM_work 220 = .ok (.iload_n 1, 1) := by decide +kernel
theorem dM_work_221 : decode cM_work 221 = .ok (.iconst 4, 1) := by decide +kernel
theorem dM_work_222 : decode cM_work 222 = .ok (.if_icmp .ne 8, 3) := by decide +kernel
theorem dM_work_225 : decode cM_work 225 = .ok (.bipush 16, 2) := by decide +kernel
theorem dM_work_227 : decode cM_work 227 = .ok (.goto 4, 3) := by decide +kernel
theorem dM_work_230 : decode cM_work 230 = .ok (.iconst 0, 1) := by decide +kernel
theorem dM_work_231 : decode cM_work 231 = .ok (.ior, 1) := by decide +kernel
theorem dM_work_232 : decode cM_work 232 = .ok (.iastore, 1) := by decide +kernel
theorem dM_work_233 : decode cM_work 233 = .ok (.return_, 1) := by decide +kernel
theorem dM_step1_0 : decode cM_step1 0 = .ok (.aload_n 0, 1) := by decide +kernel
theorem dM_step1_1 : decode cM_step1 1 = .ok (.getfield 13, 3) := by decide +kernel
theorem dM_step1_4 : decode cM_step1 4 = .ok (.iconst 1, 1) := by decide +kernel
theorem dM_step1_5 : decode cM_step1 5 = .ok (.iaload, 1) := by decide +kernel
theorem dM_step1_6 : decode cM_step1 6 = .ok (.iconst 1, 1) := by decide +kernel
theorem dM_step1_7 : decode cM_step1 7 = .ok (.iand, 1) := by decide +kernel
theorem dM_step1_8 : decode cM_step1 8 = .ok (.istore_n 3, 1) := by decide +kernel
theorem dM_step1_9 : decode cM_step1 9 = .ok (.iload_n 2, 1) := by decide +kernel
theorem dM_step1_10 : decode cM_step1 10 = .ok (.ifCond .eq 15, 3) := by decide +kernel
theorem dM_step1_13 : decode cM_step1 13 = .ok (.aload_n 0, 1) := by decide +kernel
theorem dM_step1_14 : decode cM_step1 14 = .ok (.iload_n 1, 1) := by decide +kernel
theorem dM_step1_15 : decode cM_step1 15 = .ok (.iconst 1, 1) := by decide +kernel
theorem dM_step1_16 : decode cM_step1 16 = .ok (.iconst 0, 1) := by decide +kernel
theorem dM_step1_17 : decode cM_step1 17 = .ok (.bipush 8, 2) := by decide +kernel
theorem dM_step1_19 : decode cM_step1 19 = .ok (.invokevirtual 94, 3) := by decide +kernel
theorem dM_step1_22 : decode cM_step1 22 = .ok (.goto 12, 3) := by decide +kernel
theorem dM_step1_25 : decode cM_step1 25 = .ok (.aload_n 0, 1) := by decide +kernel
theorem dM_step1_26 : decode cM_step1 26 = .ok (.iload_n 1, 1) := by decide +kernel
theorem dM_step1_27 : decode cM_step1 27 = .ok (.iconst 1, 1) := by decide +kernel
theorem dM_step1_28 : decode cM_step1 28 = .ok (.iconst 0, 1) := by decide +kernel
theorem dM_step1_29 : decode cM_step1 29 = .ok (.bipush 8, 2) := by decide +kernel
theorem dM_step1_31 : decode cM_step1 31 = .ok (.invokevirtual 104, 3) := by decide +kernel
theorem dM_step1_34 : decode cM_step1 34 = .ok (.istore 4, 2) := by decide +kernel
theorem dM_step1_36 : decode cM_step1 36 = .ok (.aload_n 0, 1) := by decide +kernel
theorem dM_step1_37 : decode cM_step1 37 = .ok (.getfield 13, 3) := by decide +kernel
theorem dM_step1_40 : decode cM_step1 40 = .ok (.iconst 1, 1) := by decide +kernel
theorem dM_step1_41 : decode cM_step1 41 = .ok (.iload 4, 2) := by decide +kernel
theorem dM_step1_43 : decode cM_step1 43 = .ok (.invokestatic 98, 3) := by decide +kernel
theorem dM_step1_46 : decode cM_step1 46 = .ok (.aload_n 0, 1) := by decide +kernel
theorem dM_step1_47 : decode cM_step1 47 = .ok (.iload_n 2, 1) := by decide +kernel
theorem dM_step1_48 : decode cM_step1 48 = .ok (.ifCond .eq 7, 3) := by decide +kernel
theorem dM_step1_51 : decode cM_step1 51 = .ok (.iconst 0, 1) := by decide +kernel
theorem dM_step1_52 : decode cM_step1 52 = .ok (.goto 4, 3) := by decide +kernel
theorem dM_step1_55 : decode cM_step1 55 = .ok (.iconst 2, 1) := by decide +kernel
theorem dM_step1_56 : decode cM_step1 56 = .ok (.invokevirtual 101, 3) := by decide +kernel
theorem dM_step1_59 : decode cM_step1 59 = .ok (.bipush (-2), 2) := by decide +kernel
theorem dM_step1_61 : decode cM_step1 61 = .ok (.iand, 1) := by decide +kernel
theorem dM_step1_62 : decode cM_step1 62 = .ok (.ior, 1) := by decide +kernel
theorem dM_step1_63 : decode cM_step1 63 = .ok (.iload_n 3, 1) := by decide +kernel
theorem dM_step1_64 : decode cM_step1 64 = .ok (.ior, 1) := by decide +kernel
theorem dM_step1_65 : decode cM_step1 65 = .ok (.iastore, 1) := by decide +kernel
theorem dM_step1_66 : decode cM_step1 66 = .ok (.iload 4, 2) := by decide +kernel
theorem dM_step1_68 : decode cM_step1 68 = .ok (.ireturn, 1) := by decide +kernel
theorem dM_turn_0 : decode cM_turn 0 = .ok (.iload_n 1, 1) := by decide +kernel
theorem dM_turn_1 : decode cM_turn 1 = .ok (.ifCond .eq 19, 3) := by decide +kernel
theorem dM_turn_4 : decode cM_turn 4 = .ok (.iload_n 1, 1) := by decide +kernel
theorem dM_turn_5 : decode cM_turn 5 = .ok (.iconst 2, 1) := by decide +kernel
theorem dM_turn_6 : decode cM_turn 6 = .ok (.if_icmp .eq 14, 3) := by decide +kernel
theorem dM_turn_9 : decode cM_turn 9 = .ok (.iload_n 1, 1) := by decide +kernel
theorem dM_turn_10 : decode cM_turn 10 = .ok (.iconst 4, 1) := by decide +kernel
theorem dM_turn_11 : decode cM_turn 11 = .ok (.if_icmp .eq 9, 3) := by decide +kernel
theorem dM_turn_14 : decode cM_turn 14 = .ok (.iload_n 1, 1) := by decide +kernel
theorem dM_turn_15 : decode cM_turn 15 = .ok (.bipush 6, 2) := by decide +kernel
theorem dM_turn_17 : decode cM_turn 17 = .ok (.if_icmp .ne 7, 3) := by decide +kernel
theorem dM_turn_20 : decode cM_turn 20 = .ok (.iconst 1, 1) := by decide +kernel
theorem dM_turn_21 : decode cM_turn 21 = .ok (.goto 4, 3) := by decide +kernel
theorem dM_turn_24 : decode cM_turn 24 = .ok (.iconst 0, 1) := by decide +kernel
theorem dM_turn_25 : decode cM_turn 25 = .ok (.istore_n 3, 1) := by decide +kernel
theorem dM_turn_26 : decode cM_turn 26 = .ok (.aload_n 0, 1) := by decide +kernel
theorem dM_turn_27 : decode cM_turn 27 = .ok (.getfield 13, 3) := by decide +kernel
theorem dM_turn_30 : decode cM_turn 30 = .ok (.iconst 1, 1) := by decide +kernel
theorem dM_turn_31 : decode cM_turn 31 = .ok (.iaload, 1) := by decide +kernel
theorem dM_turn_32 : decode cM_turn 32 = .ok (.iconst 1, 1) := by decide +kernel
theorem dM_turn_33 : decode cM_turn 33 = .ok (.iand, 1) := by decide +kernel
theorem dM_turn_34 : decode cM_turn 34 = .ok (.istore 4, 2) := by decide +kernel
theorem dM_turn_36 : decode cM_turn 36 = .ok (.aload_n 0, 1) := by decide +kernel
theorem dM_turn_37 : decode cM_turn 37 = .ok (.iload_n 3, 1) := by decide +kernel
theorem dM_turn_38 : decode cM_turn 38 = .ok (.ifCond .eq 10, 3) := by decide +kernel
theorem dM_turn_41 : decode cM_turn 41 = .ok (.iload_n 2, 1) := by decide +kernel
theorem dM_turn_42 : decode cM_turn 42 = .ok (.bipush 7, 2) := by decide +kernel
theorem dM_turn_44 : decode cM_turn 44 = .ok (.ishr, 1) := by decide +kernel
theorem dM_turn_45 : decode cM_turn 45 = .ok (.goto 6, 3) := by decide +kernel
theorem dM_turn_48 : decode cM_turn 48 = .ok (.iload_n 2, 1) := by decide +kernel
theorem dM_turn_49 : decode cM_turn 49 = .ok (.iconst 1, 1) := by decide +kernel
theorem dM_turn_50 : decode cM_turn 50 = .ok (.iand, 1) := by decide +kernel
theorem dM_turn_51 : decode cM_turn 51 = .ok (.putfield 110, 3) := by decide +kernel
theorem dM_turn_54 : decode cM_turn 54 = .ok (.iload_n 3, 1) := by decide +kernel
theorem dM_turn_55 : decode cM_turn 55 = .ok (.ifCond .eq 44, 3) := by decide +kernel
theorem dM_turn_58 : decode cM_turn 58 = .ok (.iload_n 2, 1) := by decide +kernel
theorem dM_turn_59 : decode cM_turn 59 = .ok (.iconst 1, 1) := by decide +kernel
theorem dM_turn_60 : decode cM_turn 60 = .ok (.ishl, 1) := by decide +kernel
theorem dM_turn_61 : decode cM_turn 61 = .ok (.sipush 255, 3) := by decide +kernel
theorem dM_turn_64 : decode cM_turn 64 = .ok (.iand, 1) := by decide +kernel
theorem dM_turn_65 : decode cM_turn 65 = .ok (.iload_n 1, 1) := by decide +kernel
theorem dM_turn_66 : decode cM_turn 66 = .ok (.ifCond .ne 10, 3) := by decide +kernel
theorem dM_turn_69 : decode cM_turn 69 = .ok (.aload_n 0, 1) := by decide +kernel
theorem dM_turn_70 : decode cM_turn 70 = .ok (.getfield 110, 3) := by decide +kernel
theorem dM_turn_73 : decode cM_turn 73 = .ok (.goto 24, 3) := by decide +kernel
theorem dM_turn_76 : decode cM_turn 76 = .ok (.iload_n 1, 1) := by decide +kernel
theorem dM_turn_77 : decode cM_turn 77 = .ok (.iconst 2, 1) := by decide +kernel
theorem dM_turn_78 : decode cM_turn 78 = .ok (.if_icmp .ne 8, 3) := by decide +kernel
theorem dM_turn_81 : decode cM_turn 81 = .ok (.iload 4, 2) := by decide +kernel
theorem dM_turn_83 : decode cM_turn 83 = .ok (.goto 14, 3) := by decide +kernel
theorem dM_turn_86 : decode cM_turn 86 = .ok (.iload_n 1, 1) := by decide +kernel
theorem dM_turn_87 : decode cM_turn 87 = .ok (.bipush 6, 2) := by decide +kernel
theorem dM_turn_89 : decode cM_turn 89 = .ok (.if_icmp .ne 7, 3) := by decide +kernel
theorem dM_turn_92 : decode cM_turn 92 = .ok (.iconst 1, 1) := by decide +kernel
theorem dM_turn_93 : decode cM_turn 93 = .ok (.goto 4, 3) := by decide +kernel
theorem dM_turn_96 : decode cM_turn 96 = .ok (.iconst 0, 1) := by decide +kernel
theorem dM_turn_97 : decode cM_turn 97 = .ok (.ior, 1) := by decide +kernel
theorem dM_turn_98 : decode cM_turn 98 = .ok (.ireturn, 1) := by decide +kernel
theorem dM_turn_99 : decode cM_turn 99 = .ok (.iload_n 2, 1) := by decide +kernel
theorem dM_turn_100 : decode cM_turn 100 = .ok (.iconst 1, 1) := by decide +kernel
theorem dM_turn_101 : decode cM_turn 101 = .ok (.ishr, 1) := by decide +kernel
theorem dM_turn_102 : decode cM_turn 102 = .ok (.iload_n 1, 1) := by decide +kernel
theorem dM_turn_103 : decode cM_turn 103 = .ok (.iconst 1, 1) := by decide +kernel
theorem dM_turn_104 : decode cM_turn 104 = .ok (.if_icmp .ne 10, 3) := by decide +kernel
theorem dM_turn_107 : decode cM_turn 107 = .ok (.aload_n 0, 1) := by decide +kernel
theorem dM_turn_108 : decode cM_turn 108 = .ok (.getfield 110, 3) := by decide +kernel
theorem dM_turn_111 : decode cM_turn 111 = .ok (.goto 26, 3) := by decide +kernel
theorem dM_turn_114 : decode cM_turn 114 = .ok (.iload_n 1, 1) := by decide +kernel
theorem dM_turn_115 : decode cM_turn 115 = .ok (.iconst 3, 1) := by decide +kernel
theorem dM_turn_116 : decode cM_turn 116 = .ok (.if_icmp .ne 8, 3) := by decide +kernel
theorem dM_turn_119 : decode cM_turn 119 = .ok (.iload 4, 2) := by decide +kernel
theorem dM_turn_121 : decode cM_turn 121 = .ok (.goto 16, 3) := by decide +kernel
theorem dM_turn_124 : decode cM_turn 124 = .ok (.iload_n 1, 1) := by decide +kernel
theorem dM_turn_125 : decode cM_turn 125 = .ok (.iconst 5, 1) := by decide +kernel
theorem dM_turn_126 : decode cM_turn 126 = .ok (.if_icmp .ne 10, 3) := by decide +kernel
theorem dM_turn_129 : decode cM_turn 129 = .ok (.iload_n 2, 1) := by decide +kernel
theorem dM_turn_130 : decode cM_turn 130 = .ok (.bipush 7, 2) := by decide +kernel
theorem dM_turn_132 : decode cM_turn 132 = .ok (.ishr, 1) := by decide +kernel
theorem dM_turn_133 : decode cM_turn 133 = .ok (.goto 4, 3) := by decide +kernel
theorem dM_turn_136 : decode cM_turn 136 = .ok (.iconst 0, 1) := by decide +kernel
theorem dM_turn_137 : decode cM_turn 137 = .ok (.bipush 7, 2) := by decide +kernel
theorem dM_turn_139 : decode cM_turn 139 = .ok (.ishl, 1) := by decide +kernel
theorem dM_turn_140 : decode cM_turn 140 = .ok (.ior, 1) := by decide +kernel
theorem dM_turn_141 : decode cM_turn 141 = .ok (.ireturn, 1) := by decide +kernel
theorem dM_turned_0 : decode cM_turned 0 = .ok (.aload_n 0, 1) := by decide +kernel
theorem dM_turned_1 : decode cM_turned 1 = .ok (.iload_n 1, 1) := by decide +kernel
theorem dM_turned_2 : decode cM_turned 2 = .ok (.iload_n 2, 1) := by decide +kernel
theorem dM_turned_3 : decode cM_turned 3 = .ok (.invokevirtual 113, 3) := by decide +kernel
theorem dM_turned_6 : decode cM_turned 6 = .ok (.istore_n 3, 1) := by decide +kernel
theorem dM_turned_7 : decode cM_turned 7 = .ok (.aload_n 0, 1) := by decide +kernel
theorem dM_turned_8 : decode cM_turned 8 = .ok (.getfield 13, 3) := by decide +kernel
theorem dM_turned_11 : decode cM_turned 11 = .ok (.iconst 1, 1) := by decide +kernel
theorem dM_turned_12 : decode cM_turned 12 = .ok (.iload_n 3, 1) := by decide +kernel
theorem dM_turned_13 : decode cM_turned 13 = .ok (.invokestatic 98, 3) := by decide +kernel
theorem dM_turned_16 : decode cM_turned 16 = .ok (.iload_n 3, 1) := by decide +kernel
theorem dM_turned_17 : decode cM_turned 17 = .ok (.invokestatic 107, 3) := by decide +kernel
theorem dM_turned_20 : decode cM_turned 20 = .ok (.ior, 1) := by decide +kernel
theorem dM_turned_21 : decode cM_turned 21 = .ok (.aload_n 0, 1) := by decide +kernel
theorem dM_turned_22 : decode cM_turned 22 = .ok (.getfield 110, 3) := by decide +kernel
theorem dM_turned_25 : decode cM_turned 25 = .ok (.ior, 1) := by decide +kernel
theorem dM_turned_26 : decode cM_turned 26 = .ok (.iastore, 1) := by decide +kernel
theorem dM_turned_27 : decode cM_turned 27 = .ok (.iload_n 3, 1) := by decide +kernel
theorem dM_turned_28 : decode cM_turned 28 = .ok (.ireturn, 1) := by decide +kernel
theorem dM_bit_0 : decode cM_bit 0 = .ok (.iload_n 2, 1) := by decide +kernel
theorem dM_bit_1 : decode cM_bit 1 = .ok (.iload_n 1, 1) := by decide +kernel
theorem dM_bit_2 : decode cM_bit 2 = .ok (.ishr, 1) := by decide +kernel
theorem dM_bit_3 : decode cM_bit 3 = .ok (.iconst 1, 1) := by decide +kernel
theorem dM_bit_4 : decode cM_bit 4 = .ok (.iand, 1) := by decide +kernel
theorem dM_bit_5 : decode cM_bit 5 = .ok (.iconst 1, 1) := by decide +kernel
theorem dM_bit_6 : decode cM_bit 6 = .ok (.if_icmp .ne 7, 3) := by decide +kernel
theorem dM_bit_9 : decode cM_bit 9 = .ok (.iconst 1, 1) := by decide +kernel
theorem dM_bit_10 : decode cM_bit 10 = .ok (.goto 4, 3) := by decide +kernel
theorem dM_bit_13 : decode cM_bit 13 = .ok (.iconst 0, 1) := by decide +kernel
theorem dM_bit_14 : decode cM_bit 14 = .ok (.istore_n 3, 1) := by decide +kernel
theorem dM_bit_15 : decode cM_bit 15 = .ok (.aload_n 0, 1) := by decide +kernel
theorem dM_bit_16 : decode cM_bit 16 = .ok (.getfield 13, 3) := by decide +kernel
theorem dM_bit_19 : decode cM_bit 19 = .ok (.iconst 1, 1) := by decide +kernel
theorem dM_bit_20 : decode cM_bit 20 = .ok (.aload_n 0, 1) := by decide +kernel
theorem dM_bit_21 : decode cM_bit 21 = .ok (.getfield 13, 3) := by decide +kernel
theorem dM_bit_24 : decode cM_bit 24 = .ok (.iconst 1, 1) := by decide +kernel
theorem dM_bit_25 : decode cM_bit 25 = .ok (.iaload, 1) := by decide +kernel
theorem dM_bit_26 : decode cM_bit 26 = .ok (.iconst 1, 1) := by decide +kernel
theorem dM_bit_27 : decode cM_bit 27 = .ok (.iand, 1) := by decide +kernel
theorem dM_bit_28 : decode cM_bit 28 = .ok (.bipush 16, 2) := by decide +kernel
theorem dM_bit_30 : decode cM_bit 30 = .ok (.ior, 1) := by decide +kernel
theorem dM_bit_31 : decode cM_bit 31 = .ok (.iload_n 2, 1) := by decide +kernel
theorem dM_bit_32 : decode cM_bit 32 = .ok (.bipush 40, 2) := by decide +kernel
theorem dM_bit_34 : decode cM_bit 34 = .ok (.iand, 1) := by decide +kernel
theorem dM_bit_35 : decode cM_bit 35 = .ok (.ior, 1) := by decide +kernel
theorem dM_bit_36 : decode cM_bit 36 = .ok (.iload_n 3, 1) := by decide +kernel
theorem dM_bit_37 : decode cM_bit 37 = .ok (.ifCond .eq 7, 3) := by decide +kernel
theorem dM_bit_40 : decode cM_bit 40 = .ok (.iconst 0, 1) := by decide +kernel
theorem dM_bit_41 : decode cM_bit 41 = .ok (.goto 5, 3) := by decide +kernel
theorem dM_bit_44 : decode cM_bit 44 = .ok (.bipush 68, 2) := by decide +kernel
theorem dM_bit_46 : decode cM_bit 46 = .ok (.ior, 1) := by decide +kernel
theorem dM_bit_47 : decode cM_bit 47 = .ok (.iload_n 3, 1) := by decide +kernel
theorem dM_bit_48 : decode cM_bit 48 = .ok (.ifCond .eq 15, 3) := by decide +kernel
theorem dM_bit_51 : decode cM_bit 51 = .ok (.iload_n 1, 1) := by decide +kernel
theorem dM_bit_52 : decode cM_bit 52 = .ok (.bipush 7, 2) := by decide +kernel
theorem dM_bit_54 : decode cM_bit 54 = .ok (.if_icmp .ne 9, 3) := by decide +kernel
theorem dM_bit_57 : decode cM_bit 57 = .ok (.sipush 128, 3) := by decide +kernel
theorem dM_bit_60 : decode cM_bit 60 = .ok (.goto 4, 3) := by decide +kernel
theorem dM_bit_63 : decode cM_bit 63 = .ok (.iconst 0, 1) := by decide +kernel
theorem dM_bit_64 : decode cM_bit 64 = .ok (.ior, 1) := by decide +kernel
theorem dM_bit_65 : decode cM_bit 65 = .ok (.iastore, 1) := by decide +kernel
theorem dM_bit_66 : decode cM_bit 66 = .ok (.return_, 1) := by decide +kernel
theorem dM_adjust_0 : decode cM_adjust 0 = .ok (.aload_n 0, 1) := by decide +kernel
theorem dM_adjust_1 : decode cM_adjust 1 = .ok (.getfield 13, 3) := by decide +kernel
theorem dM_adjust_4 : decode cM_adjust 4 = .ok (.iconst 0, 1) := by decide +kernel
theorem dM_adjust_5 : decode cM_adjust 5 = .ok (.iaload, 1) := by decide +kernel
theorem dM_adjust_6 : decode cM_adjust 6 = .ok (.istore_n 1, 1) := by decide +kernel
theorem dM_adjust_7 : decode cM_adjust 7 = .ok (.aload_n 0, 1) := by decide +kernel
theorem dM_adjust_8 : decode cM_adjust 8 = .ok (.getfield 13, 3) := by decide +kernel
theorem dM_adjust_11 : decode cM_adjust 11 = .ok (.iconst 1, 1) := by decide +kernel
theorem dM_adjust_12 : decode cM_adjust 12 = .ok (.iaload, 1) := by decide +kernel
theorem dM_adjust_13 : decode cM_adjust 13 = .ok (.istore_n 2, 1) := by decide +kernel
theorem dM_adjust_14 : decode cM_adjust 14 = .ok (.iload_n 2, 1) := by decide +kernel
theorem dM_adjust_15 : decode cM_adjust 15 = .ok (.bipush 16, 2) := by decide +kernel
theorem dM_adjust_17 : decode cM_adjust 17 = .ok (.iand, 1) := by decide +kernel
theorem dM_adjust_18 : decode cM_adjust 18 = .ok (.ifCond .ne 12, 3) := by decide +kernel
theorem dM_adjust_21 : decode cM_adjust 21 = .ok (.iload_n 1, 1) := by decide +kernel
theorem dM_adjust_22 : decode cM_adjust 22 = .ok (.bipush 15, 2) := by decide +kernel
theorem dM_adjust_24 : decode cM_adjust 24 = .ok (.iand, 1) := by decide +kernel
theorem dM_adjust_25 : decode cM_adjust 25 = .ok (.bipush 9, 2) := by decide +kernel
theorem dM_adjust_27 : decode cM_adjust 27 = .ok (.if_icmp .le 8, 3) := by decide +kernel
theorem dM_adjust_30 : decode cM_adjust 30 = .ok (.bipush 6, 2) := by decide +kernel
theorem dM_adjust_32 : decode cM_adjust 32 = .ok (.goto 4, 3) := by decide +kernel
theorem dM_adjust_35 : decode cM_adjust 35 = .ok (.iconst 0, 1) := by decide +kernel
theorem dM_adjust_36 : decode cM_adjust 36 = .ok (.istore_n 3, 1) := by decide +kernel
theorem dM_adjust_37 : decode cM_adjust 37 = .ok (.iload_n 2, 1) := by decide +kernel
theorem dM_adjust_38 : decode cM_adjust 38 = .ok (.iconst 1, 1) := by decide +kernel
theorem dM_adjust_39 : decode cM_adjust 39 = .ok (.iand, 1) := by decide +kernel
theorem dM_adjust_40 : decode cM_adjust 40 = .ok (.ifCond .ne 10, 3) := by decide +kernel
theorem dM_adjust_43 : decode cM_adjust 43 = .ok (.iload_n 1, 1) := by decide +kernel
theorem dM_adjust_44 : decode cM_adjust 44 = .ok (.sipush 153, 3) := by decide +kernel
theorem dM_adjust_47 : decode cM_adjust 47 = .ok (.if_icmp .le 7, 3) := by decide +kernel
theorem dM_adjust_50 : decode cM_adjust 50 = .ok (.iconst 1, 1) := by decide +kernel
theorem dM_adjust_51 : decode cM_adjust 51 = .ok (.goto 4, 3) := by decide +kernel
theorem dM_adjust_54 : decode cM_adjust 54 = .ok (.iconst 0, 1) := by decide +kernel
theorem dM_adjust_55 : decode cM_adjust 55 = .ok (.istore 4, 2) := by decide +kernel
theorem dM_adjust_57 : decode cM_adjust 57 = .ok (.iload 4, 2) := by decide +kernel
theorem dM_adjust_59 : decode cM_adjust 59 = .ok (.ifCond .eq 10, 3) := by decide +kernel
theorem dM_adjust_62 : decode cM_adjust 62 = .ok (.iload_n 3, 1) := by decide +kernel
theorem dM_adjust_63 : decode cM_adjust 63 = .ok (.bipush 96, 2) := by decide +kernel
theorem dM_adjust_65 : decode cM_adjust 65 = .ok (.iadd, 1) := by decide +kernel
theorem dM_adjust_66 : decode cM_adjust 66 = .ok (.goto 4, 3) := by decide +kernel
theorem dM_adjust_69 : decode cM_adjust 69 = .ok (.iload_n 3, 1) := by decide +kernel
theorem dM_adjust_70 : decode cM_adjust 70 = .ok (.istore_n 3, 1) := by decide +kernel
end
section
theorem dM_adjust_71 : decode cM_adjust 71 = .ok (.aload_n 0, 1) := by decide +kernel
theorem dM_adjust_72 : decode cM_adjust 72 = .ok (.getfield 13, 3) := by decide +kernel
theorem dM_adjust_75 : decode cM_adjust 75 = .ok (.iconst 0, 1) := by decide +kernel
theorem dM_adjust_76 : decode cM_adjust 76 = .ok (.iload_n 2, 1) := by decide +kernel
theorem dM_adjust_77 : decode cM_adjust 77 = .ok (.iconst 2, 1) := by decide +kernel
theorem dM_adjust_78 : decode cM_adjust 78 = .ok (.iand, 1) := by decide +kernel
theorem dM_adjust_79 : decode cM_adjust 79 = .ok (.ifCond .eq 9, 3) := by decide +kernel
theorem dM_adjust_82 : decode cM_adjust 82 = .ok (.iload_n 1, 1) := by decide +kernel
theorem dM_adjust_83 : decode cM_adjust 83 = .ok (.iload_n 3, 1) := by decide +kernel
theorem dM_adjust_84 : decode cM_adjust 84 = .ok (.isub, 1) := by decide +kernel
theorem dM_adjust_85 : decode cM_adjust 85 = .ok (.goto 6, 3) := by decide +kernel
theorem dM_adjust_88 : decode cM_adjust 88 = .ok (.iload_n 1, 1) := by decide +kernel
theorem dM_adjust_89 : decode cM_adjust 89 = .ok (.iload_n 3, 1) := by decide +kernel
theorem dM_adjust_90 : decode cM_adjust 90 = .ok (.iadd, 1) := by decide +kernel
theorem dM_adjust_91 : decode cM_adjust 91 = .ok (.sipush 255, 3) := by decide +kernel
theorem dM_adjust_94 : decode cM_adjust 94 = .ok (.iand, 1) := by decide +kernel
theorem dM_adjust_95 : decode cM_adjust 95 = .ok (.iastore, 1) := by decide +kernel
theorem dM_adjust_96 : decode cM_adjust 96 = .ok (.aload_n 0, 1) := by decide +kernel
theorem dM_adjust_97 : decode cM_adjust 97 = .ok (.getfield 13, 3) := by decide +kernel
theorem dM_adjust_100 : decode cM_adjust 100 = .ok (.iconst 1, 1) := by decide +kernel
theorem dM_adjust_101 : decode cM_adjust 101 = .ok (.aload_n 0, 1) := by decide +kernel
theorem dM_adjust_102 : decode cM_adjust 102 = .ok (.getfield 13, 3) := by decide +kernel
theorem dM_adjust_105 : decode cM_adjust 105 = .ok (.iconst 0, 1) := by decide +kernel
theorem dM_adjust_106 : decode cM_adjust 106 = .ok (.iaload, 1) := by decide +kernel
theorem dM_adjust_107 : decode cM_adjust 107 = .ok (.invokestatic 98, 3) := by decide +kernel
theorem dM_adjust_110 : decode cM_adjust 110 = .ok (.aload_n 0, 1) := by decide +kernel
theorem dM_adjust_111 : decode cM_adjust 111 = .ok (.getfield 13, 3) := by decide +kernel
theorem dM_adjust_114 : decode cM_adjust 114 = .ok (.iconst 0, 1) := by decide +kernel
theorem dM_adjust_115 : decode cM_adjust 115 = .ok (.iaload, 1) := by decide +kernel
theorem dM_adjust_116 : decode cM_adjust 116 = .ok (.invokestatic 107, 3) := by decide +kernel
theorem dM_adjust_119 : decode cM_adjust 119 = .ok (.ior, 1) := by decide +kernel
theorem dM_adjust_120 : decode cM_adjust 120 = .ok (.iload_n 1, 1) := by decide +kernel
theorem dM_adjust_121 : decode cM_adjust 121 = .ok (.aload_n 0, 1) := by decide +kernel
theorem dM_adjust_122 : decode cM_adjust 122 = .ok (.getfield 13, 3) := by decide +kernel
theorem dM_adjust_125 : decode cM_adjust 125 = .ok (.iconst 0, 1) := by decide +kernel
theorem dM_adjust_126 : decode cM_adjust 126 = .ok (.iaload, 1) := by decide +kernel
theorem dM_adjust_127 : decode cM_adjust 127 = .ok (.ixor, 1) := by decide +kernel
theorem dM_adjust_128 : decode cM_adjust 128 = .ok (.bipush 16, 2) := by decide +kernel
theorem dM_adjust_130 : decode cM_adjust 130 = .ok (.iand, 1) := by decide +kernel
theorem dM_adjust_131 : decode cM_adjust 131 = .ok (.ior, 1) := by decide +kernel
theorem dM_adjust_132 : decode cM_adjust 132 = .ok (.iload_n 2, 1) := by decide +kernel
theorem dM_adjust_133 : decode cM_adjust 133 = .ok (.iconst 2, 1) := by decide +kernel
theorem dM_adjust_134 : decode cM_adjust 134 = .ok (.iand, 1) := by decide +kernel
theorem dM_adjust_135 : decode cM_adjust 135 = .ok (.ior, 1) := by decide +kernel
theorem dM_adjust_136 : decode cM_adjust 136 = .ok (.iload 4, 2) := by decide +kernel
theorem dM_adjust_138 : decode cM_adjust 138 = .ok (.ifCond .eq 7, 3) := by decide +kernel
theorem dM_adjust_141 : decode cM_adjust 141 = .ok (.iconst 1, 1) := by decide +kernel
theorem dM_adjust_142 : decode cM_adjust 142 = .ok (.goto 4, 3) := by decide +kernel
theorem dM_adjust_145 : decode cM_adjust 145 = .ok (.iconst 0, 1) := by decide +kernel
theorem dM_adjust_146 : decode cM_adjust 146 = .ok (.ior, 1) := by decide +kernel
theorem dM_adjust_147 : decode cM_adjust 147 = .ok (.iastore, 1) := by decide +kernel
theorem dM_adjust_148 : decode cM_adjust 148 = .ok (.return_, 1) := by decide +kernel
theorem dM_single_0 : decode cM_single 0 = .ok (.aload_n 0, 1) := by decide +kernel
theorem dM_single_1 : decode cM_single 1 = .ok (.getfield 13, 3) := by decide +kernel
theorem dM_single_4 : decode cM_single 4 = .ok (.iconst 1, 1) := by decide +kernel
theorem dM_single_5 : decode cM_single 5 = .ok (.iaload, 1) := by decide +kernel
theorem dM_single_6 : decode cM_single 6 = .ok (.istore_n 2, 1) := by decide +kernel
theorem dM_single_7 : decode cM_single 7 = .ok (.iload_n 1, 1) := by decide +kernel
theorem dM_single_8 : decode cM_single 8 = .ok (.iconst 4, 1) := by decide +kernel
theorem dM_single_9 : decode cM_single 9 = .ok (.if_icmp .ge 49, 3) := by decide +kernel
theorem dM_single_12 : decode cM_single 12 = .ok (.aload_n 0, 1) := by decide +kernel
theorem dM_single_13 : decode cM_single 13 = .ok (.getfield 13, 3) := by decide +kernel
theorem dM_single_16 : decode cM_single 16 = .ok (.iconst 0, 1) := by decide +kernel
theorem dM_single_17 : decode cM_single 17 = .ok (.aload_n 0, 1) := by decide +kernel
theorem dM_single_18 : decode cM_single 18 = .ok (.iload_n 1, 1) := by decide +kernel
theorem dM_single_19 : decode cM_single 19 = .ok (.aload_n 0, 1) := by decide +kernel
theorem dM_single_20 : decode cM_single 20 = .ok (.getfield 13, 3) := by decide +kernel
theorem dM_single_23 : decode cM_single 23 = .ok (.iconst 0, 1) := by decide +kernel
theorem dM_single_24 : decode cM_single 24 = .ok (.iaload, 1) := by decide +kernel
theorem dM_single_25 : decode cM_single 25 = .ok (.invokevirtual 113, 3) := by decide +kernel
theorem dM_single_28 : decode cM_single 28 = .ok (.iastore, 1) := by decide +kernel
theorem dM_single_29 : decode cM_single 29 = .ok (.aload_n 0, 1) := by decide +kernel
theorem dM_single_30 : decode cM_single 30 = .ok (.getfield 13, 3) := by decide +kernel
theorem dM_single_33 : decode cM_single 33 = .ok (.iconst 1, 1) := by decide +kernel
theorem dM_single_34 : decode cM_single 34 = .ok (.iload_n 2, 1) := by decide +kernel
theorem dM_single_35 : decode cM_single 35 = .ok (.sipush 196, 3) := by decide +kernel
theorem dM_single_38 : decode cM_single 38 = .ok (.iand, 1) := by decide +kernel
theorem dM_single_39 : decode cM_single 39 = .ok (.aload_n 0, 1) := by decide +kernel
theorem dM_single_40 : decode cM_single 40 = .ok (.getfield 13, 3) := by decide +kernel
theorem dM_single_43 : decode cM_single 43 = .ok (.iconst 0, 1) := by decide +kernel
theorem dM_single_44 : decode cM_single 44 = .ok (.iaload, 1) := by decide +kernel
theorem dM_single_45 : decode cM_single 45 = .ok (.bipush 40, 2) := by decide +kernel
theorem dM_single_47 : decode cM_single 47 = .ok (.iand, 1) := by decide +kernel
theorem dM_single_48 : decode cM_single 48 = .ok (.ior, 1) := by decide +kernel
theorem dM_single_49 : decode cM_single 49 = .ok (.aload_n 0, 1) := by decide +kernel
theorem dM_single_50 : decode cM_single 50 = .ok (.getfield 110, 3) := by decide +kernel
theorem dM_single_53 : decode cM_single 53 = .ok (.ior, 1) := by decide +kernel
theorem dM_single_54 : decode cM_single 54 = .ok (.iastore, 1) := by decide +kernel
theorem dM_single_55 : decode cM_single 55 = .ok (.goto 112, 3) := by decide +kernel
theorem dM_single_58 : decode cM_single 58 = .ok (.iload_n 1, 1) := by decide +kernel
theorem dM_single_59 : decode cM_single 59 = .ok (.iconst 4, 1) := by decide +kernel
theorem dM_single_60 : decode cM_single 60 = .ok (.if_icmp .ne 10, 3) := by decide +kernel
theorem dM_single_63 : decode cM_single 63 = .ok (.aload_n 0, 1) := by decide +kernel
theorem dM_single_64 : decode cM_single 64 = .ok (.invokevirtual 117, 3) := by decide +kernel
theorem dM_single_67 : decode cM_single 67 = .ok (.goto 100, 3) := by decide +kernel
theorem dM_single_70 : decode cM_single 70 = .ok (.iload_n 1, 1) := by decide +kernel
theorem dM_single_71 : decode cM_single 71 = .ok (.iconst 5, 1) := by decide +kernel
theorem dM_single_72 : decode cM_single 72 = .ok (.if_icmp .ne 48, 3) := by decide +kernel
theorem dM_single_75 : decode cM_single 75 = .ok (.aload_n 0, 1) := by decide +kernel
theorem dM_single_76 : decode cM_single 76 = .ok (.getfield 13, 3) := by decide +kernel
theorem dM_single_79 : decode cM_single 79 = .ok (.iconst 0, 1) := by decide +kernel
theorem dM_single_80 : decode cM_single 80 = .ok (.sipush 255, 3) := by decide +kernel
theorem dM_single_83 : decode cM_single 83 = .ok (.aload_n 0, 1) := by decide +kernel
theorem dM_single_84 : decode cM_single 84 = .ok (.getfield 13, 3) := by decide +kernel
theorem dM_single_87 : decode cM_single 87 = .ok (.iconst 0, 1) := by decide +kernel
theorem dM_single_88 : decode cM_single 88 = .ok (.iaload, 1) := by decide +kernel
theorem dM_single_89 : decode cM_single 89 = .ok (.isub, 1) := by decide +kernel
theorem dM_single_90 : decode cM_single 90 = .ok (.iastore, 1) := by decide +kernel
theorem dM_single_91 : decode cM_single 91 = .ok (.aload_n 0, 1) := by decide +kernel
theorem dM_single_92 : decode cM_single 92 = .ok (.getfield 13, 3) := by decide +kernel
theorem dM_single_95 : decode cM_single 95 = .ok (.iconst 1, 1) := by decide +kernel
theorem dM_single_96 : decode cM_single 96 = .ok (.iload_n 2, 1) := by decide +kernel
theorem dM_single_97 : decode cM_single 97 = .ok (.sipush 197, 3) := by decide +kernel
theorem dM_single_100 : decode cM_single 100 = .ok (.iand, 1) := by decide +kernel
theorem dM_single_101 : decode cM_single 101 = .ok (.aload_n 0, 1) := by decide +kernel
theorem dM_single_102 : decode cM_single 102 = .ok (.getfield 13, 3) := by decide +kernel
theorem dM_single_105 : decode cM_single 105 = .ok (.iconst 0, 1) := by decide +kernel
theorem dM_single_106 : decode cM_single 106 = .ok (.iaload, 1) := by decide +kernel
theorem dM_single_107 : decode cM_single 107 = .ok (.bipush 40, 2) := by decide +kernel
theorem dM_single_109 : decode cM_single 109 = .ok (.iand, 1) := by decide +kernel
theorem dM_single_110 : decode cM_single 110 = .ok (.ior, 1) := by decide +kernel
theorem dM_single_111 : decode cM_single 111 = .ok (.bipush 16, 2) := by decide +kernel
theorem dM_single_113 : decode cM_single 113 = .ok (.ior, 1) := by decide +kernel
theorem dM_single_114 : decode cM_single 114 = .ok (.iconst 2, 1) := by decide +kernel
theorem dM_single_115 : decode cM_single 115 = .ok (.ior, 1) := by decide +kernel
theorem dM_single_116 : decode cM_single 116 = .ok (.iastore, 1) := by decide +kernel
theorem dM_single_117 : decode cM_single 117 = .ok (.goto 50, 3) := by decide +kernel
theorem dM_single_120 : decode cM_single 120 = .ok (.iload_n 2, 1) := by decide +kernel
theorem dM_single_121 : decode cM_single 121 = .ok (.iconst 1, 1) := by decide +kernel
theorem dM_single_122 : decode cM_single 122 = .ok (.iand, 1) := by decide +kernel
theorem dM_single_123 : decode cM_single 123 = .ok (.istore_n 3, 1) := by decide +kernel
theorem dM_single_124 : decode cM_single 124 = .ok (.aload_n 0, 1) := by decide +kernel
theorem dM_single_125 : decode cM_single 125 = .ok (.getfield 13, 3) := by decide +kernel
theorem dM_single_128 : decode cM_single 128 = .ok (.iconst 1, 1) := by decide +kernel
theorem dM_single_129 : decode cM_single 129 = .ok (.iload_n 2, 1) := by decide +kernel
theorem dM_single_130 : decode cM_single 130 = .ok (.sipush 196, 3) := by decide +kernel
theorem dM_single_133 : decode cM_single 133 = .ok (.iand, 1) := by decide +kernel
theorem dM_single_134 : decode cM_single 134 = .ok (.aload_n 0, 1) := by decide +kernel
theorem dM_single_135 : decode cM_single 135 = .ok (.getfield 13, 3) := by decide +kernel
theorem dM_single_138 : decode cM_single 138 = .ok (.iconst 0, 1) := by decide +kernel
theorem dM_single_139 : decode cM_single 139 = .ok (.iaload, 1) := by decide +kernel
theorem dM_single_140 : decode cM_single 140 = .ok (.bipush 40, 2) := by decide +kernel
theorem dM_single_142 : decode cM_single 142 = .ok (.iand, 1) := by decide +kernel
theorem dM_single_143 : decode cM_single 143 = .ok (.ior, 1) := by decide +kernel
theorem dM_single_144 : decode cM_single 144 = .ok (.iload_n 1, 1) := by decide +kernel
theorem dM_single_145 : decode cM_single 145 = .ok (.bipush 6, 2) := by decide +kernel
theorem dM_single_147 : decode cM_single 147 = .ok (.if_icmp .ne 7, 3) := by decide +kernel
theorem dM_single_150 : decode cM_single 150 = .ok (.iconst 1, 1) := by decide +kernel
theorem dM_single_151 : decode cM_single 151 = .ok (.goto 14, 3) := by decide +kernel
theorem dM_single_154 : decode cM_single 154 = .ok (.iload_n 3, 1) := by decide +kernel
theorem dM_single_155 : decode cM_single 155 = .ok (.iconst 1, 1) := by decide +kernel
theorem dM_single_156 : decode cM_single 156 = .ok (.if_icmp .ne 8, 3) := by decide +kernel
theorem dM_single_159 : decode cM_single 159 = .ok (.bipush 16, 2) := by decide +kernel
theorem dM_single_161 : decode cM_single 161 = .ok (.goto 4, 3) := by decide +kernel
theorem dM_single_164 : decode cM_single 164 = .ok (.iconst 1, 1) := by decide +kernel
theorem dM_single_165 : decode cM_single 165 = .ok (.ior, 1) := by decide +kernel
theorem dM_single_166 : decode cM_single 166 = .ok (.iastore, 1) := by decide +kernel
theorem dM_single_167 : decode cM_single 167 = .ok (.return_, 1) := by decide +kernel
theorem dM_over_0 : decode cM_over 0 = .ok (.iconst 0, 1) := by decide +kernel
theorem dM_over_1 : decode cM_over 1 = .ok (.istore_n 2, 1) := by decide +kernel
theorem dM_over_2 : decode cM_over 2 = .ok (.aload_n 0, 1) := by decide +kernel
theorem dM_over_3 : decode cM_over 3 = .ok (.getfield 120, 3) := by decide +kernel
theorem dM_over_6 : decode cM_over 6 = .ok (.istore_n 3, 1) := by decide +kernel
theorem dM_over_7 : decode cM_over 7 = .ok (.iload_n 2, 1) := by decide +kernel
theorem dM_over_8 : decode cM_over 8 = .ok (.aload_n 0, 1) := by decide +kernel
theorem dM_over_9 : decode cM_over 9 = .ok (.getfield 123, 3) := by decide +kernel
theorem dM_over_12 : decode cM_over 12 = .ok (.if_icmp .ge 30, 3) := by decide +kernel
theorem dM_over_15 : decode cM_over 15 = .ok (.iload_n 3, 1) := by decide +kernel
theorem dM_over_16 : decode cM_over 16 = .ok (.aload_n 0, 1) := by decide +kernel
theorem dM_over_17 : decode cM_over 17 = .ok (.getfield 23, 3) := by decide +kernel
theorem dM_over_20 : decode cM_over 20 = .ok (.iload_n 2, 1) := by decide +kernel
theorem dM_over_21 : decode cM_over 21 = .ok (.iaload, 1) := by decide +kernel
theorem dM_over_22 : decode cM_over 22 = .ok (.iadd, 1) := by decide +kernel
theorem dM_over_23 : decode cM_over 23 = .ok (.iload_n 1, 1) := by decide +kernel
theorem dM_over_24 : decode cM_over 24 = .ok (.if_icmp .gt 18, 3) := by decide +kernel
theorem dM_over_27 : decode cM_over 27 = .ok (.iload_n 3, 1) := by decide +kernel
theorem dM_over_28 : decode cM_over 28 = .ok (.aload_n 0, 1) := by decide +kernel
theorem dM_over_29 : decode cM_over 29 = .ok (.getfield 23, 3) := by decide +kernel
theorem dM_over_32 : decode cM_over 32 = .ok (.iload_n 2, 1) := by decide +kernel
theorem dM_over_33 : decode cM_over 33 = .ok (.iaload, 1) := by decide +kernel
theorem dM_over_34 : decode cM_over 34 = .ok (.iadd, 1) := by decide +kernel
theorem dM_over_35 : decode cM_over 35 = .ok (.istore_n 3, 1) := by decide +kernel
theorem dM_over_36 : decode cM_over 36 = .ok (.iinc 2 1, 3) := by decide +kernel
theorem dM_over_39 : decode cM_over 39 = .ok (.goto (-32), 3) := by decide +kernel
theorem dM_over_42 : decode cM_over 42 = .ok (.iload_n 2, 1) := by decide +kernel
theorem dM_over_43 : decode cM_over 43 = .ok (.ireturn, 1) := by decide +kernel
theorem dM_play_0 : decode cM_play 0 = .ok (.aload_n 0, 1) := by decide +kernel
theorem dM_play_1 : decode cM_play 1 = .ok (.getfield 126, 3) := by decide +kernel
theorem dM_play_4 : decode cM_play 4 = .ok (.ifCond .eq 35, 3) := by decide +kernel
theorem dM_play_7 : decode cM_play 7 = .ok (.aload_n 0, 1) := by decide +kernel
theorem dM_play_8 : decode cM_play 8 = .ok (.aload_n 0, 1) := by decide +kernel
theorem dM_play_9 : decode cM_play 9 = .ok (.aload_n 0, 1) := by decide +kernel
theorem dM_play_10 : decode cM_play 10 = .ok (.getfield 26, 3) := by decide +kernel
theorem dM_play_13 : decode cM_play 13 = .ok (.invokevirtual 129, 3) := by decide +kernel
theorem dM_play_16 : decode cM_play 16 = .ok (.putfield 131, 3) := by decide +kernel
theorem dM_play_19 : decode cM_play 19 = .ok (.aload_n 0, 1) := by decide +kernel
theorem dM_play_20 : decode cM_play 20 = .ok (.aload_n 0, 1) := by decide +kernel
theorem dM_play_21 : decode cM_play 21 = .ok (.getfield 131, 3) := by decide +kernel
theorem dM_play_24 : decode cM_play 24 = .ok (.aload_n 0, 1) := by decide +kernel
theorem dM_play_25 : decode cM_play 25 = .ok (.getfield 123, 3) := by decide +kernel
theorem dM_play_28 : decode cM_play 28 = .ok (.if_icmp .ge 7, 3) := by decide +kernel
theorem dM_play_31 : decode cM_play 31 = .ok (.iconst 1, 1) := by decide +kernel
theorem dM_play_32 : decode cM_play 32 = .ok (.goto 4, 3) := by decide +kernel
theorem dM_play_35 : decode cM_play 35 = .ok (.iconst 0, 1) := by decide +kernel
theorem dM_play_36 : decode cM_play 36 = .ok (.putfield 126, 3) := by decide +kernel
theorem dM_play_39 : decode cM_play 39 = .ok (.return_, 1) := by decide +kernel
theorem dM_input_0 : decode cM_input 0 = .ok (.iload_n 1, 1) := by decide +kernel
theorem dM_input_1 : decode cM_input 1 = .ok (.iconst 2, 1) := by decide +kernel
theorem dM_input_2 : decode cM_input 2 = .ok (.irem, 1) := by decide +kernel
theorem dM_input_3 : decode cM_input 3 = .ok (.iconst 1, 1) := by decide +kernel
theorem dM_input_4 : decode cM_input 4 = .ok (.if_icmp .ne 12, 3) := by decide +kernel
theorem dM_input_7 : decode cM_input 7 = .ok (.aload_n 0, 1) := by decide +kernel
theorem dM_input_8 : decode cM_input 8 = .ok (.iconst 4, 1) := by decide +kernel
theorem dM_input_9 : decode cM_input 9 = .ok (.invokevirtual 33, 3) := by decide +kernel
theorem dM_input_12 : decode cM_input 12 = .ok (.sipush 255, 3) := by decide +kernel
theorem dM_input_15 : decode cM_input 15 = .ok (.ireturn, 1) := by decide +kernel
theorem dM_input_16 : decode cM_input 16 = .ok (.aload_n 0, 1) := by decide +kernel
theorem dM_input_17 : decode cM_input 17 = .ok (.invokevirtual 37, 3) := by decide +kernel
theorem dM_input_20 : decode cM_input 20 = .ok (.aload_n 0, 1) := by decide +kernel
theorem dM_input_21 : decode cM_input 21 = .ok (.invokevirtual 134, 3) := by decide +kernel
theorem dM_input_24 : decode cM_input 24 = .ok (.sipush 160, 3) := by decide +kernel
theorem dM_input_27 : decode cM_input 27 = .ok (.aload_n 0, 1) := by decide +kernel
theorem dM_input_28 : decode cM_input 28 = .ok (.getfield 131, 3) := by decide +kernel
theorem dM_input_31 : decode cM_input 31 = .ok (.iconst 2, 1) := by decide +kernel
theorem dM_input_32 : decode cM_input 32 = .ok (.irem, 1) := by decide +kernel
theorem dM_input_33 : decode cM_input 33 = .ok (.iconst 1, 1) := by decide +kernel
theorem dM_input_34 : decode cM_input 34 = .ok (.if_icmp .ne 8, 3) := by decide +kernel
theorem dM_input_37 : decode cM_input 37 = .ok (.bipush 64, 2) := by decide +kernel
theorem dM_input_39 : decode cM_input 39 = .ok (.goto 4, 3) := by decide +kernel
theorem dM_input_42 : decode cM_input 42 = .ok (.iconst 0, 1) := by decide +kernel
theorem dM_input_43 : decode cM_input 43 = .ok (.iadd, 1) := by decide +kernel
theorem dM_input_44 : decode cM_input 44 = .ok (.istore_n 2, 1) := by decide +kernel
theorem dM_input_45 : decode cM_input 45 = .ok (.iconst 0, 1) := by decide +kernel
theorem dM_input_46 : decode cM_input 46 = .ok (.istore_n 3, 1) := by decide +kernel
theorem dM_input_47 : decode cM_input 47 = .ok (.iload_n 3, 1) := by decide +kernel
theorem dM_input_48 : decode cM_input 48 = .ok (.iconst 5, 1) := by decide +kernel
theorem dM_input_49 : decode cM_input 49 = .ok (.if_icmp .ge 81, 3) := by decide +kernel
theorem dM_input_52 : decode cM_input 52 = .ok (.iconst 0, 1) := by decide +kernel
theorem dM_input_53 : decode cM_input 53 = .ok (.istore 4, 2) := by decide +kernel
theorem dM_input_55 : decode cM_input 55 = .ok (.iconst 0, 1) := by decide +kernel
theorem dM_input_56 : decode cM_input 56 = .ok (.istore 5, 2) := by decide +kernel
theorem dM_input_58 : decode cM_input 58 = .ok (.iload 5, 2) := by decide +kernel
theorem dM_input_60 : decode cM_input 60 = .ok (.bipush 8, 2) := by decide +kernel
theorem dM_input_62 : decode cM_input 62 = .ok (.if_icmp .ge 47, 3) := by decide +kernel
theorem dM_input_65 : decode cM_input 65 = .ok (.iload 4, 2) := by decide +kernel
theorem dM_input_67 : decode cM_input 67 = .ok (.ifCond .ne 29, 3) := by decide +kernel
theorem dM_input_70 : decode cM_input 70 = .ok (.iload_n 1, 1) := by decide +kernel
theorem dM_input_71 : decode cM_input 71 = .ok (.bipush 8, 2) := by decide +kernel
theorem dM_input_73 : decode cM_input 73 = .ok (.iload 5, 2) := by decide +kernel
theorem dM_input_75 : decode cM_input 75 = .ok (.iadd, 1) := by decide +kernel
theorem dM_input_76 : decode cM_input 76 = .ok (.ishr, 1) := by decide +kernel
theorem dM_input_77 : decode cM_input 77 = .ok (.iconst 1, 1) := by decide +kernel
theorem dM_input_78 : decode cM_input 78 = .ok (.iand, 1) := by decide +kernel
theorem dM_input_79 : decode cM_input 79 = .ok (.ifCond .ne 21, 3) := by decide +kernel
theorem dM_input_82 : decode cM_input 82 = .ok (.aload_n 0, 1) := by decide +kernel
theorem dM_input_83 : decode cM_input 83 = .ok (.getfield 16, 3) := by decide +kernel
theorem dM_input_86 : decode cM_input 86 = .ok (.iconst 5, 1) := by decide +kernel
theorem dM_input_87 : decode cM_input 87 = .ok (.iload 5, 2) := by decide +kernel
theorem dM_input_89 : decode cM_input 89 = .ok (.imul, 1) := by decide +kernel
theorem dM_input_90 : decode cM_input 90 = .ok (.iload_n 3, 1) := by decide +kernel
theorem dM_input_91 : decode cM_input 91 = .ok (.iadd, 1) := by decide +kernel
theorem dM_input_92 : decode cM_input 92 = .ok (.baload, 1) := by decide +kernel
theorem dM_input_93 : decode cM_input 93 = .ok (.ifCond .eq 7, 3) := by decide +kernel
theorem dM_input_96 : decode cM_input 96 = .ok (.iconst 1, 1) := by decide +kernel
theorem dM_input_97 : decode cM_input 97 = .ok (.goto 4, 3) := by decide +kernel
theorem dM_input_100 : decode cM_input 100 = .ok (.iconst 0, 1) := by decide +kernel
theorem dM_input_101 : decode cM_input 101 = .ok (.istore 4, 2) := by decide +kernel
theorem dM_input_103 : decode cM_input 103 = .ok (.iinc 5 1, 3) := by decide +kernel
theorem dM_input_106 : decode cM_input 106 = .ok (.goto (-48), 3) := by decide +kernel
theorem dM_input_109 : decode cM_input 109 = .ok (.iload_n 2, 1) := by decide +kernel
theorem dM_input_110 : decode cM_input 110 = .ok (.iload 4, 2) := by decide +kernel
theorem dM_input_112 : decode cM_input 112 = .ok (.ifCond .eq 7, 3) := by decide +kernel
theorem dM_input_115 : decode cM_input 115 = .ok (.iconst 0, 1) := by decide +kernel
theorem dM_input_116 : decode cM_input 116 = .ok (.goto 6, 3) := by decide +kernel
theorem dM_input_119 : decode cM_input 119 = .ok (.iconst 1, 1) := by decide +kernel
theorem dM_input_120 : decode cM_input 120 = .ok (.iload_n 3, 1) := by decide +kernel
theorem dM_input_121 : decode cM_input 121 = .ok (.ishl, 1) := by decide +kernel
theorem dM_input_122 : decode cM_input 122 = .ok (.iadd, 1) := by decide +kernel
theorem dM_input_123 : decode cM_input 123 = .ok (.istore_n 2, 1) := by decide +kernel
theorem dM_input_124 : decode cM_input 124 = .ok (.iinc 3 1, 3) := by decide +kernel
theorem dM_input_127 : decode cM_input 127 = .ok (.goto (-80), 3) := by decide +kernel
theorem dM_input_130 : decode cM_input 130 = .ok (.aload_n 0, 1) := by decide +kernel
theorem dM_input_131 : decode cM_input 131 = .ok (.iconst 4, 1) := by decide +kernel
theorem dM_input_132 : decode cM_input 132 = .ok (.invokevirtual 33, 3) := by decide +kernel
theorem dM_input_135 : decode cM_input 135 = .ok (.iload_n 2, 1) := by decide +kernel
theorem dM_input_136 : decode cM_input 136 = .ok (.ireturn, 1) := by decide +kernel
theorem dM_output_0 : decode cM_output 0 = .ok (.iload_n 1, 1) := by decide +kernel
theorem dM_output_1 : decode cM_output 1 = .ok (.iconst 2, 1) := by decide +kernel
theorem dM_output_2 : decode cM_output 2 = .ok (.irem, 1) := by decide +kernel
theorem dM_output_3 : decode cM_output 3 = .ok (.iconst 1, 1) := by decide +kernel
theorem dM_output_4 : decode cM_output 4 = .ok (.if_icmp .ne 9, 3) := by decide +kernel
theorem dM_output_7 : decode cM_output 7 = .ok (.aload_n 0, 1) := by decide +kernel
theorem dM_output_8 : decode cM_output 8 = .ok (.iconst 4, 1) := by decide +kernel
theorem dM_output_9 : decode cM_output 9 = .ok (.invokevirtual 33, 3) := by decide +kernel
theorem dM_output_12 : decode cM_output 12 = .ok (.return_, 1) := by decide +kernel
theorem dM_output_13 : decode cM_output 13 = .ok (.aload_n 0, 1) := by decide +kernel
theorem dM_output_14 : decode cM_output 14 = .ok (.invokevirtual 37, 3) := by decide +kernel
theorem dM_output_17 : decode cM_output 17 = .ok (.aload_n 0, 1) := by decide +kernel
theorem dM_output_18 : decode cM_output 18 = .ok (.iconst 4, 1) := by decide +kernel
theorem dM_output_19 : decode cM_output 19 = .ok (.invokevirtual 33, 3) := by decide +kernel
theorem dM_output_22 : decode cM_output 22 = .ok (.aload_n 0, 1) := by decide +kernel
theorem dM_output_23 : decode cM_output 23 = .ok (.iload_n 2, 1) := by decide +kernel
theorem dM_output_24 : decode cM_output 24 = .ok (.bipush 7, 2) := by decide +kernel
theorem dM_output_26 : decode cM_output 26 = .ok (.iand, 1) := by decide +kernel
theorem dM_output_27 : decode cM_output 27 = .ok (.putfield 30, 3) := by decide +kernel
theorem dM_output_30 : decode cM_output 30 = .ok (.aload_n 0, 1) := by decide +kernel
theorem dM_output_31 : decode cM_output 31 = .ok (.dup, 1) := by decide +kernel
theorem dM_output_32 : decode cM_output 32 = .ok (.getfield 137, 3) := by decide +kernel
theorem dM_output_35 : decode cM_output 35 = .ok (.iload_n 2, 1) := by decide +kernel
theorem dM_output_36 : decode cM_output 36 = .ok (.iconst 4, 1) := by decide +kernel
theorem dM_output_37 : decode cM_output 37 = .ok (.ishr, 1) := by decide +kernel
theorem dM_output_38 : decode cM_output 38 = .ok (.iconst 1, 1) := by decide +kernel
theorem dM_output_39 : decode cM_output 39 = .ok (.iand, 1) := by decide +kernel
theorem dM_output_40 : decode cM_output 40 = .ok (.aload_n 0, 1) := by decide +kernel
theorem dM_output_41 : decode cM_output 41 = .ok (.getfield 140, 3) := by decide +kernel
theorem dM_output_44 : decode cM_output 44 = .ok (.if_icmp .eq 7, 3) := by decide +kernel
theorem dM_output_47 : decode cM_output 47 = .ok (.iconst 1, 1) := by decide +kernel
theorem dM_output_48 : decode cM_output 48 = .ok (.goto 4, 3) := by decide +kernel
theorem dM_output_51 : decode cM_output 51 = .ok (.iconst 0, 1) := by decide +kernel
theorem dM_output_52 : decode cM_output 52 = .ok (.iadd, 1) := by decide +kernel
theorem dM_output_53 : decode cM_output 53 = .ok (.putfield 137, 3) := by decide +kernel
theorem dM_output_56 : decode cM_output 56 = .ok (.aload_n 0, 1) := by decide +kernel
theorem dM_output_57 : decode cM_output 57 = .ok (.iload_n 2, 1) := by decide +kernel
theorem dM_output_58 : decode cM_output 58 = .ok (.iconst 4, 1) := by decide +kernel
theorem dM_output_59 : decode cM_output 59 = .ok (.ishr, 1) := by decide +kernel
theorem dM_output_60 : decode cM_output 60 = .ok (.iconst 1, 1) := by decide +kernel
theorem dM_output_61 : decode cM_output 61 = .ok (.iand, 1) := by decide +kernel
theorem dM_output_62 : decode cM_output 62 = .ok (.putfield 140, 3) := by decide +kernel
theorem dM_output_65 : decode cM_output 65 = .ok (.aload_n 0, 1) := by decide +kernel
theorem dM_output_66 : decode cM_output 66 = .ok (.getfield 26, 3) := by decide +kernel
theorem dM_output_69 : decode cM_output 69 = .ok (.bipush 64, 2) := by decide +kernel
theorem dM_output_71 : decode cM_output 71 = .ok (.irem, 1) := by decide +kernel
theorem dM_output_72 : decode cM_output 72 = .ok (.ifCond .ne 23, 3) := by decide +kernel
theorem dM_output_75 : decode cM_output 75 = .ok (.aload_n 0, 1) := by decide +kernel
theorem dM_output_76 : decode cM_output 76 = .ok (.getfield 20, 3) := by decide +kernel
theorem dM_output_79 : decode cM_output 79 = .ok (.aload_n 0, 1) := by decide +kernel
theorem dM_output_80 : decode cM_output 80 = .ok (.getfield 26, 3) := by decide +kernel
theorem dM_output_83 : decode cM_output 83 = .ok (.sipush 4096, 3) := by decide +kernel
theorem dM_output_86 : decode cM_output 86 = .ok (.irem, 1) := by decide +kernel
theorem dM_output_87 : decode cM_output 87 = .ok (.bipush 64, 2) := by decide +kernel
theorem dM_output_89 : decode cM_output 89 = .ok (.idiv, 1) := by decide +kernel
theorem dM_output_90 : decode cM_output 90 = .ok (.aload_n 0, 1) := by decide +kernel
theorem dM_output_91 : decode cM_output 91 = .ok (.getfield 30, 3) := by decide +kernel
theorem dM_output_94 : decode cM_output 94 = .ok (.iastore, 1) := by decide +kernel
theorem dM_output_95 : decode cM_output 95 = .ok (.return_, 1) := by decide +kernel
theorem dM_one_0 : decode cM_one 0 = .ok (.aload_n 0, 1) := by decide +kernel
theorem dM_one_1 : decode cM_one 1 = .ok (.iconst 0, 1) := by decide +kernel
theorem dM_one_2 : decode cM_one 2 = .ok (.putfield 59, 3) := by decide +kernel
theorem dM_one_5 : decode cM_one 5 = .ok (.aload_n 0, 1) := by decide +kernel
theorem dM_one_6 : decode cM_one 6 = .ok (.iconst 0, 1) := by decide +kernel
theorem dM_one_7 : decode cM_one 7 = .ok (.putfield 80, 3) := by decide +kernel
theorem dM_one_10 : decode cM_one 10 = .ok (.aload_n 0, 1) := by decide +kernel
theorem dM_one_11 : decode cM_one 11 = .ok (.getfield 13, 3) := by decide +kernel
theorem dM_one_14 : decode cM_one 14 = .ok (.bipush 22, 2) := by decide +kernel
theorem dM_one_16 : decode cM_one 16 = .ok (.iaload, 1) := by decide +kernel
theorem dM_one_17 : decode cM_one 17 = .ok (.iconst 1, 1) := by decide +kernel
theorem dM_one_18 : decode cM_one 18 = .ok (.if_icmp .ne 28, 3) := by decide +kernel
theorem dM_one_21 : decode cM_one 21 = .ok (.aload_n 0, 1) := by decide +kernel
theorem dM_one_22 : decode cM_one 22 = .ok (.getfield 26, 3) := by decide +kernel
theorem dM_one_25 : decode cM_one 25 = .ok (.sipush 4096, 3) := by decide +kernel
theorem dM_one_28 : decode cM_one 28 = .ok (.irem, 1) := by decide +kernel
theorem dM_one_29 : decode cM_one 29 = .ok (.bipush 32, 2) := by decide +kernel
theorem dM_one_31 : decode cM_one 31 = .ok (.if_icmp .ge 15, 3) := by decide +kernel
theorem dM_one_34 : decode cM_one 34 = .ok (.aload_n 0, 1) := by decide +kernel
theorem dM_one_35 : decode cM_one 35 = .ok (.getfield 143, 3) := by decide +kernel
theorem dM_one_38 : decode cM_one 38 = .ok (.ifCond .ne 8, 3) := by decide +kernel
theorem dM_one_41 : decode cM_one 41 = .ok (.aload_n 0, 1) := by decide +kernel
theorem dM_one_42 : decode cM_one 42 = .ok (.invokevirtual 146, 3) := by decide +kernel
theorem dM_one_45 : decode cM_one 45 = .ok (.return_, 1) := by decide +kernel
theorem dM_one_46 : decode cM_one 46 = .ok (.aload_n 0, 1) := by decide +kernel
theorem dM_one_47 : decode cM_one 47 = .ok (.iconst 0, 1) := by decide +kernel
theorem dM_one_48 : decode cM_one 48 = .ok (.putfield 143, 3) := by decide +kernel
theorem dM_one_51 : decode cM_one 51 = .ok (.aload_n 0, 1) := by decide +kernel
theorem dM_one_52 : decode cM_one 52 = .ok (.getfield 13, 3) := by decide +kernel
theorem dM_one_55 : decode cM_one 55 = .ok (.bipush 25, 2) := by decide +kernel
theorem dM_one_57 : decode cM_one 57 = .ok (.iaload, 1) := by decide +kernel
theorem dM_one_58 : decode cM_one 58 = .ok (.iconst 1, 1) := by decide +kernel
theorem dM_one_59 : decode cM_one 59 = .ok (.if_icmp .ne 20, 3) := by decide +kernel
theorem dM_one_62 : decode cM_one 62 = .ok (.aload_n 0, 1) := by decide +kernel
theorem dM_one_63 : decode cM_one 63 = .ok (.aload_n 0, 1) := by decide +kernel
theorem dM_one_64 : decode cM_one 64 = .ok (.getfield 13, 3) := by decide +kernel
theorem dM_one_67 : decode cM_one 67 = .ok (.bipush 21, 2) := by decide +kernel
theorem dM_one_69 : decode cM_one 69 = .ok (.iaload, 1) := by decide +kernel
theorem dM_one_70 : decode cM_one 70 = .ok (.iconst 4, 1) := by decide +kernel
theorem dM_one_71 : decode cM_one 71 = .ok (.invokevirtual 40, 3) := by decide +kernel
theorem dM_one_74 : decode cM_one 74 = .ok (.aload_n 0, 1) := by decide +kernel
theorem dM_one_75 : decode cM_one 75 = .ok (.invokevirtual 45, 3) := by decide +kernel
theorem dM_one_78 : decode cM_one 78 = .ok (.return_, 1) := by decide +kernel
theorem dM_one_79 : decode cM_one 79 = .ok (.aload_n 0, 1) := by decide +kernel
theorem dM_one_80 : decode cM_one 80 = .ok (.invokevirtual 149, 3) := by decide +kernel
theorem dM_one_83 : decode cM_one 83 = .ok (.istore_n 1, 1) := by decide +kernel
theorem dM_one_84 : decode cM_one 84 = .ok (.iconst 0, 1) := by decide +kernel
theorem dM_one_85 : decode cM_one 85 = .ok (.istore_n 2, 1) := by decide +kernel
theorem dM_one_86 : decode cM_one 86 = .ok (.iload_n 1, 1) := by decide +kernel
theorem dM_one_87 : decode cM_one 87 = .ok (.sipush 221, 3) := by decide +kernel
theorem dM_one_90 : decode cM_one 90 = .ok (.if_icmp .eq 10, 3) := by decide +kernel
theorem dM_one_93 : decode cM_one 93 = .ok (.iload_n 1, 1) := by decide +kernel
theorem dM_one_94 : decode cM_one 94 = .ok (.sipush 253, 3) := by decide +kernel
theorem dM_one_97 : decode cM_one 97 = .ok (.if_icmp .ne 38, 3) := by decide +kernel
theorem dM_one_100 : decode cM_one 100 = .ok (.iinc 2 1, 3) := by decide +kernel
theorem dM_one_103 : decode cM_one 103 = .ok (.iload_n 2, 1) := by decide +kernel
theorem dM_one_104 : decode cM_one 104 = .ok (.iconst 4, 1) := by decide +kernel
theorem dM_one_105 : decode cM_one 105 = .ok (.if_icmp .ne 4, 3) := by decide +kernel
theorem dM_one_108 : decode cM_one 108 = .ok (.return_, 1) := by decide +kernel
theorem dM_one_109 : decode cM_one 109 = .ok (.aload_n 0, 1) := by decide +kernel
theorem dM_one_110 : decode cM_one 110 = .ok (.iload_n 1, 1) := by decide +kernel
theorem dM_one_111 : decode cM_one 111 = .ok (.sipush 221, 3) := by decide +kernel
theorem dM_one_114 : decode cM_one 114 = .ok (.if_icmp .ne 8, 3) := by decide +kernel
theorem dM_one_117 : decode cM_one 117 = .ok (.bipush 18, 2) := by decide +kernel
theorem dM_one_119 : decode cM_one 119 = .ok (.goto 5, 3) := by decide +kernel
theorem dM_one_122 : decode cM_one 122 = .ok (.bipush 19, 2) := by decide +kernel
theorem dM_one_124 : decode cM_one 124 = .ok (.putfield 59, 3) := by decide +kernel
theorem dM_one_127 : decode cM_one 127 = .ok (.aload_n 0, 1) := by decide +kernel
theorem dM_one_128 : decode cM_one 128 = .ok (.invokevirtual 149, 3) := by decide +kernel
theorem dM_one_131 : decode cM_one 131 = .ok (.istore_n 1, 1) := by decide +kernel
theorem dM_one_132 : decode cM_one 132 = .ok (.goto (-46), 3) := by decide +kernel
theorem dM_one_135 : decode cM_one 135 = .ok (.iload_n 1, 1) := by decide +kernel
theorem dM_one_136 : decode cM_one 136 = .ok (.sipush 237, 3) := by decide +kernel
theorem dM_one_139 : decode cM_one 139 = .ok (.if_icmp .ne 19, 3) := by decide +kernel
theorem dM_one_142 : decode cM_one 142 = .ok (.aload_n 0, 1) := by decide +kernel
theorem dM_one_143 : decode cM_one 143 = .ok (.iconst 0, 1) := by decide +kernel
theorem dM_one_144 : decode cM_one 144 = .ok (.putfield 59, 3) := by decide +kernel
theorem dM_one_147 : decode cM_one 147 = .ok (.aload_n 0, 1) := by decide +kernel
theorem dM_one_148 : decode cM_one 148 = .ok (.aload_n 0, 1) := by decide +kernel
theorem dM_one_149 : decode cM_one 149 = .ok (.invokevirtual 149, 3) := by decide +kernel
theorem dM_one_152 : decode cM_one 152 = .ok (.invokevirtual 152, 3) := by decide +kernel
theorem dM_one_155 : decode cM_one 155 = .ok (.goto 22, 3) := by decide +kernel
theorem dM_one_158 : decode cM_one 158 = .ok (.iload_n 1, 1) := by decide +kernel
theorem dM_one_159 : decode cM_one 159 = .ok (.sipush 203, 3) := by decide +kernel
theorem dM_one_162 : decode cM_one 162 = .ok (.if_icmp .ne 10, 3) := by decide +kernel
theorem dM_one_165 : decode cM_one 165 = .ok (.aload_n 0, 1) := by decide +kernel
theorem dM_one_166 : decode cM_one 166 = .ok (.invokevirtual 155, 3) := by decide +kernel
theorem dM_one_169 : decode cM_one 169 = .ok (.goto 8, 3) := by decide +kernel
theorem dM_one_172 : decode cM_one 172 = .ok (.aload_n 0, 1) := by decide +kernel
theorem dM_one_173 : decode cM_one 173 = .ok (.iload_n 1, 1) := by decide +kernel
theorem dM_one_174 : decode cM_one 174 = .ok (.invokevirtual 158, 3) := by decide +kernel
theorem dM_one_177 : decode cM_one 177 = .ok (.return_, 1) := by decide +kernel
theorem dM_interrupt_0 : decode cM_interrupt 0 = .ok (.aload_n 0, 1) := by decide +kernel
theorem dM_interrupt_1 : decode cM_interrupt 1 = .ok (.getfield 13, 3) := by decide +kernel
theorem dM_interrupt_4 : decode cM_interrupt 4 = .ok (.bipush 25, 2) := by decide +kernel
theorem dM_interrupt_6 : decode cM_interrupt 6 = .ok (.iconst 0, 1) := by decide +kernel
theorem dM_interrupt_7 : decode cM_interrupt 7 = .ok (.iastore, 1) := by decide +kernel
theorem dM_interrupt_8 : decode cM_interrupt 8 = .ok (.aload_n 0, 1) := by decide +kernel
theorem dM_interrupt_9 : decode cM_interrupt 9 = .ok (.getfield 13, 3) := by decide +kernel
theorem dM_interrupt_12 : decode cM_interrupt 12 = .ok (.bipush 22, 2) := by decide +kernel
theorem dM_interrupt_14 : decode cM_interrupt 14 = .ok (.iconst 0, 1) := by decide +kernel
theorem dM_interrupt_15 : decode cM_interrupt 15 = .ok (.iastore, 1) := by decide +kernel
theorem dM_interrupt_16 : decode cM_interrupt 16 = .ok (.aload_n 0, 1) := by decide +kernel
theorem dM_interrupt_17 : decode cM_interrupt 17 = .ok (.getfield 13, 3) := by decide +kernel
theorem dM_interrupt_20 : decode cM_interrupt 20 = .ok (.bipush 23, 2) := by decide +kernel
theorem dM_interrupt_22 : decode cM_interrupt 22 = .ok (.iconst 0, 1) := by decide +kernel
theorem dM_interrupt_23 : decode cM_interrupt 23 = .ok (.iastore, 1) := by decide +kernel
theorem dM_interrupt_24 : decode cM_interrupt 24 = .ok (.aload_n 0, 1) := by decide +kernel
theorem dM_interrupt_25 : decode cM_interrupt 25 = .ok (.invokevirtual 45, 3) := by decide +kernel
theorem dM_interrupt_28 : decode cM_interrupt 28 = .ok (.aload_n 0, 1) := by decide +kernel
theorem dM_interrupt_29 : decode cM_interrupt 29 = .ok (.iconst 4, 1) := by decide +kernel
theorem dM_interrupt_30 : decode cM_interrupt 30 = .ok (.invokevirtual 33, 3) := by decide +kernel
theorem dM_interrupt_33 : decode cM_interrupt 33 = .ok (.aload_n 0, 1) := by decide +kernel
theorem dM_interrupt_34 : decode cM_interrupt 34 = .ok (.aload_n 0, 1) := by decide +kernel
theorem dM_interrupt_35 : decode cM_interrupt 35 = .ok (.getfield 13, 3) := by decide +kernel
theorem dM_interrupt_38 : decode cM_interrupt 38 = .ok (.bipush 21, 2) := by decide +kernel
theorem dM_interrupt_40 : decode cM_interrupt 40 = .ok (.iaload, 1) := by decide +kernel
theorem dM_interrupt_41 : decode cM_interrupt 41 = .ok (.invokevirtual 161, 3) := by decide +kernel
theorem dM_interrupt_44 : decode cM_interrupt 44 = .ok (.aload_n 0, 1) := by decide +kernel
theorem dM_interrupt_45 : decode cM_interrupt 45 = .ok (.getfield 13, 3) := by decide +kernel
theorem dM_interrupt_48 : decode cM_interrupt 48 = .ok (.bipush 21, 2) := by decide +kernel
theorem dM_interrupt_50 : decode cM_interrupt 50 = .ok (.aload_n 0, 1) := by decide +kernel
theorem dM_interrupt_51 : decode cM_interrupt 51 = .ok (.getfield 13, 3) := by decide +kernel
theorem dM_interrupt_54 : decode cM_interrupt 54 = .ok (.bipush 24, 2) := by decide +kernel
theorem dM_interrupt_56 : decode cM_interrupt 56 = .ok (.iaload, 1) := by decide +kernel
theorem dM_interrupt_57 : decode cM_interrupt 57 = .ok (.iconst 2, 1) := by decide +kernel
theorem dM_interrupt_58 : decode cM_interrupt 58 = .ok (.if_icmp .ne 25, 3) := by decide +kernel
theorem dM_interrupt_61 : decode cM_interrupt 61 = .ok (.aload_n 0, 1) := by decide +kernel
theorem dM_interrupt_62 : decode cM_interrupt 62 = .ok (.sipush 256, 3) := by decide +kernel
theorem dM_interrupt_65 : decode cM_interrupt 65 = .ok (.aload_n 0, 1) := by decide +kernel
theorem dM_interrupt_66 : decode cM_interrupt 66 = .ok (.getfield 13, 3) := by decide +kernel
theorem dM_interrupt_69 : decode cM_interrupt 69 = .ok (.bipush 16, 2) := by decide +kernel
theorem dM_interrupt_71 : decode cM_interrupt 71 = .ok (.iaload, 1) := by decide +kernel
theorem dM_interrupt_72 : decode cM_interrupt 72 = .ok (.imul, 1) := by decide +kernel
theorem dM_interrupt_73 : decode cM_interrupt 73 = .ok (.sipush 255, 3) := by decide +kernel
theorem dM_interrupt_76 : decode cM_interrupt 76 = .ok (.iadd, 1) := by decide +kernel
theorem dM_interrupt_77 : decode cM_interrupt 77 = .ok (.invokevirtual 164, 3) := by decide +kernel
theorem dM_interrupt_80 : decode cM_interrupt 80 = .ok (.goto 5, 3) := by decide +kernel
theorem dM_interrupt_83 : decode cM_interrupt 83 = .ok (.bipush 56, 2) := by decide +kernel
theorem dM_interrupt_85 : decode cM_interrupt 85 = .ok (.iastore, 1) := by decide +kernel
theorem dM_interrupt_86 : decode cM_interrupt 86 = .ok (.return_, 1) := by decide +kernel
theorem dM_perform_0 : decode cM_perform 0 = .ok (.iload_n 1, 1) := by decide +kernel
theorem dM_perform_1 : decode cM_perform 1 = .ok (.bipush 6, 2) := by decide +kernel
theorem dM_perform_3 : decode cM_perform 3 = .ok (.ishr, 1) := by decide +kernel
theorem dM_perform_4 : decode cM_perform 4 = .ok (.istore_n 2, 1) := by decide +kernel
theorem dM_perform_5 : decode cM_perform 5 = .ok (.iload_n 1, 1) := by decide +kernel
theorem dM_perform_6 : decode cM_perform 6 = .ok (.iconst 3, 1) := by decide +kernel
theorem dM_perform_7 : decode cM_perform 7 = .ok (.ishr, 1) := by decide +kernel
theorem dM_perform_8 : decode cM_perform 8 = .ok (.bipush 7, 2) := by decide +kernel
theorem dM_perform_10 : decode cM_perform 10 = .ok (.iand, 1) := by decide +kernel
theorem dM_perform_11 : decode cM_perform 11 = .ok (.istore_n 3, 1) := by decide +kernel
theorem dM_perform_12 : decode cM_perform 12 = .ok (.iload_n 1, 1) := by decide +kernel
theorem dM_perform_13 : decode cM_perform 13 = .ok (.bipush 7, 2) := by decide +kernel
theorem dM_perform_15 : decode cM_perform 15 = .ok (.iand, 1) := by decide +kernel
theorem dM_perform_16 : decode cM_perform 16 = .ok (.istore 4, 2) := by decide +kernel
theorem dM_perform_18 : decode cM_perform 18 = .ok (.iload_n 2, 1) := by decide +kernel
theorem dM_perform_19 : decode cM_perform 19 = .ok (.ifCond .ne 13, 3) := by decide +kernel
theorem dM_perform_22 : decode cM_perform 22 = .ok (.aload_n 0, 1) := by decide +kernel
theorem dM_perform_23 : decode cM_perform 23 = .ok (.iload_n 3, 1) := by decide +kernel
theorem dM_perform_24 : decode cM_perform 24 = .ok (.iload 4, 2) := by decide +kernel
theorem dM_perform_26 : decode cM_perform 26 = .ok (.invokevirtual 167, 3) := by decide +kernel
theorem dM_perform_29 : decode cM_perform 29 = .ok (.goto 105, 3) := by decide +kernel
theorem dM_perform_32 : decode cM_perform 32 = .ok (.iload_n 2, 1) := by decide +kernel
theorem dM_perform_33 : decode cM_perform 33 = .ok (.iconst 1, 1) := by decide +kernel
theorem dM_perform_34 : decode cM_perform 34 = .ok (.if_icmp .ne 49, 3) := by decide +kernel
theorem dM_perform_37 : decode cM_perform 37 = .ok (.iload_n 1, 1) := by decide +kernel
theorem dM_perform_38 : decode cM_perform 38 = .ok (.bipush 118, 2) := by decide +kernel
theorem dM_perform_40 : decode cM_perform 40 = .ok (.if_icmp .ne 12, 3) := by decide +kernel
theorem dM_perform_43 : decode cM_perform 43 = .ok (.aload_n 0, 1) := by decide +kernel
theorem dM_perform_44 : decode cM_perform 44 = .ok (.getfield 13, 3) := by decide +kernel
theorem dM_perform_47 : decode cM_perform 47 = .ok (.bipush 25, 2) := by decide +kernel
theorem dM_perform_49 : decode cM_perform 49 = .ok (.iconst 1, 1) := by decide +kernel
theorem dM_perform_50 : decode cM_perform 50 = .ok (.iastore, 1) := by decide +kernel
theorem dM_perform_51 : decode cM_perform 51 = .ok (.return_, 1) := by decide +kernel
theorem dM_perform_52 : decode cM_perform 52 = .ok (.iload_n 3, 1) := by decide +kernel
theorem dM_perform_53 : decode cM_perform 53 = .ok (.bipush 6, 2) := by decide +kernel
theorem dM_perform_55 : decode cM_perform 55 = .ok (.if_icmp .eq 10, 3) := by decide +kernel
theorem dM_perform_58 : decode cM_perform 58 = .ok (.iload 4, 2) := by decide +kernel
theorem dM_perform_60 : decode cM_perform 60 = .ok (.bipush 6, 2) := by decide +kernel
theorem dM_perform_62 : decode cM_perform 62 = .ok (.if_icmp .ne 7, 3) := by decide +kernel
theorem dM_perform_65 : decode cM_perform 65 = .ok (.aload_n 0, 1) := by decide +kernel
theorem dM_perform_66 : decode cM_perform 66 = .ok (.invokevirtual 170, 3) := by decide +kernel
theorem dM_perform_69 : decode cM_perform 69 = .ok (.aload_n 0, 1) := by decide +kernel
theorem dM_perform_70 : decode cM_perform 70 = .ok (.iload_n 3, 1) := by decide +kernel
theorem dM_perform_71 : decode cM_perform 71 = .ok (.aload_n 0, 1) := by decide +kernel
theorem dM_perform_72 : decode cM_perform 72 = .ok (.iload 4, 2) := by decide +kernel
theorem dM_perform_74 : decode cM_perform 74 = .ok (.invokevirtual 173, 3) := by decide +kernel
theorem dM_perform_77 : decode cM_perform 77 = .ok (.invokevirtual 176, 3) := by decide +kernel
theorem dM_perform_80 : decode cM_perform 80 = .ok (.goto 54, 3) := by decide +kernel
theorem dM_perform_83 : decode cM_perform 83 = .ok (.iload_n 2, 1) := by decide +kernel
theorem dM_perform_84 : decode cM_perform 84 = .ok (.iconst 2, 1) := by decide +kernel
theorem dM_perform_85 : decode cM_perform 85 = .ok (.if_icmp .ne 28, 3) := by decide +kernel
theorem dM_perform_88 : decode cM_perform 88 = .ok (.iload 4, 2) := by decide +kernel
theorem dM_perform_90 : decode cM_perform 90 = .ok (.bipush 6, 2) := by decide +kernel
theorem dM_perform_92 : decode cM_perform 92 = .ok (.if_icmp .ne 7, 3) := by decide +kernel
theorem dM_perform_95 : decode cM_perform 95 = .ok (.aload_n 0, 1) := by decide +kernel
theorem dM_perform_96 : decode cM_perform 96 = .ok (.invokevirtual 170, 3) := by decide +kernel
theorem dM_perform_99 : decode cM_perform 99 = .ok (.aload_n 0, 1) := by decide +kernel
theorem dM_perform_100 : decode cM_perform 100 = .ok (.iload_n 3, 1) := by decide +kernel
theorem dM_perform_101 : decode cM_perform 101 = .ok (.aload_n 0, 1) := by decide +kernel
theorem dM_perform_102 : decode cM_perform 102 = .ok (.iload 4, 2) := by decide +kernel
theorem dM_perform_104 : decode cM_perform 104 = .ok (.invokevirtual 173, 3) := by decide +kernel
theorem dM_perform_107 : decode cM_perform 107 = .ok (.invokevirtual 179, 3) := by decide +kernel
theorem dM_perform_110 : decode cM_perform 110 = .ok (.goto 24, 3) := by decide +kernel
theorem dM_perform_113 : decode cM_perform 113 = .ok (.iload 4, 2) := by decide +kernel
theorem dM_perform_115 : decode cM_perform 115 = .ok (.iconst 3, 1) := by decide +kernel
theorem dM_perform_116 : decode cM_perform 116 = .ok (.if_icmp .ne 11, 3) := by decide +kernel
theorem dM_perform_119 : decode cM_perform 119 = .ok (.aload_n 0, 1) := by decide +kernel
theorem dM_perform_120 : decode cM_perform 120 = .ok (.iload_n 3, 1) := by decide +kernel
theorem dM_perform_121 : decode cM_perform 121 = .ok (.invokevirtual 182, 3) := by decide +kernel
theorem dM_perform_124 : decode cM_perform 124 = .ok (.goto 10, 3) := by decide +kernel
theorem dM_perform_127 : decode cM_perform 127 = .ok (.aload_n 0, 1) := by decide +kernel
theorem dM_perform_128 : decode cM_perform 128 = .ok (.iload_n 3, 1) := by decide +kernel
theorem dM_perform_129 : decode cM_perform 129 = .ok (.iload 4, 2) := by decide +kernel
theorem dM_perform_131 : decode cM_perform 131 = .ok (.invokevirtual 185, 3) := by decide +kernel
theorem dM_perform_134 : decode cM_perform 134 = .ok (.return_, 1) := by decide +kernel
theorem dM_first_0 : decode cM_first 0 = .ok (.iload_n 1, 1) := by decide +kernel
theorem dM_first_1 : decode cM_first 1 = .ok (.iconst 1, 1) := by decide +kernel
theorem dM_first_2 : decode cM_first 2 = .ok (.ishr, 1) := by decide +kernel
theorem dM_first_3 : decode cM_first 3 = .ok (.istore_n 3, 1) := by decide +kernel
theorem dM_first_4 : decode cM_first 4 = .ok (.iload_n 1, 1) := by decide +kernel
theorem dM_first_5 : decode cM_first 5 = .ok (.iconst 2, 1) := by decide +kernel
theorem dM_first_6 : decode cM_first 6 = .ok (.irem, 1) := by decide +kernel
theorem dM_first_7 : decode cM_first 7 = .ok (.iconst 1, 1) := by decide +kernel
theorem dM_first_8 : decode cM_first 8 = .ok (.if_icmp .ne 7, 3) := by decide +kernel
theorem dM_first_11 : decode cM_first 11 = .ok (.iconst 1, 1) := by decide +kernel
theorem dM_first_12 : decode cM_first 12 = .ok (.goto 4, 3) := by decide +kernel
theorem dM_first_15 : decode cM_first 15 = .ok (.iconst 0, 1) := by decide +kernel
theorem dM_first_16 : decode cM_first 16 = .ok (.istore 4, 2) := by decide +kernel
theorem dM_first_18 : decode cM_first 18 = .ok (.iload_n 2, 1) := by decide +kernel
theorem dM_first_19 : decode cM_first 19 = .ok (.ifCond .ne 11, 3) := by decide +kernel
theorem dM_first_22 : decode cM_first 22 = .ok (.aload_n 0, 1) := by decide +kernel
theorem dM_first_23 : decode cM_first 23 = .ok (.iload_n 1, 1) := by decide +kernel
theorem dM_first_24 : decode cM_first 24 = .ok (.invokevirtual 188, 3) := by decide +kernel
theorem dM_first_27 : decode cM_first 27 = .ok (.goto 148, 3) := by decide +kernel
theorem dM_first_30 : decode cM_first 30 = .ok (.iload_n 2, 1) := by decide +kernel
theorem dM_first_31 : decode cM_first 31 = .ok (.iconst 1, 1) := by decide +kernel
theorem dM_first_32 : decode cM_first 32 = .ok (.if_icmp .ne 32, 3) := by decide +kernel
theorem dM_first_35 : decode cM_first 35 = .ok (.iload 4, 2) := by decide +kernel
theorem dM_first_37 : decode cM_first 37 = .ok (.ifCond .eq 15, 3) := by decide +kernel
theorem dM_first_40 : decode cM_first 40 = .ok (.aload_n 0, 1) := by decide +kernel
theorem dM_first_41 : decode cM_first 41 = .ok (.aload_n 0, 1) := by decide +kernel
theorem dM_first_42 : decode cM_first 42 = .ok (.iload_n 3, 1) := by decide +kernel
theorem dM_first_43 : decode cM_first 43 = .ok (.invokevirtual 191, 3) := by decide +kernel
theorem dM_first_46 : decode cM_first 46 = .ok (.invokevirtual 194, 3) := by decide +kernel
theorem dM_first_49 : decode cM_first 49 = .ok (.goto 126, 3) := by decide +kernel
theorem dM_first_52 : decode cM_first 52 = .ok (.aload_n 0, 1) := by decide +kernel
theorem dM_first_53 : decode cM_first 53 = .ok (.iload_n 3, 1) := by decide +kernel
theorem dM_first_54 : decode cM_first 54 = .ok (.aload_n 0, 1) := by decide +kernel
theorem dM_first_55 : decode cM_first 55 = .ok (.invokevirtual 197, 3) := by decide +kernel
theorem dM_first_58 : decode cM_first 58 = .ok (.invokevirtual 200, 3) := by decide +kernel
theorem dM_first_61 : decode cM_first 61 = .ok (.goto 114, 3) := by decide +kernel
theorem dM_first_64 : decode cM_first 64 = .ok (.iload_n 2, 1) := by decide +kernel
theorem dM_first_65 : decode cM_first 65 = .ok (.iconst 2, 1) := by decide +kernel
theorem dM_first_66 : decode cM_first 66 = .ok (.if_icmp .ne 13, 3) := by decide +kernel
theorem dM_first_69 : decode cM_first 69 = .ok (.aload_n 0, 1) := by decide +kernel
theorem dM_first_70 : decode cM_first 70 = .ok (.iload_n 3, 1) := by decide +kernel
theorem dM_first_71 : decode cM_first 71 = .ok (.iload 4, 2) := by decide +kernel
theorem dM_first_73 : decode cM_first 73 = .ok (.invokevirtual 203, 3) := by decide +kernel
theorem dM_first_76 : decode cM_first 76 = .ok (.goto 99, 3) := by decide +kernel
theorem dM_first_79 : decode cM_first 79 = .ok (.iload_n 2, 1) := by decide +kernel
theorem dM_first_80 : decode cM_first 80 = .ok (.iconst 3, 1) := by decide +kernel
theorem dM_first_81 : decode cM_first 81 = .ok (.if_icmp .ne 33, 3) := by decide +kernel
theorem dM_first_84 : decode cM_first 84 = .ok (.aload_n 0, 1) := by decide +kernel
theorem dM_first_85 : decode cM_first 85 = .ok (.iload_n 3, 1) := by decide +kernel
theorem dM_first_86 : decode cM_first 86 = .ok (.iload 4, 2) := by decide +kernel
theorem dM_first_88 : decode cM_first 88 = .ok (.ifCond .eq 13, 3) := by decide +kernel
theorem dM_first_91 : decode cM_first 91 = .ok (.aload_n 0, 1) := by decide +kernel
theorem dM_first_92 : decode cM_first 92 = .ok (.iload_n 3, 1) := by decide +kernel
theorem dM_first_93 : decode cM_first 93 = .ok (.invokevirtual 191, 3) := by decide +kernel
theorem dM_first_96 : decode cM_first 96 = .ok (.iconst 1, 1) := by decide +kernel
theorem dM_first_97 : decode cM_first 97 = .ok (.isub, 1) := by decide +kernel
theorem dM_first_98 : decode cM_first 98 = .ok (.goto 10, 3) := by decide +kernel
theorem dM_first_101 : decode cM_first 101 = .ok (.aload_n 0, 1) := by decide +kernel
theorem dM_first_102 : decode cM_first 102 = .ok (.iload_n 3, 1) := by decide +kernel
theorem dM_first_103 : decode cM_first 103 = .ok (.invokevirtual 191, 3) := by decide +kernel
theorem dM_first_106 : decode cM_first 106 = .ok (.iconst 1, 1) := by decide +kernel
theorem dM_first_107 : decode cM_first 107 = .ok (.iadd, 1) := by decide +kernel
theorem dM_first_108 : decode cM_first 108 = .ok (.invokevirtual 200, 3) := by decide +kernel
theorem dM_first_111 : decode cM_first 111 = .ok (.goto 64, 3) := by decide +kernel
theorem dM_first_114 : decode cM_first 114 = .ok (.iload_n 2, 1) := by decide +kernel
theorem dM_first_115 : decode cM_first 115 = .ok (.bipush 7, 2) := by decide +kernel
theorem dM_first_117 : decode cM_first 117 = .ok (.if_icmp .ne 11, 3) := by decide +kernel
theorem dM_first_120 : decode cM_first 120 = .ok (.aload_n 0, 1) := by decide +kernel
theorem dM_first_121 : decode cM_first 121 = .ok (.iload_n 1, 1) := by decide +kernel
theorem dM_first_122 : decode cM_first 122 = .ok (.invokevirtual 207, 3) := by decide +kernel
theorem dM_first_125 : decode cM_first 125 = .ok (.goto 50, 3) := by decide +kernel
theorem dM_first_128 : decode cM_first 128 = .ok (.iload_n 1, 1) := by decide +kernel
theorem dM_first_129 : decode cM_first 129 = .ok (.bipush 6, 2) := by decide +kernel
theorem dM_first_131 : decode cM_first 131 = .ok (.if_icmp .ne 7, 3) := by decide +kernel
theorem dM_first_134 : decode cM_first 134 = .ok (.aload_n 0, 1) := by decide +kernel
theorem dM_first_135 : decode cM_first 135 = .ok (.invokevirtual 170, 3) := by decide +kernel
theorem dM_first_138 : decode cM_first 138 = .ok (.aload_n 0, 1) := by decide +kernel
theorem dM_first_139 : decode cM_first 139 = .ok (.iload_n 1, 1) := by decide +kernel
theorem dM_first_140 : decode cM_first 140 = .ok (.iload_n 2, 1) := by decide +kernel
theorem dM_first_141 : decode cM_first 141 = .ok (.bipush 6, 2) := by decide +kernel
theorem dM_first_143 : decode cM_first 143 = .ok (.if_icmp .ne 10, 3) := by decide +kernel
theorem dM_first_146 : decode cM_first 146 = .ok (.aload_n 0, 1) := by decide +kernel
theorem dM_first_147 : decode cM_first 147 = .ok (.invokevirtual 52, 3) := by decide +kernel
theorem dM_first_150 : decode cM_first 150 = .ok (.goto 22, 3) := by decide +kernel
theorem dM_first_153 : decode cM_first 153 = .ok (.aload_n 0, 1) := by decide +kernel
theorem dM_first_154 : decode cM_first 154 = .ok (.aload_n 0, 1) := by decide +kernel
theorem dM_first_155 : decode cM_first 155 = .ok (.iload_n 1, 1) := by decide +kernel
theorem dM_first_156 : decode cM_first 156 = .ok (.invokevirtual 173, 3) := by decide +kernel
theorem dM_first_159 : decode cM_first 159 = .ok (.iload_n 2, 1) := by decide +kernel
theorem dM_first_160 : decode cM_first 160 = .ok (.iconst 4, 1) := by decide +kernel
theorem dM_first_161 : decode cM_first 161 = .ok (.if_icmp .ne 7, 3) := by decide +kernel
theorem dM_first_164 : decode cM_first 164 = .ok (.iconst 1, 1) := by decide +kernel
theorem dM_first_165 : decode cM_first 165 = .ok (.goto 4, 3) := by decide +kernel
theorem dM_first_168 : decode cM_first 168 = .ok (.iconst 0, 1) := by decide +kernel
theorem dM_first_169 : decode cM_first 169 = .ok (.invokevirtual 210, 3) := by decide +kernel
theorem dM_first_172 : decode cM_first 172 = .ok (.invokevirtual 176, 3) := by decide +kernel
theorem dM_first_175 : decode cM_first 175 = .ok (.return_, 1) := by decide +kernel
theorem dM_jump_0 : decode cM_jump 0 = .ok (.iload_n 1, 1) := by decide +kernel
theorem dM_jump_1 : decode cM_jump 1 = .ok (.ifCond .ne 4, 3) := by decide +kernel
theorem dM_jump_4 : decode cM_jump 4 = .ok (.return_, 1) := by decide +kernel
theorem dM_jump_5 : decode cM_jump 5 = .ok (.iload_n 1, 1) := by decide +kernel
theorem dM_jump_6 : decode cM_jump 6 = .ok (.iconst 1, 1) := by decide +kernel
theorem dM_jump_7 : decode cM_jump 7 = .ok (.if_icmp .ne 18, 3) := by decide +kernel
theorem dM_jump_10 : decode cM_jump 10 = .ok (.aload_n 0, 1) := by decide +kernel
theorem dM_jump_11 : decode cM_jump 11 = .ok (.iconst 0, 1) := by decide +kernel
theorem dM_jump_12 : decode cM_jump 12 = .ok (.bipush 8, 2) := by decide +kernel
theorem dM_jump_14 : decode cM_jump 14 = .ok (.invokevirtual 214, 3) := by decide +kernel
theorem dM_jump_17 : decode cM_jump 17 = .ok (.aload_n 0, 1) := by decide +kernel
theorem dM_jump_18 : decode cM_jump 18 = .ok (.iconst 1, 1) := by decide +kernel
theorem dM_jump_19 : decode cM_jump 19 = .ok (.bipush 9, 2) := by decide +kernel
theorem dM_jump_21 : decode cM_jump 21 = .ok (.invokevirtual 214, 3) := by decide +kernel
theorem dM_jump_24 : decode cM_jump 24 = .ok (.return_, 1) := by decide +kernel
theorem dM_jump_25 : decode cM_jump 25 = .ok (.iload_n 1, 1) := by decide +kernel
theorem dM_jump_26 : decode cM_jump 26 = .ok (.iconst 2, 1) := by decide +kernel
theorem dM_jump_27 : decode cM_jump 27 = .ok (.if_icmp .ne 21, 3) := by decide +kernel
theorem dM_jump_30 : decode cM_jump 30 = .ok (.aload_n 0, 1) := by decide +kernel
theorem dM_jump_31 : decode cM_jump 31 = .ok (.getfield 13, 3) := by decide +kernel
theorem dM_jump_34 : decode cM_jump 34 = .ok (.iconst 2, 1) := by decide +kernel
theorem dM_jump_35 : decode cM_jump 35 = .ok (.aload_n 0, 1) := by decide +kernel
theorem dM_jump_36 : decode cM_jump 36 = .ok (.getfield 13, 3) := by decide +kernel
theorem dM_jump_39 : decode cM_jump 39 = .ok (.iconst 2, 1) := by decide +kernel
theorem dM_jump_40 : decode cM_jump 40 = .ok (.iaload, 1) := by decide +kernel
theorem dM_jump_41 : decode cM_jump 41 = .ok (.iconst 1, 1) := by decide +kernel
theorem dM_jump_42 : decode cM_jump 42 = .ok (.isub, 1) := by decide +kernel
theorem dM_jump_43 : decode cM_jump 43 = .ok (.sipush 255, 3) := by decide +kernel
theorem dM_jump_46 : decode cM_jump 46 = .ok (.iand, 1) := by decide +kernel
theorem dM_jump_47 : decode cM_jump 47 = .ok (.iastore, 1) := by decide +kernel
theorem dM_jump_48 : decode cM_jump 48 = .ok (.aload_n 0, 1) := by decide +kernel
theorem dM_jump_49 : decode cM_jump 49 = .ok (.invokevirtual 52, 3) := by decide +kernel
theorem dM_jump_52 : decode cM_jump 52 = .ok (.invokestatic 74, 3) := by decide +kernel
theorem dM_jump_55 : decode cM_jump 55 = .ok (.istore_n 2, 1) := by decide +kernel
theorem dM_jump_56 : decode cM_jump 56 = .ok (.iload_n 1, 1) := by decide +kernel
theorem dM_jump_57 : decode cM_jump 57 = .ok (.iconst 2, 1) := by decide +kernel
theorem dM_jump_58 : decode cM_jump 58 = .ok (.if_icmp .ne 15, 3) := by decide +kernel
theorem dM_jump_61 : decode cM_jump 61 = .ok (.aload_n 0, 1) := by decide +kernel
theorem dM_jump_62 : decode cM_jump 62 = .ok (.getfield 13, 3) := by decide +kernel
theorem dM_jump_65 : decode cM_jump 65 = .ok (.iconst 2, 1) := by decide +kernel
theorem dM_jump_66 : decode cM_jump 66 = .ok (.iaload, 1) := by decide +kernel
theorem dM_jump_67 : decode cM_jump 67 = .ok (.ifCond .eq 40, 3) := by decide +kernel
theorem dM_jump_70 : decode cM_jump 70 = .ok (.goto 18, 3) := by decide +kernel
theorem dM_jump_73 : decode cM_jump 73 = .ok (.iload_n 1, 1) := by decide +kernel
theorem dM_jump_74 : decode cM_jump 74 = .ok (.iconst 3, 1) := by decide +kernel
theorem dM_jump_75 : decode cM_jump 75 = .ok (.if_icmp .eq 13, 3) := by decide +kernel
theorem dM_jump_78 : decode cM_jump 78 = .ok (.aload_n 0, 1) := by decide +kernel
theorem dM_jump_79 : decode cM_jump 79 = .ok (.iload_n 1, 1) := by decide +kernel
theorem dM_jump_80 : decode cM_jump 80 = .ok (.iconst 4, 1) := by decide +kernel
theorem dM_jump_81 : decode cM_jump 81 = .ok (.isub, 1) := by decide +kernel
theorem dM_jump_82 : decode cM_jump 82 = .ok (.invokevirtual 217, 3) := by decide +kernel
theorem dM_jump_85 : decode cM_jump 85 = .ok (.ifCond .eq 22, 3) := by decide +kernel
theorem dM_jump_88 : decode cM_jump 88 = .ok (.aload_n 0, 1) := by decide +kernel
theorem dM_jump_89 : decode cM_jump 89 = .ok (.getfield 13, 3) := by decide +kernel
theorem dM_jump_92 : decode cM_jump 92 = .ok (.bipush 21, 2) := by decide +kernel
theorem dM_jump_94 : decode cM_jump 94 = .ok (.aload_n 0, 1) := by decide +kernel
theorem dM_jump_95 : decode cM_jump 95 = .ok (.getfield 13, 3) := by decide +kernel
theorem dM_jump_98 : decode cM_jump 98 = .ok (.bipush 21, 2) := by decide +kernel
theorem dM_jump_100 : decode cM_jump 100 = .ok (.iaload, 1) := by decide +kernel
theorem dM_jump_101 : decode cM_jump 101 = .ok (.iload_n 2, 1) := by decide +kernel
theorem dM_jump_102 : decode cM_jump 102 = .ok (.iadd, 1) := by decide +kernel
theorem dM_jump_103 : decode cM_jump 103 = .ok (.ldc 44, 2) := by decide +kernel
theorem dM_jump_105 : decode cM_jump 105 = .ok (.iand, 1) := by decide +kernel
theorem dM_jump_106 : decode cM_jump 106 = .ok (.iastore, 1) := by decide +kernel
theorem dM_jump_107 : decode cM_jump 107 = .ok (.return_, 1) := by decide +kernel
theorem dM_add_0 : decode cM_add 0 = .ok (.aload_n 0, 1) := by decide +kernel
theorem dM_add_1 : decode cM_add 1 = .ok (.aload_n 0, 1) := by decide +kernel
theorem dM_add_2 : decode cM_add 2 = .ok (.invokevirtual 68, 3) := by decide +kernel
theorem dM_add_5 : decode cM_add 5 = .ok (.iload_n 1, 1) := by decide +kernel
theorem dM_add_6 : decode cM_add 6 = .ok (.iconst 0, 1) := by decide +kernel
theorem dM_add_7 : decode cM_add 7 = .ok (.bipush 16, 2) := by decide +kernel
theorem dM_add_9 : decode cM_add 9 = .ok (.invokevirtual 94, 3) := by decide +kernel
theorem dM_add_12 : decode cM_add 12 = .ok (.istore_n 2, 1) := by decide +kernel
theorem dM_add_13 : decode cM_add 13 = .ok (.aload_n 0, 1) := by decide +kernel
theorem dM_add_14 : decode cM_add 14 = .ok (.iload_n 2, 1) := by decide +kernel
theorem dM_add_15 : decode cM_add 15 = .ok (.invokevirtual 71, 3) := by decide +kernel
theorem dM_add_18 : decode cM_add 18 = .ok (.aload_n 0, 1) := by decide +kernel
theorem dM_add_19 : decode cM_add 19 = .ok (.getfield 13, 3) := by decide +kernel
theorem dM_add_22 : decode cM_add 22 = .ok (.iconst 1, 1) := by decide +kernel
theorem dM_add_23 : decode cM_add 23 = .ok (.aload_n 0, 1) := by decide +kernel
theorem dM_add_24 : decode cM_add 24 = .ok (.getfield 13, 3) := by decide +kernel
theorem dM_add_27 : decode cM_add 27 = .ok (.iconst 1, 1) := by decide +kernel
theorem dM_add_28 : decode cM_add 28 = .ok (.iaload, 1) := by decide +kernel
theorem dM_add_29 : decode cM_add 29 = .ok (.sipush 196, 3) := by decide +kernel
theorem dM_add_32 : decode cM_add 32 = .ok (.iand, 1) := by decide +kernel
theorem dM_add_33 : decode cM_add 33 = .ok (.iload_n 2, 1) := by decide +kernel
theorem dM_add_34 : decode cM_add 34 = .ok (.bipush 8, 2) := by decide +kernel
theorem dM_add_36 : decode cM_add 36 = .ok (.ishr, 1) := by decide +kernel
theorem dM_add_37 : decode cM_add 37 = .ok (.bipush 40, 2) := by decide +kernel
theorem dM_add_39 : decode cM_add 39 = .ok (.iand, 1) := by decide +kernel
theorem dM_add_40 : decode cM_add 40 = .ok (.ior, 1) := by decide +kernel
theorem dM_add_41 : decode cM_add 41 = .ok (.aload_n 0, 1) := by decide +kernel
theorem dM_add_42 : decode cM_add 42 = .ok (.iconst 0, 1) := by decide +kernel
theorem dM_add_43 : decode cM_add 43 = .ok (.invokevirtual 101, 3) := by decide +kernel
theorem dM_add_46 : decode cM_add 46 = .ok (.bipush (-5), 2) := by decide +kernel
theorem dM_add_48 : decode cM_add 48 = .ok (.iand, 1) := by decide +kernel
theorem dM_add_49 : decode cM_add 49 = .ok (.ior, 1) := by decide +kernel
theorem dM_add_50 : decode cM_add 50 = .ok (.iastore, 1) := by decide +kernel
theorem dM_add_51 : decode cM_add 51 = .ok (.return_, 1) := by decide +kernel
theorem dM_store_0 : decode cM_store 0 = .ok (.iload_n 1, 1) := by decide +kernel
theorem dM_store_1 : decode cM_store 1 = .ok (.iconst 2, 1) := by decide +kernel
theorem dM_store_2 : decode cM_store 2 = .ok (.if_icmp .ge 49, 3) := by decide +kernel
theorem dM_store_5 : decode cM_store 5 = .ok (.iload_n 2, 1) := by decide +kernel
theorem dM_store_6 : decode cM_store 6 = .ok (.ifCond .eq 25, 3) := by decide +kernel
theorem dM_store_9 : decode cM_store 9 = .ok (.aload_n 0, 1) := by decide +kernel
theorem dM_store_10 : decode cM_store 10 = .ok (.getfield 13, 3) := by decide +kernel
theorem dM_store_13 : decode cM_store 13 = .ok (.iconst 0, 1) := by decide +kernel
theorem dM_store_14 : decode cM_store 14 = .ok (.aload_n 0, 1) := by decide +kernel
theorem dM_store_15 : decode cM_store 15 = .ok (.aload_n 0, 1) := by decide +kernel
theorem dM_store_16 : decode cM_store 16 = .ok (.iconst 2, 1) := by decide +kernel
theorem dM_store_17 : decode cM_store 17 = .ok (.iconst 2, 1) := by decide +kernel
theorem dM_store_18 : decode cM_store 18 = .ok (.iload_n 1, 1) := by decide +kernel
theorem dM_store_19 : decode cM_store 19 = .ok (.imul, 1) := by decide +kernel
theorem dM_store_20 : decode cM_store 20 = .ok (.iadd, 1) := by decide +kernel
theorem dM_store_21 : decode cM_store 21 = .ok (.invokevirtual 62, 3) := by decide +kernel
theorem dM_store_24 : decode cM_store 24 = .ok (.invokevirtual 48, 3) := by decide +kernel
theorem dM_store_27 : decode cM_store 27 = .ok (.iastore, 1) := by decide +kernel
theorem dM_store_28 : decode cM_store 28 = .ok (.goto 22, 3) := by decide +kernel
theorem dM_store_31 : decode cM_store 31 = .ok (.aload_n 0, 1) := by decide +kernel
theorem dM_store_32 : decode cM_store 32 = .ok (.aload_n 0, 1) := by decide +kernel
theorem dM_store_33 : decode cM_store 33 = .ok (.iconst 2, 1) := by decide +kernel
theorem dM_store_34 : decode cM_store 34 = .ok (.iconst 2, 1) := by decide +kernel
theorem dM_store_35 : decode cM_store 35 = .ok (.iload_n 1, 1) := by decide +kernel
theorem dM_store_36 : decode cM_store 36 = .ok (.imul, 1) := by decide +kernel
theorem dM_store_37 : decode cM_store 37 = .ok (.iadd, 1) := by decide +kernel
theorem dM_store_38 : decode cM_store 38 = .ok (.invokevirtual 62, 3) := by decide +kernel
theorem dM_store_41 : decode cM_store 41 = .ok (.aload_n 0, 1) := by decide +kernel
theorem dM_store_42 : decode cM_store 42 = .ok (.getfield 13, 3) := by decide +kernel
theorem dM_store_45 : decode cM_store 45 = .ok (.iconst 0, 1) := by decide +kernel
theorem dM_store_46 : decode cM_store 46 = .ok (.iaload, 1) := by decide +kernel
theorem dM_store_47 : decode cM_store 47 = .ok (.invokevirtual 56, 3) := by decide +kernel
theorem dM_store_50 : decode cM_store 50 = .ok (.return_, 1) := by decide +kernel
theorem dM_store_51 : decode cM_store 51 = .ok (.aload_n 0, 1) := by decide +kernel
theorem dM_store_52 : decode cM_store 52 = .ok (.invokevirtual 197, 3) := by decide +kernel
theorem dM_store_55 : decode cM_store 55 = .ok (.istore_n 3, 1) := by decide +kernel
theorem dM_store_56 : decode cM_store 56 = .ok (.iload_n 1, 1) := by decide +kernel
theorem dM_store_57 : decode cM_store 57 = .ok (.iconst 2, 1) := by decide +kernel
theorem dM_store_58 : decode cM_store 58 = .ok (.if_icmp .ne 19, 3) := by decide +kernel
theorem dM_store_61 : decode cM_store 61 = .ok (.iload_n 2, 1) := by decide +kernel
theorem dM_store_62 : decode cM_store 62 = .ok (.ifCond .eq 15, 3) := by decide +kernel
theorem dM_store_65 : decode cM_store 65 = .ok (.aload_n 0, 1) := by decide +kernel
theorem dM_store_66 : decode cM_store 66 = .ok (.aload_n 0, 1) := by decide +kernel
theorem dM_store_67 : decode cM_store 67 = .ok (.iload_n 3, 1) := by decide +kernel
theorem dM_store_68 : decode cM_store 68 = .ok (.invokevirtual 164, 3) := by decide +kernel
theorem dM_store_71 : decode cM_store 71 = .ok (.invokevirtual 71, 3) := by decide +kernel
theorem dM_store_74 : decode cM_store 74 = .ok (.goto 49, 3) := by decide +kernel
theorem dM_store_77 : decode cM_store 77 = .ok (.iload_n 1, 1) := by decide +kernel
theorem dM_store_78 : decode cM_store 78 = .ok (.iconst 2, 1) := by decide +kernel
theorem dM_store_79 : decode cM_store 79 = .ok (.if_icmp .ne 15, 3) := by decide +kernel
theorem dM_store_82 : decode cM_store 82 = .ok (.aload_n 0, 1) := by decide +kernel
theorem dM_store_83 : decode cM_store 83 = .ok (.iload_n 3, 1) := by decide +kernel
theorem dM_store_84 : decode cM_store 84 = .ok (.aload_n 0, 1) := by decide +kernel
theorem dM_store_85 : decode cM_store 85 = .ok (.invokevirtual 68, 3) := by decide +kernel
theorem dM_store_88 : decode cM_store 88 = .ok (.invokevirtual 221, 3) := by decide +kernel
theorem dM_store_91 : decode cM_store 91 = .ok (.goto 32, 3) := by decide +kernel
theorem dM_store_94 : decode cM_store 94 = .ok (.iload_n 2, 1) := by decide +kernel
theorem dM_store_95 : decode cM_store 95 = .ok (.ifCond .eq 17, 3) := by decide +kernel
theorem dM_store_98 : decode cM_store 98 = .ok (.aload_n 0, 1) := by decide +kernel
theorem dM_store_99 : decode cM_store 99 = .ok (.getfield 13, 3) := by decide +kernel
theorem dM_store_102 : decode cM_store 102 = .ok (.iconst 0, 1) := by decide +kernel
theorem dM_store_103 : decode cM_store 103 = .ok (.aload_n 0, 1) := by decide +kernel
theorem dM_store_104 : decode cM_store 104 = .ok (.iload_n 3, 1) := by decide +kernel
theorem dM_store_105 : decode cM_store 105 = .ok (.invokevirtual 48, 3) := by decide +kernel
theorem dM_store_108 : decode cM_store 108 = .ok (.iastore, 1) := by decide +kernel
theorem dM_store_109 : decode cM_store 109 = .ok (.goto 14, 3) := by decide +kernel
theorem dM_store_112 : decode cM_store 112 = .ok (.aload_n 0, 1) := by decide +kernel
theorem dM_store_113 : decode cM_store 113 = .ok (.iload_n 3, 1) := by decide +kernel
theorem dM_store_114 : decode cM_store 114 = .ok (.aload_n 0, 1) := by decide +kernel
theorem dM_store_115 : decode cM_store 115 = .ok (.getfield 13, 3) := by decide +kernel
theorem dM_store_118 : decode cM_store 118 = .ok (.iconst 0, 1) := by decide +kernel
theorem dM_store_119 : decode cM_store 119 = .ok (.iaload, 1) := by decide +kernel
theorem dM_store_120 : decode cM_store 120 = .ok (.invokevirtual 56, 3) := by decide +kernel
theorem dM_store_123 : decode cM_store 123 = .ok (.return_, 1) := by decide +kernel
theorem dM_third_0 : decode cM_third 0 = .ok (.iload_n 1, 1) := by decide +kernel
theorem dM_third_1 : decode cM_third 1 = .ok (.ifCond .ne 17, 3) := by decide +kernel
theorem dM_third_4 : decode cM_third 4 = .ok (.aload_n 0, 1) := by decide +kernel
theorem dM_third_5 : decode cM_third 5 = .ok (.getfield 13, 3) := by decide +kernel
theorem dM_third_8 : decode cM_third 8 = .ok (.bipush 21, 2) := by decide +kernel
theorem dM_third_10 : decode cM_third 10 = .ok (.aload_n 0, 1) := by decide +kernel
theorem dM_third_11 : decode cM_third 11 = .ok (.invokevirtual 197, 3) := by decide +kernel
theorem dM_third_14 : decode cM_third 14 = .ok (.iastore, 1) := by decide +kernel
theorem dM_third_15 : decode cM_third 15 = .ok (.goto 161, 3) := by decide +kernel
theorem dM_third_18 : decode cM_third 18 = .ok (.iload_n 1, 1) := by decide +kernel
theorem dM_third_19 : decode cM_third 19 = .ok (.iconst 2, 1) := by decide +kernel
theorem dM_third_20 : decode cM_third 20 = .ok (.if_icmp .eq 8, 3) := by decide +kernel
theorem dM_third_23 : decode cM_third 23 = .ok (.iload_n 1, 1) := by decide +kernel
theorem dM_third_24 : decode cM_third 24 = .ok (.iconst 3, 1) := by decide +kernel
theorem dM_third_25 : decode cM_third 25 = .ok (.if_icmp .ne 52, 3) := by decide +kernel
theorem dM_third_28 : decode cM_third 28 = .ok (.sipush 256, 3) := by decide +kernel
theorem dM_third_31 : decode cM_third 31 = .ok (.aload_n 0, 1) := by decide +kernel
theorem dM_third_32 : decode cM_third 32 = .ok (.getfield 13, 3) := by decide +kernel
theorem dM_third_35 : decode cM_third 35 = .ok (.iconst 0, 1) := by decide +kernel
theorem dM_third_36 : decode cM_third 36 = .ok (.iaload, 1) := by decide +kernel
theorem dM_third_37 : decode cM_third 37 = .ok (.imul, 1) := by decide +kernel
theorem dM_third_38 : decode cM_third 38 = .ok (.aload_n 0, 1) := by decide +kernel
theorem dM_third_39 : decode cM_third 39 = .ok (.invokevirtual 52, 3) := by decide +kernel
theorem dM_third_42 : decode cM_third 42 = .ok (.iadd, 1) := by decide +kernel
theorem dM_third_43 : decode cM_third 43 = .ok (.istore_n 2, 1) := by decide +kernel
theorem dM_third_44 : decode cM_third 44 = .ok (.iload_n 1, 1) := by decide +kernel
theorem dM_third_45 : decode cM_third 45 = .ok (.iconst 2, 1) := by decide +kernel
theorem dM_third_46 : decode cM_third 46 = .ok (.if_icmp .ne 17, 3) := by decide +kernel
theorem dM_third_49 : decode cM_third 49 = .ok (.aload_n 0, 1) := by decide +kernel
theorem dM_third_50 : decode cM_third 50 = .ok (.iload_n 2, 1) := by decide +kernel
theorem dM_third_51 : decode cM_third 51 = .ok (.aload_n 0, 1) := by decide +kernel
theorem dM_third_52 : decode cM_third 52 = .ok (.getfield 13, 3) := by decide +kernel
theorem dM_third_55 : decode cM_third 55 = .ok (.iconst 0, 1) := by decide +kernel
theorem dM_third_56 : decode cM_third 56 = .ok (.iaload, 1) := by decide +kernel
theorem dM_third_57 : decode cM_third 57 = .ok (.invokevirtual 224, 3) := by decide +kernel
theorem dM_third_60 : decode cM_third 60 = .ok (.goto 14, 3) := by decide +kernel
theorem dM_third_63 : decode cM_third 63 = .ok (.aload_n 0, 1) := by decide +kernel
theorem dM_third_64 : decode cM_third 64 = .ok (.getfield 13, 3) := by decide +kernel
theorem dM_third_67 : decode cM_third 67 = .ok (.iconst 0, 1) := by decide +kernel
theorem dM_third_68 : decode cM_third 68 = .ok (.aload_n 0, 1) := by decide +kernel
theorem dM_third_69 : decode cM_third 69 = .ok (.iload_n 2, 1) := by decide +kernel
theorem dM_third_70 : decode cM_third 70 = .ok (.invokevirtual 227, 3) := by decide +kernel
theorem dM_third_73 : decode cM_third 73 = .ok (.iastore, 1) := by decide +kernel
theorem dM_third_74 : decode cM_third 74 = .ok (.goto 102, 3) := by decide +kernel
theorem dM_third_77 : decode cM_third 77 = .ok (.iload_n 1, 1) := by decide +kernel
theorem dM_third_78 : decode cM_third 78 = .ok (.iconst 4, 1) := by decide +kernel
theorem dM_third_79 : decode cM_third 79 = .ok (.if_icmp .ne 38, 3) := by decide +kernel
theorem dM_third_82 : decode cM_third 82 = .ok (.aload_n 0, 1) := by decide +kernel
theorem dM_third_83 : decode cM_third 83 = .ok (.aload_n 0, 1) := by decide +kernel
theorem dM_third_84 : decode cM_third 84 = .ok (.getfield 13, 3) := by decide +kernel
theorem dM_third_87 : decode cM_third 87 = .ok (.bipush 20, 2) := by decide +kernel
theorem dM_third_89 : decode cM_third 89 = .ok (.iaload, 1) := by decide +kernel
theorem dM_third_90 : decode cM_third 90 = .ok (.invokevirtual 164, 3) := by decide +kernel
theorem dM_third_93 : decode cM_third 93 = .ok (.istore_n 2, 1) := by decide +kernel
theorem dM_third_94 : decode cM_third 94 = .ok (.aload_n 0, 1) := by decide +kernel
theorem dM_third_95 : decode cM_third 95 = .ok (.aload_n 0, 1) := by decide +kernel
theorem dM_third_96 : decode cM_third 96 = .ok (.getfield 13, 3) := by decide +kernel
theorem dM_third_99 : decode cM_third 99 = .ok (.bipush 20, 2) := by decide +kernel
theorem dM_third_101 : decode cM_third 101 = .ok (.iaload, 1) := by decide +kernel
theorem dM_third_102 : decode cM_third 102 = .ok (.aload_n 0, 1) := by decide +kernel
theorem dM_third_103 : decode cM_third 103 = .ok (.invokevirtual 68, 3) := by decide +kernel
theorem dM_third_106 : decode cM_third 106 = .ok (.invokevirtual 221, 3) := by decide +kernel
theorem dM_third_109 : decode cM_third 109 = .ok (.aload_n 0, 1) := by decide +kernel
theorem dM_third_110 : decode cM_third 110 = .ok (.iload_n 2, 1) := by decide +kernel
theorem dM_third_111 : decode cM_third 111 = .ok (.invokevirtual 71, 3) := by decide +kernel
theorem dM_third_114 : decode cM_third 114 = .ok (.goto 62, 3) := by decide +kernel
theorem dM_third_117 : decode cM_third 117 = .ok (.iload_n 1, 1) := by decide +kernel
theorem dM_third_118 : decode cM_third 118 = .ok (.iconst 5, 1) := by decide +kernel
theorem dM_third_119 : decode cM_third 119 = .ok (.if_icmp .ne 20, 3) := by decide +kernel
theorem dM_third_122 : decode cM_third 122 = .ok (.aload_n 0, 1) := by decide +kernel
theorem dM_third_123 : decode cM_third 123 = .ok (.iconst 4, 1) := by decide +kernel
theorem dM_third_124 : decode cM_third 124 = .ok (.bipush 6, 2) := by decide +kernel
theorem dM_third_126 : decode cM_third 126 = .ok (.invokevirtual 214, 3) := by decide +kernel
theorem dM_third_129 : decode cM_third 129 = .ok (.aload_n 0, 1) := by decide +kernel
theorem dM_third_130 : decode cM_third 130 = .ok (.iconst 5, 1) := by decide +kernel
theorem dM_third_131 : decode cM_third 131 = .ok (.bipush 7, 2) := by decide +kernel
theorem dM_third_133 : decode cM_third 133 = .ok (.invokevirtual 214, 3) := by decide +kernel
theorem dM_third_136 : decode cM_third 136 = .ok (.goto 40, 3) := by decide +kernel
theorem dM_third_139 : decode cM_third 139 = .ok (.aload_n 0, 1) := by decide +kernel
theorem dM_third_140 : decode cM_third 140 = .ok (.getfield 13, 3) := by decide +kernel
theorem dM_third_143 : decode cM_third 143 = .ok (.bipush 22, 2) := by decide +kernel
theorem dM_third_145 : decode cM_third 145 = .ok (.iload_n 1, 1) := by decide +kernel
theorem dM_third_146 : decode cM_third 146 = .ok (.bipush 6, 2) := by decide +kernel
theorem dM_third_148 : decode cM_third 148 = .ok (.isub, 1) := by decide +kernel
theorem dM_third_149 : decode cM_third 149 = .ok (.iastore, 1) := by decide +kernel
theorem dM_third_150 : decode cM_third 150 = .ok (.aload_n 0, 1) := by decide +kernel
theorem dM_third_151 : decode cM_third 151 = .ok (.getfield 13, 3) := by decide +kernel
theorem dM_third_154 : decode cM_third 154 = .ok (.bipush 23, 2) := by decide +kernel
theorem dM_third_156 : decode cM_third 156 = .ok (.iload_n 1, 1) := by decide +kernel
theorem dM_third_157 : decode cM_third 157 = .ok (.bipush 6, 2) := by decide +kernel
theorem dM_third_159 : decode cM_third 159 = .ok (.isub, 1) := by decide +kernel
theorem dM_third_160 : decode cM_third 160 = .ok (.iastore, 1) := by decide +kernel
theorem dM_third_161 : decode cM_third 161 = .ok (.aload_n 0, 1) := by decide +kernel
theorem dM_third_162 : decode cM_third 162 = .ok (.iload_n 1, 1) := by decide +kernel
theorem dM_third_163 : decode cM_third 163 = .ok (.bipush 7, 2) := by decide +kernel
theorem dM_third_165 : decode cM_third 165 = .ok (.if_icmp .ne 7, 3) := by decide +kernel
theorem dM_third_168 : decode cM_third 168 = .ok (.iconst 1, 1) := by decide +kernel
theorem dM_third_169 : decode cM_third 169 = .ok (.goto 4, 3) := by decide +kernel
theorem dM_third_172 : decode cM_third 172 = .ok (.iconst 0, 1) := by decide +kernel
theorem dM_third_173 : decode cM_third 173 = .ok (.putfield 143, 3) := by decide +kernel
theorem dM_third_176 : decode cM_third 176 = .ok (.return_, 1) := by decide +kernel
theorem dM_last_0 : decode cM_last 0 = .ok (.iload_n 1, 1) := by decide +kernel
theorem dM_last_1 : decode cM_last 1 = .ok (.iconst 1, 1) := by decide +kernel
theorem dM_last_2 : decode cM_last 2 = .ok (.ishr, 1) := by decide +kernel
theorem dM_last_3 : decode cM_last 3 = .ok (.istore_n 3, 1) := by decide +kernel
theorem dM_last_4 : decode cM_last 4 = .ok (.iload_n 1, 1) := by decide +kernel
theorem dM_last_5 : decode cM_last 5 = .ok (.iconst 2, 1) := by decide +kernel
theorem dM_last_6 : decode cM_last 6 = .ok (.irem, 1) := by decide +kernel
theorem dM_last_7 : decode cM_last 7 = .ok (.iconst 1, 1) := by decide +kernel
theorem dM_last_8 : decode cM_last 8 = .ok (.if_icmp .ne 7, 3) := by decide +kernel
theorem dM_last_11 : decode cM_last 11 = .ok (.iconst 1, 1) := by decide +kernel
theorem dM_last_12 : decode cM_last 12 = .ok (.goto 4, 3) := by decide +kernel
theorem dM_last_15 : decode cM_last 15 = .ok (.iconst 0, 1) := by decide +kernel
theorem dM_last_16 : decode cM_last 16 = .ok (.istore 4, 2) := by decide +kernel
theorem dM_last_18 : decode cM_last 18 = .ok (.iload_n 2, 1) := by decide +kernel
theorem dM_last_19 : decode cM_last 19 = .ok (.ifCond .ne 25, 3) := by decide +kernel
theorem dM_last_22 : decode cM_last 22 = .ok (.aload_n 0, 1) := by decide +kernel
theorem dM_last_23 : decode cM_last 23 = .ok (.iload_n 1, 1) := by decide +kernel
theorem dM_last_24 : decode cM_last 24 = .ok (.invokevirtual 217, 3) := by decide +kernel
theorem dM_last_27 : decode cM_last 27 = .ok (.ifCond .eq 231, 3) := by decide +kernel
theorem dM_last_30 : decode cM_last 30 = .ok (.aload_n 0, 1) := by decide +kernel
theorem dM_last_31 : decode cM_last 31 = .ok (.getfield 13, 3) := by decide +kernel
theorem dM_last_34 : decode cM_last 34 = .ok (.bipush 21, 2) := by decide +kernel
theorem dM_last_36 : decode cM_last 36 = .ok (.aload_n 0, 1) := by decide +kernel
theorem dM_last_37 : decode cM_last 37 = .ok (.invokevirtual 230, 3) := by decide +kernel
theorem dM_last_40 : decode cM_last 40 = .ok (.iastore, 1) := by decide +kernel
theorem dM_last_41 : decode cM_last 41 = .ok (.goto 217, 3) := by decide +kernel
theorem dM_last_44 : decode cM_last 44 = .ok (.iload_n 2, 1) := by decide +kernel
theorem dM_last_45 : decode cM_last 45 = .ok (.iconst 2, 1) := by decide +kernel
theorem dM_last_46 : decode cM_last 46 = .ok (.if_icmp .eq 18, 3) := by decide +kernel
theorem dM_last_49 : decode cM_last 49 = .ok (.iload_n 2, 1) := by decide +kernel
theorem dM_last_50 : decode cM_last 50 = .ok (.iconst 4, 1) := by decide +kernel
theorem dM_last_51 : decode cM_last 51 = .ok (.if_icmp .eq 13, 3) := by decide +kernel
theorem dM_last_54 : decode cM_last 54 = .ok (.iload_n 2, 1) := by decide +kernel
theorem dM_last_55 : decode cM_last 55 = .ok (.iconst 5, 1) := by decide +kernel
theorem dM_last_56 : decode cM_last 56 = .ok (.if_icmp .ne 82, 3) := by decide +kernel
theorem dM_last_59 : decode cM_last 59 = .ok (.iload 4, 2) := by decide +kernel
theorem dM_last_61 : decode cM_last 61 = .ok (.ifCond .eq 77, 3) := by decide +kernel
theorem dM_last_64 : decode cM_last 64 = .ok (.aload_n 0, 1) := by decide +kernel
theorem dM_last_65 : decode cM_last 65 = .ok (.invokevirtual 197, 3) := by decide +kernel
theorem dM_last_68 : decode cM_last 68 = .ok (.istore 5, 2) := by decide +kernel
theorem dM_last_70 : decode cM_last 70 = .ok (.iload_n 2, 1) := by decide +kernel
theorem dM_last_71 : decode cM_last 71 = .ok (.iconst 5, 1) := by decide +kernel
theorem dM_last_72 : decode cM_last 72 = .ok (.if_icmp .eq 11, 3) := by decide +kernel
theorem dM_last_75 : decode cM_last 75 = .ok (.aload_n 0, 1) := by decide +kernel
theorem dM_last_76 : decode cM_last 76 = .ok (.iload_n 1, 1) := by decide +kernel
theorem dM_last_77 : decode cM_last 77 = .ok (.invokevirtual 217, 3) := by decide +kernel
theorem dM_last_80 : decode cM_last 80 = .ok (.ifCond .eq 7, 3) := by decide +kernel
theorem dM_last_83 : decode cM_last 83 = .ok (.iconst 1, 1) := by decide +kernel
theorem dM_last_84 : decode cM_last 84 = .ok (.goto 4, 3) := by decide +kernel
theorem dM_last_87 : decode cM_last 87 = .ok (.iconst 0, 1) := by decide +kernel
theorem dM_last_88 : decode cM_last 88 = .ok (.istore 6, 2) := by decide +kernel
theorem dM_last_90 : decode cM_last 90 = .ok (.iload 6, 2) := by decide +kernel
theorem dM_last_92 : decode cM_last 92 = .ok (.ifCond .eq 19, 3) := by decide +kernel
theorem dM_last_95 : decode cM_last 95 = .ok (.iload_n 2, 1) := by decide +kernel
theorem dM_last_96 : decode cM_last 96 = .ok (.iconst 2, 1) := by decide +kernel
theorem dM_last_97 : decode cM_last 97 = .ok (.if_icmp .eq 14, 3) := by decide +kernel
theorem dM_last_100 : decode cM_last 100 = .ok (.aload_n 0, 1) := by decide +kernel
theorem dM_last_101 : decode cM_last 101 = .ok (.aload_n 0, 1) := by decide +kernel
theorem dM_last_102 : decode cM_last 102 = .ok (.getfield 13, 3) := by decide +kernel
theorem dM_last_105 : decode cM_last 105 = .ok (.bipush 21, 2) := by decide +kernel
theorem dM_last_107 : decode cM_last 107 = .ok (.iaload, 1) := by decide +kernel
theorem dM_last_108 : decode cM_last 108 = .ok (.invokevirtual 161, 3) := by decide +kernel
theorem dM_last_111 : decode cM_last 111 = .ok (.aload_n 0, 1) := by decide +kernel
theorem dM_last_112 : decode cM_last 112 = .ok (.getfield 13, 3) := by decide +kernel
theorem dM_last_115 : decode cM_last 115 = .ok (.bipush 21, 2) := by decide +kernel
theorem dM_last_117 : decode cM_last 117 = .ok (.iload 6, 2) := by decide +kernel
theorem dM_last_119 : decode cM_last 119 = .ok (.ifCond .eq 8, 3) := by decide +kernel
theorem dM_last_122 : decode cM_last 122 = .ok (.iload 5, 2) := by decide +kernel
theorem dM_last_124 : decode cM_last 124 = .ok (.goto 10, 3) := by decide +kernel
theorem dM_last_127 : decode cM_last 127 = .ok (.aload_n 0, 1) := by decide +kernel
theorem dM_last_128 : decode cM_last 128 = .ok (.getfield 13, 3) := by decide +kernel
theorem dM_last_131 : decode cM_last 131 = .ok (.bipush 21, 2) := by decide +kernel
theorem dM_last_133 : decode cM_last 133 = .ok (.iaload, 1) := by decide +kernel
theorem dM_last_134 : decode cM_last 134 = .ok (.iastore, 1) := by decide +kernel
theorem dM_last_135 : decode cM_last 135 = .ok (.goto 123, 3) := by decide +kernel
theorem dM_last_138 : decode cM_last 138 = .ok (.iload_n 2, 1) := by decide +kernel
theorem dM_last_139 : decode cM_last 139 = .ok (.bipush 6, 2) := by decide +kernel
theorem dM_last_141 : decode cM_last 141 = .ok (.if_icmp .ne 15, 3) := by decide +kernel
theorem dM_last_144 : decode cM_last 144 = .ok (.aload_n 0, 1) := by decide +kernel
theorem dM_last_145 : decode cM_last 145 = .ok (.iload_n 1, 1) := by decide +kernel
theorem dM_last_146 : decode cM_last 146 = .ok (.aload_n 0, 1) := by decide +kernel
theorem dM_last_147 : decode cM_last 147 = .ok (.invokevirtual 52, 3) := by decide +kernel
theorem dM_last_150 : decode cM_last 150 = .ok (.invokevirtual 179, 3) := by decide +kernel
theorem dM_last_153 : decode cM_last 153 = .ok (.goto 105, 3) := by decide +kernel
theorem dM_last_156 : decode cM_last 156 = .ok (.iload_n 2, 1) := by decide +kernel
theorem dM_last_157 : decode cM_last 157 = .ok (.bipush 7, 2) := by decide +kernel
theorem dM_last_159 : decode cM_last 159 = .ok (.if_icmp .ne 28, 3) := by decide +kernel
theorem dM_last_162 : decode cM_last 162 = .ok (.aload_n 0, 1) := by decide +kernel
theorem dM_last_163 : decode cM_last 163 = .ok (.aload_n 0, 1) := by decide +kernel
theorem dM_last_164 : decode cM_last 164 = .ok (.getfield 13, 3) := by decide +kernel
theorem dM_last_167 : decode cM_last 167 = .ok (.bipush 21, 2) := by decide +kernel
theorem dM_last_169 : decode cM_last 169 = .ok (.iaload, 1) := by decide +kernel
theorem dM_last_170 : decode cM_last 170 = .ok (.invokevirtual 161, 3) := by decide +kernel
theorem dM_last_173 : decode cM_last 173 = .ok (.aload_n 0, 1) := by decide +kernel
theorem dM_last_174 : decode cM_last 174 = .ok (.getfield 13, 3) := by decide +kernel
theorem dM_last_177 : decode cM_last 177 = .ok (.bipush 21, 2) := by decide +kernel
theorem dM_last_179 : decode cM_last 179 = .ok (.bipush 8, 2) := by decide +kernel
theorem dM_last_181 : decode cM_last 181 = .ok (.iload_n 1, 1) := by decide +kernel
theorem dM_last_182 : decode cM_last 182 = .ok (.imul, 1) := by decide +kernel
theorem dM_last_183 : decode cM_last 183 = .ok (.iastore, 1) := by decide +kernel
theorem dM_last_184 : decode cM_last 184 = .ok (.goto 74, 3) := by decide +kernel
theorem dM_last_187 : decode cM_last 187 = .ok (.iload_n 2, 1) := by decide +kernel
theorem dM_last_188 : decode cM_last 188 = .ok (.iconst 5, 1) := by decide +kernel
theorem dM_last_189 : decode cM_last 189 = .ok (.if_icmp .ne 28, 3) := by decide +kernel
theorem dM_last_192 : decode cM_last 192 = .ok (.aload_n 0, 1) := by decide +kernel
theorem dM_last_193 : decode cM_last 193 = .ok (.iload_n 3, 1) := by decide +kernel
theorem dM_last_194 : decode cM_last 194 = .ok (.iconst 3, 1) := by decide +kernel
theorem dM_last_195 : decode cM_last 195 = .ok (.if_icmp .ne 11, 3) := by decide +kernel
theorem dM_last_198 : decode cM_last 198 = .ok (.aload_n 0, 1) := by decide +kernel
theorem dM_last_199 : decode cM_last 199 = .ok (.iconst 0, 1) := by decide +kernel
theorem dM_last_200 : decode cM_last 200 = .ok (.invokevirtual 62, 3) := by decide +kernel
theorem dM_last_203 : decode cM_last 203 = .ok (.goto 8, 3) := by decide +kernel
theorem dM_last_206 : decode cM_last 206 = .ok (.aload_n 0, 1) := by decide +kernel
theorem dM_last_207 : decode cM_last 207 = .ok (.iload_n 3, 1) := by decide +kernel
theorem dM_last_208 : decode cM_last 208 = .ok (.invokevirtual 191, 3) := by decide +kernel
theorem dM_last_211 : decode cM_last 211 = .ok (.invokevirtual 161, 3) := by decide +kernel
theorem dM_last_214 : decode cM_last 214 = .ok (.goto 44, 3) := by decide +kernel
theorem dM_last_217 : decode cM_last 217 = .ok (.iload 4, 2) := by decide +kernel
theorem dM_last_219 : decode cM_last 219 = .ok (.ifCond .ne 34, 3) := by decide +kernel
theorem dM_last_222 : decode cM_last 222 = .ok (.aload_n 0, 1) := by decide +kernel
theorem dM_last_223 : decode cM_last 223 = .ok (.invokevirtual 230, 3) := by decide +kernel
theorem dM_last_226 : decode cM_last 226 = .ok (.istore 5, 2) := by decide +kernel
theorem dM_last_228 : decode cM_last 228 = .ok (.iload_n 3, 1) := by decide +kernel
theorem dM_last_229 : decode cM_last 229 = .ok (.iconst 3, 1) := by decide +kernel
theorem dM_last_230 : decode cM_last 230 = .ok (.if_icmp .ne 13, 3) := by decide +kernel
theorem dM_last_233 : decode cM_last 233 = .ok (.aload_n 0, 1) := by decide +kernel
theorem dM_last_234 : decode cM_last 234 = .ok (.iconst 0, 1) := by decide +kernel
theorem dM_last_235 : decode cM_last 235 = .ok (.iload 5, 2) := by decide +kernel
theorem dM_last_237 : decode cM_last 237 = .ok (.invokevirtual 65, 3) := by decide +kernel
theorem dM_last_240 : decode cM_last 240 = .ok (.goto 10, 3) := by decide +kernel
theorem dM_last_243 : decode cM_last 243 = .ok (.aload_n 0, 1) := by decide +kernel
theorem dM_last_244 : decode cM_last 244 = .ok (.iload_n 3, 1) := by decide +kernel
theorem dM_last_245 : decode cM_last 245 = .ok (.iload 5, 2) := by decide +kernel
theorem dM_last_247 : decode cM_last 247 = .ok (.invokevirtual 200, 3) := by decide +kernel
theorem dM_last_250 : decode cM_last 250 = .ok (.goto 8, 3) := by decide +kernel
theorem dM_last_253 : decode cM_last 253 = .ok (.aload_n 0, 1) := by decide +kernel
theorem dM_last_254 : decode cM_last 254 = .ok (.iload_n 3, 1) := by decide +kernel
theorem dM_last_255 : decode cM_last 255 = .ok (.invokevirtual 233, 3) := by decide +kernel
theorem dM_last_258 : decode cM_last 258 = .ok (.return_, 1) := by decide +kernel
theorem dM_odd_0 : decode cM_odd 0 = .ok (.iload_n 1, 1) := by decide +kernel
theorem dM_odd_1 : decode cM_odd 1 = .ok (.ifCond .ne 17, 3) := by decide +kernel
theorem dM_odd_4 : decode cM_odd 4 = .ok (.aload_n 0, 1) := by decide +kernel
theorem dM_odd_5 : decode cM_odd 5 = .ok (.getfield 13, 3) := by decide +kernel
theorem dM_odd_8 : decode cM_odd 8 = .ok (.bipush 21, 2) := by decide +kernel
theorem dM_odd_10 : decode cM_odd 10 = .ok (.aload_n 0, 1) := by decide +kernel
theorem dM_odd_11 : decode cM_odd 11 = .ok (.invokevirtual 230, 3) := by decide +kernel
theorem dM_odd_14 : decode cM_odd 14 = .ok (.iastore, 1) := by decide +kernel
theorem dM_odd_15 : decode cM_odd 15 = .ok (.goto 64, 3) := by decide +kernel
theorem dM_odd_18 : decode cM_odd 18 = .ok (.iload_n 1, 1) := by decide +kernel
theorem dM_odd_19 : decode cM_odd 19 = .ok (.iconst 1, 1) := by decide +kernel
theorem dM_odd_20 : decode cM_odd 20 = .ok (.if_icmp .ne 29, 3) := by decide +kernel
theorem dM_odd_23 : decode cM_odd 23 = .ok (.iconst 2, 1) := by decide +kernel
theorem dM_odd_24 : decode cM_odd 24 = .ok (.istore_n 2, 1) := by decide +kernel
theorem dM_odd_25 : decode cM_odd 25 = .ok (.iload_n 2, 1) := by decide +kernel
theorem dM_odd_26 : decode cM_odd 26 = .ok (.bipush 8, 2) := by decide +kernel
theorem dM_odd_28 : decode cM_odd 28 = .ok (.if_icmp .ge 18, 3) := by decide +kernel
theorem dM_odd_31 : decode cM_odd 31 = .ok (.aload_n 0, 1) := by decide +kernel
theorem dM_odd_32 : decode cM_odd 32 = .ok (.iload_n 2, 1) := by decide +kernel
theorem dM_odd_33 : decode cM_odd 33 = .ok (.iload_n 2, 1) := by decide +kernel
theorem dM_odd_34 : decode cM_odd 34 = .ok (.bipush 8, 2) := by decide +kernel
theorem dM_odd_36 : decode cM_odd 36 = .ok (.iadd, 1) := by decide +kernel
theorem dM_odd_37 : decode cM_odd 37 = .ok (.invokevirtual 214, 3) := by decide +kernel
theorem dM_odd_40 : decode cM_odd 40 = .ok (.iinc 2 1, 3) := by decide +kernel
theorem dM_odd_43 : decode cM_odd 43 = .ok (.goto (-18), 3) := by decide +kernel
theorem dM_odd_46 : decode cM_odd 46 = .ok (.goto 33, 3) := by decide +kernel
theorem dM_odd_49 : decode cM_odd 49 = .ok (.iload_n 1, 1) := by decide +kernel
theorem dM_odd_50 : decode cM_odd 50 = .ok (.iconst 2, 1) := by decide +kernel
theorem dM_odd_51 : decode cM_odd 51 = .ok (.if_icmp .ne 17, 3) := by decide +kernel
theorem dM_odd_54 : decode cM_odd 54 = .ok (.aload_n 0, 1) := by decide +kernel
theorem dM_odd_55 : decode cM_odd 55 = .ok (.getfield 13, 3) := by decide +kernel
theorem dM_odd_58 : decode cM_odd 58 = .ok (.bipush 21, 2) := by decide +kernel
theorem dM_odd_60 : decode cM_odd 60 = .ok (.aload_n 0, 1) := by decide +kernel
theorem dM_odd_61 : decode cM_odd 61 = .ok (.invokevirtual 68, 3) := by decide +kernel
theorem dM_odd_64 : decode cM_odd 64 = .ok (.iastore, 1) := by decide +kernel
theorem dM_odd_65 : decode cM_odd 65 = .ok (.goto 14, 3) := by decide +kernel
theorem dM_odd_68 : decode cM_odd 68 = .ok (.aload_n 0, 1) := by decide +kernel
theorem dM_odd_69 : decode cM_odd 69 = .ok (.getfield 13, 3) := by decide +kernel
theorem dM_odd_72 : decode cM_odd 72 = .ok (.bipush 20, 2) := by decide +kernel
theorem dM_odd_74 : decode cM_odd 74 = .ok (.aload_n 0, 1) := by decide +kernel
theorem dM_odd_75 : decode cM_odd 75 = .ok (.invokevirtual 68, 3) := by decide +kernel
theorem dM_odd_78 : decode cM_odd 78 = .ok (.iastore, 1) := by decide +kernel
theorem dM_odd_79 : decode cM_odd 79 = .ok (.return_, 1) := by decide +kernel
theorem dM_rotation_0 : decode cM_rotation 0 = .ok (.aload_n 0, 1) := by decide +kernel
theorem dM_rotation_1 : decode cM_rotation 1 = .ok (.getfield 59, 3) := by decide +kernel
theorem dM_rotation_4 : decode cM_rotation 4 = .ok (.ifCond .eq 7, 3) := by decide +kernel
theorem dM_rotation_7 : decode cM_rotation 7 = .ok (.aload_n 0, 1) := by decide +kernel
theorem dM_rotation_8 : decode cM_rotation 8 = .ok (.invokevirtual 170, 3) := by decide +kernel
theorem dM_rotation_11 : decode cM_rotation 11 = .ok (.aload_n 0, 1) := by decide +kernel
theorem dM_rotation_12 : decode cM_rotation 12 = .ok (.getfield 59, 3) := by decide +kernel
theorem dM_rotation_15 : decode cM_rotation 15 = .ok (.ifCond .eq 10, 3) := by decide +kernel
theorem dM_rotation_18 : decode cM_rotation 18 = .ok (.aload_n 0, 1) := by decide +kernel
theorem dM_rotation_19 : decode cM_rotation 19 = .ok (.invokevirtual 52, 3) := by decide +kernel
theorem dM_rotation_22 : decode cM_rotation 22 = .ok (.goto 7, 3) := by decide +kernel
theorem dM_rotation_25 : decode cM_rotation 25 = .ok (.aload_n 0, 1) := by decide +kernel
theorem dM_rotation_26 : decode cM_rotation 26 = .ok (.invokevirtual 149, 3) := by decide +kernel
theorem dM_rotation_29 : decode cM_rotation 29 = .ok (.istore_n 1, 1) := by decide +kernel
theorem dM_rotation_30 : decode cM_rotation 30 = .ok (.iload_n 1, 1) := by decide +kernel
theorem dM_rotation_31 : decode cM_rotation 31 = .ok (.bipush 6, 2) := by decide +kernel
theorem dM_rotation_33 : decode cM_rotation 33 = .ok (.ishr, 1) := by decide +kernel
theorem dM_rotation_34 : decode cM_rotation 34 = .ok (.istore_n 2, 1) := by decide +kernel
theorem dM_rotation_35 : decode cM_rotation 35 = .ok (.iload_n 1, 1) := by decide +kernel
theorem dM_rotation_36 : decode cM_rotation 36 = .ok (.iconst 3, 1) := by decide +kernel
theorem dM_rotation_37 : decode cM_rotation 37 = .ok (.ishr, 1) := by decide +kernel
theorem dM_rotation_38 : decode cM_rotation 38 = .ok (.bipush 7, 2) := by decide +kernel
theorem dM_rotation_40 : decode cM_rotation 40 = .ok (.iand, 1) := by decide +kernel
theorem dM_rotation_41 : decode cM_rotation 41 = .ok (.istore_n 3, 1) := by decide +kernel
theorem dM_rotation_42 : decode cM_rotation 42 = .ok (.iload_n 1, 1) := by decide +kernel
theorem dM_rotation_43 : decode cM_rotation 43 = .ok (.bipush 7, 2) := by decide +kernel
theorem dM_rotation_45 : decode cM_rotation 45 = .ok (.iand, 1) := by decide +kernel
theorem dM_rotation_46 : decode cM_rotation 46 = .ok (.istore 4, 2) := by decide +kernel
theorem dM_rotation_48 : decode cM_rotation 48 = .ok (.aload_n 0, 1) := by decide +kernel
theorem dM_rotation_49 : decode cM_rotation 49 = .ok (.getfield 59, 3) := by decide +kernel
theorem dM_rotation_52 : decode cM_rotation 52 = .ok (.ifCond .ne 13, 3) := by decide +kernel
theorem dM_rotation_55 : decode cM_rotation 55 = .ok (.aload_n 0, 1) := by decide +kernel
theorem dM_rotation_56 : decode cM_rotation 56 = .ok (.aload_n 0, 1) := by decide +kernel
theorem dM_rotation_57 : decode cM_rotation 57 = .ok (.bipush 6, 2) := by decide +kernel
theorem dM_rotation_59 : decode cM_rotation 59 = .ok (.invokevirtual 62, 3) := by decide +kernel
theorem dM_rotation_62 : decode cM_rotation 62 = .ok (.putfield 77, 3) := by decide +kernel
theorem dM_rotation_65 : decode cM_rotation 65 = .ok (.aload_n 0, 1) := by decide +kernel
theorem dM_rotation_66 : decode cM_rotation 66 = .ok (.aload_n 0, 1) := by decide +kernel
theorem dM_rotation_67 : decode cM_rotation 67 = .ok (.getfield 59, 3) := by decide +kernel
theorem dM_rotation_70 : decode cM_rotation 70 = .ok (.ifCond .eq 8, 3) := by decide +kernel
theorem dM_rotation_73 : decode cM_rotation 73 = .ok (.bipush 6, 2) := by decide +kernel
theorem dM_rotation_75 : decode cM_rotation 75 = .ok (.goto 5, 3) := by decide +kernel
theorem dM_rotation_78 : decode cM_rotation 78 = .ok (.iload 4, 2) := by decide +kernel
theorem dM_rotation_80 : decode cM_rotation 80 = .ok (.invokevirtual 173, 3) := by decide +kernel
theorem dM_rotation_83 : decode cM_rotation 83 = .ok (.istore 5, 2) := by decide +kernel
theorem dM_rotation_85 : decode cM_rotation 85 = .ok (.iload_n 2, 1) := by decide +kernel
theorem dM_rotation_86 : decode cM_rotation 86 = .ok (.iconst 1, 1) := by decide +kernel
theorem dM_rotation_87 : decode cM_rotation 87 = .ok (.if_icmp .ne 11, 3) := by decide +kernel
theorem dM_rotation_90 : decode cM_rotation 90 = .ok (.aload_n 0, 1) := by decide +kernel
theorem dM_rotation_91 : decode cM_rotation 91 = .ok (.iload_n 3, 1) := by decide +kernel
theorem dM_rotation_92 : decode cM_rotation 92 = .ok (.iload 5, 2) := by decide +kernel
theorem dM_rotation_94 : decode cM_rotation 94 = .ok (.invokevirtual 236, 3) := by decide +kernel
theorem dM_rotation_97 : decode cM_rotation 97 = .ok (.return_, 1) := by decide +kernel
theorem dM_rotation_98 : decode cM_rotation 98 = .ok (.iload_n 2, 1) := by decide +kernel
theorem dM_rotation_99 : decode cM_rotation 99 = .ok (.ifCond .ne 13, 3) := by decide +kernel
theorem dM_rotation_102 : decode cM_rotation 102 = .ok (.aload_n 0, 1) := by decide +kernel
theorem dM_rotation_103 : decode cM_rotation 103 = .ok (.iload_n 3, 1) := by decide +kernel
theorem dM_rotation_104 : decode cM_rotation 104 = .ok (.iload 5, 2) := by decide +kernel
theorem dM_rotation_106 : decode cM_rotation 106 = .ok (.invokevirtual 239, 3) := by decide +kernel
theorem dM_rotation_109 : decode cM_rotation 109 = .ok (.goto 25, 3) := by decide +kernel
theorem dM_rotation_112 : decode cM_rotation 112 = .ok (.iload_n 2, 1) := by decide +kernel
theorem dM_rotation_113 : decode cM_rotation 113 = .ok (.iconst 2, 1) := by decide +kernel
theorem dM_rotation_114 : decode cM_rotation 114 = .ok (.if_icmp .ne 14, 3) := by decide +kernel
theorem dM_rotation_117 : decode cM_rotation 117 = .ok (.iload 5, 2) := by decide +kernel
theorem dM_rotation_119 : decode cM_rotation 119 = .ok (.iconst 1, 1) := by decide +kernel
theorem dM_rotation_120 : decode cM_rotation 120 = .ok (.iload_n 3, 1) := by decide +kernel
theorem dM_rotation_121 : decode cM_rotation 121 = .ok (.ishl, 1) := by decide +kernel
theorem dM_rotation_122 : decode cM_rotation 122 = .ok (.iconst (-1), 1) := by decide +kernel
theorem dM_rotation_123 : decode cM_rotation 123 = .ok (.ixor, 1) := by decide +kernel
theorem dM_rotation_124 : decode cM_rotation 124 = .ok (.iand, 1) := by decide +kernel
theorem dM_rotation_125 : decode cM_rotation 125 = .ok (.goto 9, 3) := by decide +kernel
theorem dM_rotation_128 : decode cM_rotation 128 = .ok (.iload 5, 2) := by decide +kernel
theorem dM_rotation_130 : decode cM_rotation 130 = .ok (.iconst 1, 1) := by decide +kernel
theorem dM_rotation_131 : decode cM_rotation 131 = .ok (.iload_n 3, 1) := by decide +kernel
theorem dM_rotation_132 : decode cM_rotation 132 = .ok (.ishl, 1) := by decide +kernel
theorem dM_rotation_133 : decode cM_rotation 133 = .ok (.ior, 1) := by decide +kernel
theorem dM_rotation_134 : decode cM_rotation 134 = .ok (.istore 6, 2) := by decide +kernel
theorem dM_rotation_136 : decode cM_rotation 136 = .ok (.aload_n 0, 1) := by decide +kernel
theorem dM_rotation_137 : decode cM_rotation 137 = .ok (.getfield 59, 3) := by decide +kernel
theorem dM_rotation_140 : decode cM_rotation 140 = .ok (.ifCond .eq 11, 3) := by decide +kernel
theorem dM_rotation_143 : decode cM_rotation 143 = .ok (.aload_n 0, 1) := by decide +kernel
theorem dM_rotation_144 : decode cM_rotation 144 = .ok (.bipush 6, 2) := by decide +kernel
theorem dM_rotation_146 : decode cM_rotation 146 = .ok (.iload 6, 2) := by decide +kernel
theorem dM_rotation_148 : decode cM_rotation 148 = .ok (.invokevirtual 176, 3) := by decide +kernel
theorem dM_rotation_151 : decode cM_rotation 151 = .ok (.aload_n 0, 1) := by decide +kernel
theorem dM_rotation_152 : decode cM_rotation 152 = .ok (.getfield 59, 3) := by decide +kernel
theorem dM_rotation_155 : decode cM_rotation 155 = .ok (.ifCond .eq 10, 3) := by decide +kernel
theorem dM_rotation_158 : decode cM_rotation 158 = .ok (.iload 4, 2) := by decide +kernel
theorem dM_rotation_160 : decode cM_rotation 160 = .ok (.bipush 6, 2) := by decide +kernel
theorem dM_rotation_162 : decode cM_rotation 162 = .ok (.if_icmp .eq 11, 3) := by decide +kernel
theorem dM_rotation_165 : decode cM_rotation 165 = .ok (.aload_n 0, 1) := by decide +kernel
theorem dM_rotation_166 : decode cM_rotation 166 = .ok (.iload 4, 2) := by decide +kernel
theorem dM_rotation_168 : decode cM_rotation 168 = .ok (.iload 6, 2) := by decide +kernel
theorem dM_rotation_170 : decode cM_rotation 170 = .ok (.invokevirtual 176, 3) := by decide +kernel
theorem dM_rotation_173 : decode cM_rotation 173 = .ok (.return_, 1) := by decide +kernel
theorem dM_more_0 : decode cM_more 0 = .ok (.iload_n 1, 1) := by decide +kernel
theorem dM_more_1 : decode cM_more 1 = .ok (.iconst 3, 1) := by decide +kernel
theorem dM_more_2 : decode cM_more 2 = .ok (.ishr, 1) := by decide +kernel
theorem dM_more_3 : decode cM_more 3 = .ok (.bipush 7, 2) := by decide +kernel
theorem dM_more_5 : decode cM_more 5 = .ok (.iand, 1) := by decide +kernel
theorem dM_more_6 : decode cM_more 6 = .ok (.istore_n 2, 1) := by decide +kernel
theorem dM_more_7 : decode cM_more 7 = .ok (.iload_n 1, 1) := by decide +kernel
theorem dM_more_8 : decode cM_more 8 = .ok (.bipush 7, 2) := by decide +kernel
theorem dM_more_10 : decode cM_more 10 = .ok (.iand, 1) := by decide +kernel
theorem dM_more_11 : decode cM_more 11 = .ok (.istore_n 3, 1) := by decide +kernel
theorem dM_more_12 : decode cM_more 12 = .ok (.iload_n 1, 1) := by decide +kernel
theorem dM_more_13 : decode cM_more 13 = .ok (.bipush 6, 2) := by decide +kernel
theorem dM_more_15 : decode cM_more 15 = .ok (.ishr, 1) := by decide +kernel
theorem dM_more_16 : decode cM_more 16 = .ok (.iconst 2, 1) := by decide +kernel
theorem dM_more_17 : decode cM_more 17 = .ok (.if_icmp .ne 28, 3) := by decide +kernel
theorem dM_more_20 : decode cM_more 20 = .ok (.iload_n 2, 1) := by decide +kernel
theorem dM_more_21 : decode cM_more 21 = .ok (.iconst 3, 1) := by decide +kernel
theorem dM_more_22 : decode cM_more 22 = .ok (.if_icmp .le 23, 3) := by decide +kernel
theorem dM_more_25 : decode cM_more 25 = .ok (.iload_n 3, 1) := by decide +kernel
theorem dM_more_26 : decode cM_more 26 = .ok (.iconst 2, 1) := by decide +kernel
theorem dM_more_27 : decode cM_more 27 = .ok (.if_icmp .ge 18, 3) := by decide +kernel
theorem dM_more_30 : decode cM_more 30 = .ok (.aload_n 0, 1) := by decide +kernel
theorem dM_more_31 : decode cM_more 31 = .ok (.iload_n 2, 1) := by decide +kernel
theorem dM_more_32 : decode cM_more 32 = .ok (.iload_n 3, 1) := by decide +kernel
theorem dM_more_33 : decode cM_more 33 = .ok (.iconst 1, 1) := by decide +kernel
theorem dM_more_34 : decode cM_more 34 = .ok (.if_icmp .ne 7, 3) := by decide +kernel
theorem dM_more_37 : decode cM_more 37 = .ok (.iconst 1, 1) := by decide +kernel
theorem dM_more_38 : decode cM_more 38 = .ok (.goto 4, 3) := by decide +kernel
theorem dM_more_41 : decode cM_more 41 = .ok (.iconst 0, 1) := by decide +kernel
theorem dM_more_42 : decode cM_more 42 = .ok (.invokevirtual 242, 3) := by decide +kernel
theorem dM_more_45 : decode cM_more 45 = .ok (.iload_n 1, 1) := by decide +kernel
theorem dM_more_46 : decode cM_more 46 = .ok (.bipush 6, 2) := by decide +kernel
theorem dM_more_48 : decode cM_more 48 = .ok (.ishr, 1) := by decide +kernel
theorem dM_more_49 : decode cM_more 49 = .ok (.iconst 1, 1) := by decide +kernel
theorem dM_more_50 : decode cM_more 50 = .ok (.if_icmp .eq 4, 3) := by decide +kernel
theorem dM_more_53 : decode cM_more 53 = .ok (.return_, 1) := by decide +kernel
theorem dM_more_54 : decode cM_more 54 = .ok (.iload_n 2, 1) := by decide +kernel
theorem dM_more_55 : decode cM_more 55 = .ok (.iconst 1, 1) := by decide +kernel
theorem dM_more_56 : decode cM_more 56 = .ok (.ishr, 1) := by decide +kernel
theorem dM_more_57 : decode cM_more 57 = .ok (.istore 4, 2) := by decide +kernel
theorem dM_more_59 : decode cM_more 59 = .ok (.iload_n 2, 1) := by decide +kernel
theorem dM_more_60 : decode cM_more 60 = .ok (.iconst 2, 1) := by decide +kernel
theorem dM_more_61 : decode cM_more 61 = .ok (.irem, 1) := by decide +kernel
theorem dM_more_62 : decode cM_more 62 = .ok (.iconst 1, 1) := by decide +kernel
theorem dM_more_63 : decode cM_more 63 = .ok (.if_icmp .ne 7, 3) := by decide +kernel
theorem dM_more_66 : decode cM_more 66 = .ok (.iconst 1, 1) := by decide +kernel
theorem dM_more_67 : decode cM_more 67 = .ok (.goto 4, 3) := by decide +kernel
theorem dM_more_70 : decode cM_more 70 = .ok (.iconst 0, 1) := by decide +kernel
theorem dM_more_71 : decode cM_more 71 = .ok (.istore 5, 2) := by decide +kernel
theorem dM_more_73 : decode cM_more 73 = .ok (.iload_n 3, 1) := by decide +kernel
theorem dM_more_74 : decode cM_more 74 = .ok (.ifCond .ne 56, 3) := by decide +kernel
theorem dM_more_77 : decode cM_more 77 = .ok (.aload_n 0, 1) := by decide +kernel
theorem dM_more_78 : decode cM_more 78 = .ok (.aload_n 0, 1) := by decide +kernel
theorem dM_more_79 : decode cM_more 79 = .ok (.iconst 2, 1) := by decide +kernel
theorem dM_more_80 : decode cM_more 80 = .ok (.invokevirtual 62, 3) := by decide +kernel
theorem dM_more_83 : decode cM_more 83 = .ok (.invokevirtual 227, 3) := by decide +kernel
theorem dM_more_86 : decode cM_more 86 = .ok (.istore 6, 2) := by decide +kernel
theorem dM_more_88 : decode cM_more 88 = .ok (.iload_n 2, 1) := by decide +kernel
theorem dM_more_89 : decode cM_more 89 = .ok (.bipush 6, 2) := by decide +kernel
theorem dM_more_91 : decode cM_more 91 = .ok (.if_icmp .eq 10, 3) := by decide +kernel
theorem dM_more_94 : decode cM_more 94 = .ok (.aload_n 0, 1) := by decide +kernel
theorem dM_more_95 : decode cM_more 95 = .ok (.iload_n 2, 1) := by decide +kernel
theorem dM_more_96 : decode cM_more 96 = .ok (.iload 6, 2) := by decide +kernel
theorem dM_more_98 : decode cM_more 98 = .ok (.invokevirtual 176, 3) := by decide +kernel
theorem dM_more_101 : decode cM_more 101 = .ok (.aload_n 0, 1) := by decide +kernel
theorem dM_more_102 : decode cM_more 102 = .ok (.getfield 13, 3) := by decide +kernel
theorem dM_more_105 : decode cM_more 105 = .ok (.iconst 1, 1) := by decide +kernel
theorem dM_more_106 : decode cM_more 106 = .ok (.aload_n 0, 1) := by decide +kernel
theorem dM_more_107 : decode cM_more 107 = .ok (.getfield 13, 3) := by decide +kernel
theorem dM_more_110 : decode cM_more 110 = .ok (.iconst 1, 1) := by decide +kernel
theorem dM_more_111 : decode cM_more 111 = .ok (.iaload, 1) := by decide +kernel
theorem dM_more_112 : decode cM_more 112 = .ok (.iconst 1, 1) := by decide +kernel
theorem dM_more_113 : decode cM_more 113 = .ok (.iand, 1) := by decide +kernel
theorem dM_more_114 : decode cM_more 114 = .ok (.iload 6, 2) := by decide +kernel
theorem dM_more_116 : decode cM_more 116 = .ok (.invokestatic 98, 3) := by decide +kernel
theorem dM_more_119 : decode cM_more 119 = .ok (.ior, 1) := by decide +kernel
theorem dM_more_120 : decode cM_more 120 = .ok (.iload 6, 2) := by decide +kernel
theorem dM_more_122 : decode cM_more 122 = .ok (.invokestatic 107, 3) := by decide +kernel
theorem dM_more_125 : decode cM_more 125 = .ok (.ior, 1) := by decide +kernel
theorem dM_more_126 : decode cM_more 126 = .ok (.iastore, 1) := by decide +kernel
theorem dM_more_127 : decode cM_more 127 = .ok (.goto 299, 3) := by decide +kernel
theorem dM_more_130 : decode cM_more 130 = .ok (.iload_n 3, 1) := by decide +kernel
theorem dM_more_131 : decode cM_more 131 = .ok (.iconst 1, 1) := by decide +kernel
theorem dM_more_132 : decode cM_more 132 = .ok (.if_icmp .ne 30, 3) := by decide +kernel
theorem dM_more_135 : decode cM_more 135 = .ok (.aload_n 0, 1) := by decide +kernel
theorem dM_more_136 : decode cM_more 136 = .ok (.aload_n 0, 1) := by decide +kernel
theorem dM_more_137 : decode cM_more 137 = .ok (.iconst 2, 1) := by decide +kernel
theorem dM_more_138 : decode cM_more 138 = .ok (.invokevirtual 62, 3) := by decide +kernel
theorem dM_more_141 : decode cM_more 141 = .ok (.iload_n 2, 1) := by decide +kernel
theorem dM_more_142 : decode cM_more 142 = .ok (.bipush 6, 2) := by decide +kernel
theorem dM_more_144 : decode cM_more 144 = .ok (.if_icmp .ne 7, 3) := by decide +kernel
theorem dM_more_147 : decode cM_more 147 = .ok (.iconst 0, 1) := by decide +kernel
theorem dM_more_148 : decode cM_more 148 = .ok (.goto 8, 3) := by decide +kernel
theorem dM_more_151 : decode cM_more 151 = .ok (.aload_n 0, 1) := by decide +kernel
theorem dM_more_152 : decode cM_more 152 = .ok (.iload_n 2, 1) := by decide +kernel
theorem dM_more_153 : decode cM_more 153 = .ok (.invokevirtual 173, 3) := by decide +kernel
theorem dM_more_156 : decode cM_more 156 = .ok (.invokevirtual 224, 3) := by decide +kernel
theorem dM_more_159 : decode cM_more 159 = .ok (.goto 267, 3) := by decide +kernel
theorem dM_more_162 : decode cM_more 162 = .ok (.iload_n 3, 1) := by decide +kernel
theorem dM_more_163 : decode cM_more 163 = .ok (.iconst 2, 1) := by decide +kernel
theorem dM_more_164 : decode cM_more 164 = .ok (.if_icmp .ne 116, 3) := by decide +kernel
theorem dM_more_167 : decode cM_more 167 = .ok (.aload_n 0, 1) := by decide +kernel
theorem dM_more_168 : decode cM_more 168 = .ok (.getfield 13, 3) := by decide +kernel
theorem dM_more_171 : decode cM_more 171 = .ok (.iconst 1, 1) := by decide +kernel
theorem dM_more_172 : decode cM_more 172 = .ok (.iaload, 1) := by decide +kernel
theorem dM_more_173 : decode cM_more 173 = .ok (.iconst 1, 1) := by decide +kernel
theorem dM_more_174 : decode cM_more 174 = .ok (.iand, 1) := by decide +kernel
theorem dM_more_175 : decode cM_more 175 = .ok (.istore 6, 2) := by decide +kernel
theorem dM_more_177 : decode cM_more 177 = .ok (.iload 5, 2) := by decide +kernel
theorem dM_more_179 : decode cM_more 179 = .ok (.ifCond .eq 26, 3) := by decide +kernel
theorem dM_more_182 : decode cM_more 182 = .ok (.aload_n 0, 1) := by decide +kernel
theorem dM_more_183 : decode cM_more 183 = .ok (.aload_n 0, 1) := by decide +kernel
theorem dM_more_184 : decode cM_more 184 = .ok (.bipush 6, 2) := by decide +kernel
theorem dM_more_186 : decode cM_more 186 = .ok (.invokevirtual 62, 3) := by decide +kernel
theorem dM_more_189 : decode cM_more 189 = .ok (.aload_n 0, 1) := by decide +kernel
theorem dM_more_190 : decode cM_more 190 = .ok (.iload 4, 2) := by decide +kernel
theorem dM_more_192 : decode cM_more 192 = .ok (.invokevirtual 191, 3) := by decide +kernel
theorem dM_more_195 : decode cM_more 195 = .ok (.iload 6, 2) := by decide +kernel
theorem dM_more_197 : decode cM_more 197 = .ok (.bipush 16, 2) := by decide +kernel
theorem dM_more_199 : decode cM_more 199 = .ok (.invokevirtual 94, 3) := by decide +kernel
theorem dM_more_202 : decode cM_more 202 = .ok (.goto 23, 3) := by decide +kernel
theorem dM_more_205 : decode cM_more 205 = .ok (.aload_n 0, 1) := by decide +kernel
theorem dM_more_206 : decode cM_more 206 = .ok (.aload_n 0, 1) := by decide +kernel
theorem dM_more_207 : decode cM_more 207 = .ok (.bipush 6, 2) := by decide +kernel
theorem dM_more_209 : decode cM_more 209 = .ok (.invokevirtual 62, 3) := by decide +kernel
theorem dM_more_212 : decode cM_more 212 = .ok (.aload_n 0, 1) := by decide +kernel
theorem dM_more_213 : decode cM_more 213 = .ok (.iload 4, 2) := by decide +kernel
theorem dM_more_215 : decode cM_more 215 = .ok (.invokevirtual 191, 3) := by decide +kernel
theorem dM_more_218 : decode cM_more 218 = .ok (.iload 6, 2) := by decide +kernel
theorem dM_more_220 : decode cM_more 220 = .ok (.bipush 16, 2) := by decide +kernel
theorem dM_more_222 : decode cM_more 222 = .ok (.invokevirtual 104, 3) := by decide +kernel
theorem dM_more_225 : decode cM_more 225 = .ok (.istore 7, 2) := by decide +kernel
theorem dM_more_227 : decode cM_more 227 = .ok (.aload_n 0, 1) := by decide +kernel
theorem dM_more_228 : decode cM_more 228 = .ok (.bipush 6, 2) := by decide +kernel
theorem dM_more_230 : decode cM_more 230 = .ok (.iload 7, 2) := by decide +kernel
theorem dM_more_232 : decode cM_more 232 = .ok (.invokevirtual 65, 3) := by decide +kernel
theorem dM_more_235 : decode cM_more 235 = .ok (.aload_n 0, 1) := by decide +kernel
theorem dM_more_236 : decode cM_more 236 = .ok (.getfield 13, 3) := by decide +kernel
theorem dM_more_239 : decode cM_more 239 = .ok (.iconst 1, 1) := by decide +kernel
theorem dM_more_240 : decode cM_more 240 = .ok (.iload 7, 2) := by decide +kernel
theorem dM_more_242 : decode cM_more 242 = .ok (.bipush 8, 2) := by decide +kernel
theorem dM_more_244 : decode cM_more 244 = .ok (.ishr, 1) := by decide +kernel
theorem dM_more_245 : decode cM_more 245 = .ok (.sipush 168, 3) := by decide +kernel
theorem dM_more_248 : decode cM_more 248 = .ok (.iand, 1) := by decide +kernel
theorem dM_more_249 : decode cM_more 249 = .ok (.iload 7, 2) := by decide +kernel
theorem dM_more_251 : decode cM_more 251 = .ok (.ifCond .ne 8, 3) := by decide +kernel
theorem dM_more_254 : decode cM_more 254 = .ok (.bipush 64, 2) := by decide +kernel
theorem dM_more_256 : decode cM_more 256 = .ok (.goto 4, 3) := by decide +kernel
theorem dM_more_259 : decode cM_more 259 = .ok (.iconst 0, 1) := by decide +kernel
theorem dM_more_260 : decode cM_more 260 = .ok (.ior, 1) := by decide +kernel
theorem dM_more_261 : decode cM_more 261 = .ok (.aload_n 0, 1) := by decide +kernel
theorem dM_more_262 : decode cM_more 262 = .ok (.iload 5, 2) := by decide +kernel
theorem dM_more_264 : decode cM_more 264 = .ok (.ifCond .eq 7, 3) := by decide +kernel
theorem dM_more_267 : decode cM_more 267 = .ok (.iconst 0, 1) := by decide +kernel
theorem dM_more_268 : decode cM_more 268 = .ok (.goto 4, 3) := by decide +kernel
theorem dM_more_271 : decode cM_more 271 = .ok (.iconst 2, 1) := by decide +kernel
theorem dM_more_272 : decode cM_more 272 = .ok (.invokevirtual 101, 3) := by decide +kernel
theorem dM_more_275 : decode cM_more 275 = .ok (.ior, 1) := by decide +kernel
theorem dM_more_276 : decode cM_more 276 = .ok (.iastore, 1) := by decide +kernel
theorem dM_more_277 : decode cM_more 277 = .ok (.goto 149, 3) := by decide +kernel
theorem dM_more_280 : decode cM_more 280 = .ok (.iload_n 3, 1) := by decide +kernel
theorem dM_more_281 : decode cM_more 281 = .ok (.iconst 3, 1) := by decide +kernel
theorem dM_more_282 : decode cM_more 282 = .ok (.if_icmp .ne 44, 3) := by decide +kernel
theorem dM_more_285 : decode cM_more 285 = .ok (.aload_n 0, 1) := by decide +kernel
theorem dM_more_286 : decode cM_more 286 = .ok (.invokevirtual 197, 3) := by decide +kernel
theorem dM_more_289 : decode cM_more 289 = .ok (.istore 6, 2) := by decide +kernel
theorem dM_more_291 : decode cM_more 291 = .ok (.iload 5, 2) := by decide +kernel
theorem dM_more_293 : decode cM_more 293 = .ok (.ifCond .eq 18, 3) := by decide +kernel
theorem dM_more_296 : decode cM_more 296 = .ok (.aload_n 0, 1) := by decide +kernel
theorem dM_more_297 : decode cM_more 297 = .ok (.iload 4, 2) := by decide +kernel
theorem dM_more_299 : decode cM_more 299 = .ok (.aload_n 0, 1) := by decide +kernel
theorem dM_more_300 : decode cM_more 300 = .ok (.iload 6, 2) := by decide +kernel
theorem dM_more_302 : decode cM_more 302 = .ok (.invokevirtual 164, 3) := by decide +kernel
theorem dM_more_305 : decode cM_more 305 = .ok (.invokevirtual 200, 3) := by decide +kernel
theorem dM_more_308 : decode cM_more 308 = .ok (.goto 15, 3) := by decide +kernel
theorem dM_more_311 : decode cM_more 311 = .ok (.aload_n 0, 1) := by decide +kernel
theorem dM_more_312 : decode cM_more 312 = .ok (.iload 6, 2) := by decide +kernel
theorem dM_more_314 : decode cM_more 314 = .ok (.aload_n 0, 1) := by decide +kernel
theorem dM_more_315 : decode cM_more 315 = .ok (.iload 4, 2) := by decide +kernel
theorem dM_more_317 : decode cM_more 317 = .ok (.invokevirtual 191, 3) := by decide +kernel
theorem dM_more_320 : decode cM_more 320 = .ok (.invokevirtual 221, 3) := by decide +kernel
theorem dM_more_323 : decode cM_more 323 = .ok (.goto 103, 3) := by decide +kernel
theorem dM_more_326 : decode cM_more 326 = .ok (.iload_n 3, 1) := by decide +kernel
theorem dM_more_327 : decode cM_more 327 = .ok (.iconst 4, 1) := by decide +kernel
theorem dM_more_328 : decode cM_more 328 = .ok (.if_icmp .ne 28, 3) := by decide +kernel
theorem dM_more_331 : decode cM_more 331 = .ok (.aload_n 0, 1) := by decide +kernel
theorem dM_more_332 : decode cM_more 332 = .ok (.getfield 13, 3) := by decide +kernel
theorem dM_more_335 : decode cM_more 335 = .ok (.iconst 0, 1) := by decide +kernel
theorem dM_more_336 : decode cM_more 336 = .ok (.iaload, 1) := by decide +kernel
theorem dM_more_337 : decode cM_more 337 = .ok (.istore 6, 2) := by decide +kernel
theorem dM_more_339 : decode cM_more 339 = .ok (.aload_n 0, 1) := by decide +kernel
end
section
theorem dM_more_340 : decode cM_more 340 = .ok (.getfield 13, 3) := by decide +kernel
theorem dM_more_343 : decode cM_more 343 = .ok (.iconst 0, 1) := by decide +kernel
theorem dM_more_344 : decode cM_more 344 = .ok (.iconst 0, 1) := by decide +kernel
theorem dM_more_345 : decode cM_more 345 = .ok (.iastore, 1) := by decide +kernel
theorem dM_more_346 : decode cM_more 346 = .ok (.aload_n 0, 1) := by decide +kernel
theorem dM_more_347 : decode cM_more 347 = .ok (.iconst 2, 1) := by decide +kernel
theorem dM_more_348 : decode cM_more 348 = .ok (.iload 6, 2) := by decide +kernel
theorem dM_more_350 : decode cM_more 350 = .ok (.invokevirtual 179, 3) := by decide +kernel
theorem dM_more_353 : decode cM_more 353 = .ok (.goto 73, 3) := by decide +kernel
theorem dM_more_356 : decode cM_more 356 = .ok (.iload_n 3, 1) := by decide +kernel
theorem dM_more_357 : decode cM_more 357 = .ok (.iconst 5, 1) := by decide +kernel
theorem dM_more_358 : decode cM_more 358 = .ok (.if_icmp .ne 31, 3) := by decide +kernel
theorem dM_more_361 : decode cM_more 361 = .ok (.aload_n 0, 1) := by decide +kernel
theorem dM_more_362 : decode cM_more 362 = .ok (.getfield 13, 3) := by decide +kernel
theorem dM_more_365 : decode cM_more 365 = .ok (.bipush 21, 2) := by decide +kernel
theorem dM_more_367 : decode cM_more 367 = .ok (.aload_n 0, 1) := by decide +kernel
theorem dM_more_368 : decode cM_more 368 = .ok (.invokevirtual 230, 3) := by decide +kernel
theorem dM_more_371 : decode cM_more 371 = .ok (.iastore, 1) := by decide +kernel
theorem dM_more_372 : decode cM_more 372 = .ok (.aload_n 0, 1) := by decide +kernel
theorem dM_more_373 : decode cM_more 373 = .ok (.getfield 13, 3) := by decide +kernel
theorem dM_more_376 : decode cM_more 376 = .ok (.bipush 22, 2) := by decide +kernel
theorem dM_more_378 : decode cM_more 378 = .ok (.aload_n 0, 1) := by decide +kernel
theorem dM_more_379 : decode cM_more 379 = .ok (.getfield 13, 3) := by decide +kernel
theorem dM_more_382 : decode cM_more 382 = .ok (.bipush 23, 2) := by decide +kernel
theorem dM_more_384 : decode cM_more 384 = .ok (.iaload, 1) := by decide +kernel
theorem dM_more_385 : decode cM_more 385 = .ok (.iastore, 1) := by decide +kernel
theorem dM_more_386 : decode cM_more 386 = .ok (.goto 40, 3) := by decide +kernel
theorem dM_more_389 : decode cM_more 389 = .ok (.iload_n 3, 1) := by decide +kernel
theorem dM_more_390 : decode cM_more 390 = .ok (.bipush 6, 2) := by decide +kernel
theorem dM_more_392 : decode cM_more 392 = .ok (.if_icmp .ne 29, 3) := by decide +kernel
theorem dM_more_395 : decode cM_more 395 = .ok (.aload_n 0, 1) := by decide +kernel
theorem dM_more_396 : decode cM_more 396 = .ok (.getfield 13, 3) := by decide +kernel
theorem dM_more_399 : decode cM_more 399 = .ok (.bipush 24, 2) := by decide +kernel
theorem dM_more_401 : decode cM_more 401 = .ok (.iload_n 2, 1) := by decide +kernel
theorem dM_more_402 : decode cM_more 402 = .ok (.iconst 3, 1) := by decide +kernel
theorem dM_more_403 : decode cM_more 403 = .ok (.iand, 1) := by decide +kernel
theorem dM_more_404 : decode cM_more 404 = .ok (.iconst 2, 1) := by decide +kernel
theorem dM_more_405 : decode cM_more 405 = .ok (.if_icmp .ge 7, 3) := by decide +kernel
theorem dM_more_408 : decode cM_more 408 = .ok (.iconst 0, 1) := by decide +kernel
theorem dM_more_409 : decode cM_more 409 = .ok (.goto 8, 3) := by decide +kernel
theorem dM_more_412 : decode cM_more 412 = .ok (.iload_n 2, 1) := by decide +kernel
theorem dM_more_413 : decode cM_more 413 = .ok (.iconst 3, 1) := by decide +kernel
theorem dM_more_414 : decode cM_more 414 = .ok (.iand, 1) := by decide +kernel
theorem dM_more_415 : decode cM_more 415 = .ok (.iconst 1, 1) := by decide +kernel
theorem dM_more_416 : decode cM_more 416 = .ok (.isub, 1) := by decide +kernel
theorem dM_more_417 : decode cM_more 417 = .ok (.iastore, 1) := by decide +kernel
theorem dM_more_418 : decode cM_more 418 = .ok (.goto 8, 3) := by decide +kernel
theorem dM_more_421 : decode cM_more 421 = .ok (.aload_n 0, 1) := by decide +kernel
theorem dM_more_422 : decode cM_more 422 = .ok (.iload_n 2, 1) := by decide +kernel
theorem dM_more_423 : decode cM_more 423 = .ok (.invokevirtual 245, 3) := by decide +kernel
theorem dM_more_426 : decode cM_more 426 = .ok (.return_, 1) := by decide +kernel
theorem dM_special_0 : decode cM_special 0 = .ok (.iload_n 1, 1) := by decide +kernel
theorem dM_special_1 : decode cM_special 1 = .ok (.iconst 2, 1) := by decide +kernel
theorem dM_special_2 : decode cM_special 2 = .ok (.if_icmp .ge 21, 3) := by decide +kernel
theorem dM_special_5 : decode cM_special 5 = .ok (.aload_n 0, 1) := by decide +kernel
theorem dM_special_6 : decode cM_special 6 = .ok (.getfield 13, 3) := by decide +kernel
theorem dM_special_9 : decode cM_special 9 = .ok (.bipush 16, 2) := by decide +kernel
theorem dM_special_11 : decode cM_special 11 = .ok (.iload_n 1, 1) := by decide +kernel
theorem dM_special_12 : decode cM_special 12 = .ok (.iadd, 1) := by decide +kernel
theorem dM_special_13 : decode cM_special 13 = .ok (.aload_n 0, 1) := by decide +kernel
theorem dM_special_14 : decode cM_special 14 = .ok (.getfield 13, 3) := by decide +kernel
theorem dM_special_17 : decode cM_special 17 = .ok (.iconst 0, 1) := by decide +kernel
theorem dM_special_18 : decode cM_special 18 = .ok (.iaload, 1) := by decide +kernel
theorem dM_special_19 : decode cM_special 19 = .ok (.iastore, 1) := by decide +kernel
theorem dM_special_20 : decode cM_special 20 = .ok (.goto 193, 3) := by decide +kernel
theorem dM_special_23 : decode cM_special 23 = .ok (.iload_n 1, 1) := by decide +kernel
theorem dM_special_24 : decode cM_special 24 = .ok (.iconst 4, 1) := by decide +kernel
theorem dM_special_25 : decode cM_special 25 = .ok (.if_icmp .ge 62, 3) := by decide +kernel
theorem dM_special_28 : decode cM_special 28 = .ok (.aload_n 0, 1) := by decide +kernel
theorem dM_special_29 : decode cM_special 29 = .ok (.getfield 13, 3) := by decide +kernel
theorem dM_special_32 : decode cM_special 32 = .ok (.iconst 0, 1) := by decide +kernel
theorem dM_special_33 : decode cM_special 33 = .ok (.aload_n 0, 1) := by decide +kernel
theorem dM_special_34 : decode cM_special 34 = .ok (.getfield 13, 3) := by decide +kernel
theorem dM_special_37 : decode cM_special 37 = .ok (.bipush 14, 2) := by decide +kernel
theorem dM_special_39 : decode cM_special 39 = .ok (.iload_n 1, 1) := by decide +kernel
theorem dM_special_40 : decode cM_special 40 = .ok (.iadd, 1) := by decide +kernel
theorem dM_special_41 : decode cM_special 41 = .ok (.iaload, 1) := by decide +kernel
theorem dM_special_42 : decode cM_special 42 = .ok (.iastore, 1) := by decide +kernel
theorem dM_special_43 : decode cM_special 43 = .ok (.aload_n 0, 1) := by decide +kernel
theorem dM_special_44 : decode cM_special 44 = .ok (.getfield 13, 3) := by decide +kernel
theorem dM_special_47 : decode cM_special 47 = .ok (.iconst 1, 1) := by decide +kernel
theorem dM_special_48 : decode cM_special 48 = .ok (.aload_n 0, 1) := by decide +kernel
theorem dM_special_49 : decode cM_special 49 = .ok (.getfield 13, 3) := by decide +kernel
theorem dM_special_52 : decode cM_special 52 = .ok (.iconst 1, 1) := by decide +kernel
theorem dM_special_53 : decode cM_special 53 = .ok (.iaload, 1) := by decide +kernel
theorem dM_special_54 : decode cM_special 54 = .ok (.iconst 1, 1) := by decide +kernel
theorem dM_special_55 : decode cM_special 55 = .ok (.iand, 1) := by decide +kernel
theorem dM_special_56 : decode cM_special 56 = .ok (.aload_n 0, 1) := by decide +kernel
theorem dM_special_57 : decode cM_special 57 = .ok (.getfield 13, 3) := by decide +kernel
theorem dM_special_60 : decode cM_special 60 = .ok (.iconst 0, 1) := by decide +kernel
theorem dM_special_61 : decode cM_special 61 = .ok (.iaload, 1) := by decide +kernel
theorem dM_special_62 : decode cM_special 62 = .ok (.invokestatic 98, 3) := by decide +kernel
theorem dM_special_65 : decode cM_special 65 = .ok (.ior, 1) := by decide +kernel
theorem dM_special_66 : decode cM_special 66 = .ok (.aload_n 0, 1) := by decide +kernel
theorem dM_special_67 : decode cM_special 67 = .ok (.getfield 13, 3) := by decide +kernel
theorem dM_special_70 : decode cM_special 70 = .ok (.bipush 23, 2) := by decide +kernel
theorem dM_special_72 : decode cM_special 72 = .ok (.iaload, 1) := by decide +kernel
theorem dM_special_73 : decode cM_special 73 = .ok (.iconst 1, 1) := by decide +kernel
theorem dM_special_74 : decode cM_special 74 = .ok (.if_icmp .ne 7, 3) := by decide +kernel
theorem dM_special_77 : decode cM_special 77 = .ok (.iconst 4, 1) := by decide +kernel
theorem dM_special_78 : decode cM_special 78 = .ok (.goto 4, 3) := by decide +kernel
theorem dM_special_81 : decode cM_special 81 = .ok (.iconst 0, 1) := by decide +kernel
theorem dM_special_82 : decode cM_special 82 = .ok (.ior, 1) := by decide +kernel
theorem dM_special_83 : decode cM_special 83 = .ok (.iastore, 1) := by decide +kernel
theorem dM_special_84 : decode cM_special 84 = .ok (.goto 129, 3) := by decide +kernel
theorem dM_special_87 : decode cM_special 87 = .ok (.iload_n 1, 1) := by decide +kernel
theorem dM_special_88 : decode cM_special 88 = .ok (.bipush 6, 2) := by decide +kernel
theorem dM_special_90 : decode cM_special 90 = .ok (.if_icmp .ge 123, 3) := by decide +kernel
theorem dM_special_93 : decode cM_special 93 = .ok (.aload_n 0, 1) := by decide +kernel
theorem dM_special_94 : decode cM_special 94 = .ok (.getfield 13, 3) := by decide +kernel
theorem dM_special_97 : decode cM_special 97 = .ok (.iconst 0, 1) := by decide +kernel
theorem dM_special_98 : decode cM_special 98 = .ok (.iaload, 1) := by decide +kernel
theorem dM_special_99 : decode cM_special 99 = .ok (.istore_n 2, 1) := by decide +kernel
theorem dM_special_100 : decode cM_special 100 = .ok (.aload_n 0, 1) := by decide +kernel
theorem dM_special_101 : decode cM_special 101 = .ok (.aload_n 0, 1) := by decide +kernel
theorem dM_special_102 : decode cM_special 102 = .ok (.bipush 6, 2) := by decide +kernel
theorem dM_special_104 : decode cM_special 104 = .ok (.invokevirtual 62, 3) := by decide +kernel
theorem dM_special_107 : decode cM_special 107 = .ok (.invokevirtual 48, 3) := by decide +kernel
theorem dM_special_110 : decode cM_special 110 = .ok (.istore_n 3, 1) := by decide +kernel
theorem dM_special_111 : decode cM_special 111 = .ok (.aload_n 0, 1) := by decide +kernel
theorem dM_special_112 : decode cM_special 112 = .ok (.aload_n 0, 1) := by decide +kernel
theorem dM_special_113 : decode cM_special 113 = .ok (.bipush 6, 2) := by decide +kernel
theorem dM_special_115 : decode cM_special 115 = .ok (.invokevirtual 62, 3) := by decide +kernel
theorem dM_special_118 : decode cM_special 118 = .ok (.iload_n 1, 1) := by decide +kernel
theorem dM_special_119 : decode cM_special 119 = .ok (.iconst 4, 1) := by decide +kernel
theorem dM_special_120 : decode cM_special 120 = .ok (.if_icmp .ne 17, 3) := by decide +kernel
theorem dM_special_123 : decode cM_special 123 = .ok (.bipush 16, 2) := by decide +kernel
theorem dM_special_125 : decode cM_special 125 = .ok (.iload_n 2, 1) := by decide +kernel
theorem dM_special_126 : decode cM_special 126 = .ok (.bipush 15, 2) := by decide +kernel
theorem dM_special_128 : decode cM_special 128 = .ok (.iand, 1) := by decide +kernel
theorem dM_special_129 : decode cM_special 129 = .ok (.imul, 1) := by decide +kernel
theorem dM_special_130 : decode cM_special 130 = .ok (.iload_n 3, 1) := by decide +kernel
theorem dM_special_131 : decode cM_special 131 = .ok (.iconst 4, 1) := by decide +kernel
theorem dM_special_132 : decode cM_special 132 = .ok (.ishr, 1) := by decide +kernel
theorem dM_special_133 : decode cM_special 133 = .ok (.iadd, 1) := by decide +kernel
theorem dM_special_134 : decode cM_special 134 = .ok (.goto 15, 3) := by decide +kernel
theorem dM_special_137 : decode cM_special 137 = .ok (.bipush 16, 2) := by decide +kernel
theorem dM_special_139 : decode cM_special 139 = .ok (.iload_n 3, 1) := by decide +kernel
theorem dM_special_140 : decode cM_special 140 = .ok (.bipush 15, 2) := by decide +kernel
theorem dM_special_142 : decode cM_special 142 = .ok (.iand, 1) := by decide +kernel
theorem dM_special_143 : decode cM_special 143 = .ok (.imul, 1) := by decide +kernel
theorem dM_special_144 : decode cM_special 144 = .ok (.iload_n 2, 1) := by decide +kernel
theorem dM_special_145 : decode cM_special 145 = .ok (.bipush 15, 2) := by decide +kernel
theorem dM_special_147 : decode cM_special 147 = .ok (.iand, 1) := by decide +kernel
theorem dM_special_148 : decode cM_special 148 = .ok (.iadd, 1) := by decide +kernel
theorem dM_special_149 : decode cM_special 149 = .ok (.invokevirtual 56, 3) := by decide +kernel
theorem dM_special_152 : decode cM_special 152 = .ok (.aload_n 0, 1) := by decide +kernel
theorem dM_special_153 : decode cM_special 153 = .ok (.getfield 13, 3) := by decide +kernel
theorem dM_special_156 : decode cM_special 156 = .ok (.iconst 0, 1) := by decide +kernel
theorem dM_special_157 : decode cM_special 157 = .ok (.iload_n 2, 1) := by decide +kernel
theorem dM_special_158 : decode cM_special 158 = .ok (.sipush 240, 3) := by decide +kernel
theorem dM_special_161 : decode cM_special 161 = .ok (.iand, 1) := by decide +kernel
theorem dM_special_162 : decode cM_special 162 = .ok (.iload_n 1, 1) := by decide +kernel
theorem dM_special_163 : decode cM_special 163 = .ok (.iconst 4, 1) := by decide +kernel
theorem dM_special_164 : decode cM_special 164 = .ok (.if_icmp .ne 10, 3) := by decide +kernel
theorem dM_special_167 : decode cM_special 167 = .ok (.iload_n 3, 1) := by decide +kernel
theorem dM_special_168 : decode cM_special 168 = .ok (.bipush 15, 2) := by decide +kernel
theorem dM_special_170 : decode cM_special 170 = .ok (.iand, 1) := by decide +kernel
theorem dM_special_171 : decode cM_special 171 = .ok (.goto 6, 3) := by decide +kernel
theorem dM_special_174 : decode cM_special 174 = .ok (.iload_n 3, 1) := by decide +kernel
theorem dM_special_175 : decode cM_special 175 = .ok (.iconst 4, 1) := by decide +kernel
theorem dM_special_176 : decode cM_special 176 = .ok (.ishr, 1) := by decide +kernel
theorem dM_special_177 : decode cM_special 177 = .ok (.ior, 1) := by decide +kernel
theorem dM_special_178 : decode cM_special 178 = .ok (.iastore, 1) := by decide +kernel
theorem dM_special_179 : decode cM_special 179 = .ok (.aload_n 0, 1) := by decide +kernel
theorem dM_special_180 : decode cM_special 180 = .ok (.getfield 13, 3) := by decide +kernel
theorem dM_special_183 : decode cM_special 183 = .ok (.iconst 1, 1) := by decide +kernel
theorem dM_special_184 : decode cM_special 184 = .ok (.aload_n 0, 1) := by decide +kernel
theorem dM_special_185 : decode cM_special 185 = .ok (.getfield 13, 3) := by decide +kernel
theorem dM_special_188 : decode cM_special 188 = .ok (.iconst 1, 1) := by decide +kernel
theorem dM_special_189 : decode cM_special 189 = .ok (.iaload, 1) := by decide +kernel
theorem dM_special_190 : decode cM_special 190 = .ok (.iconst 1, 1) := by decide +kernel
theorem dM_special_191 : decode cM_special 191 = .ok (.iand, 1) := by decide +kernel
theorem dM_special_192 : decode cM_special 192 = .ok (.aload_n 0, 1) := by decide +kernel
theorem dM_special_193 : decode cM_special 193 = .ok (.getfield 13, 3) := by decide +kernel
theorem dM_special_196 : decode cM_special 196 = .ok (.iconst 0, 1) := by decide +kernel
theorem dM_special_197 : decode cM_special 197 = .ok (.iaload, 1) := by decide +kernel
theorem dM_special_198 : decode cM_special 198 = .ok (.invokestatic 98, 3) := by decide +kernel
theorem dM_special_201 : decode cM_special 201 = .ok (.ior, 1) := by decide +kernel
theorem dM_special_202 : decode cM_special 202 = .ok (.aload_n 0, 1) := by decide +kernel
theorem dM_special_203 : decode cM_special 203 = .ok (.getfield 13, 3) := by decide +kernel
theorem dM_special_206 : decode cM_special 206 = .ok (.iconst 0, 1) := by decide +kernel
theorem dM_special_207 : decode cM_special 207 = .ok (.iaload, 1) := by decide +kernel
theorem dM_special_208 : decode cM_special 208 = .ok (.invokestatic 107, 3) := by decide +kernel
theorem dM_special_211 : decode cM_special 211 = .ok (.ior, 1) := by decide +kernel
theorem dM_special_212 : decode cM_special 212 = .ok (.iastore, 1) := by decide +kernel
theorem dM_special_213 : decode cM_special 213 = .ok (.return_, 1) := by decide +kernel
theorem dM_move_0 : decode cM_move 0 = .ok (.iload_n 1, 1) := by decide +kernel
theorem dM_move_1 : decode cM_move 1 = .ok (.iconst 2, 1) := by decide +kernel
theorem dM_move_2 : decode cM_move 2 = .ok (.irem, 1) := by decide +kernel
theorem dM_move_3 : decode cM_move 3 = .ok (.ifCond .ne 7, 3) := by decide +kernel
theorem dM_move_6 : decode cM_move 6 = .ok (.iconst 1, 1) := by decide +kernel
theorem dM_move_7 : decode cM_move 7 = .ok (.goto 4, 3) := by decide +kernel
theorem dM_move_10 : decode cM_move 10 = .ok (.iconst (-1), 1) := by decide +kernel
theorem dM_move_11 : decode cM_move 11 = .ok (.istore_n 3, 1) := by decide +kernel
theorem dM_move_12 : decode cM_move 12 = .ok (.aload_n 0, 1) := by decide +kernel
theorem dM_move_13 : decode cM_move 13 = .ok (.aload_n 0, 1) := by decide +kernel
theorem dM_move_14 : decode cM_move 14 = .ok (.bipush 6, 2) := by decide +kernel
theorem dM_move_16 : decode cM_move 16 = .ok (.invokevirtual 62, 3) := by decide +kernel
theorem dM_move_19 : decode cM_move 19 = .ok (.invokevirtual 48, 3) := by decide +kernel
theorem dM_move_22 : decode cM_move 22 = .ok (.istore 4, 2) := by decide +kernel
theorem dM_move_24 : decode cM_move 24 = .ok (.aload_n 0, 1) := by decide +kernel
theorem dM_move_25 : decode cM_move 25 = .ok (.getfield 13, 3) := by decide +kernel
theorem dM_move_28 : decode cM_move 28 = .ok (.iconst 1, 1) := by decide +kernel
theorem dM_move_29 : decode cM_move 29 = .ok (.iaload, 1) := by decide +kernel
theorem dM_move_30 : decode cM_move 30 = .ok (.iconst 1, 1) := by decide +kernel
theorem dM_move_31 : decode cM_move 31 = .ok (.iand, 1) := by decide +kernel
theorem dM_move_32 : decode cM_move 32 = .ok (.istore 5, 2) := by decide +kernel
theorem dM_move_34 : decode cM_move 34 = .ok (.aload_n 0, 1) := by decide +kernel
theorem dM_move_35 : decode cM_move 35 = .ok (.getfield 13, 3) := by decide +kernel
theorem dM_move_38 : decode cM_move 38 = .ok (.iconst 0, 1) := by decide +kernel
theorem dM_move_39 : decode cM_move 39 = .ok (.iaload, 1) := by decide +kernel
theorem dM_move_40 : decode cM_move 40 = .ok (.iload 4, 2) := by decide +kernel
theorem dM_move_42 : decode cM_move 42 = .ok (.iadd, 1) := by decide +kernel
theorem dM_move_43 : decode cM_move 43 = .ok (.istore 6, 2) := by decide +kernel
theorem dM_move_45 : decode cM_move 45 = .ok (.iconst 0, 1) := by decide +kernel
theorem dM_move_46 : decode cM_move 46 = .ok (.istore 7, 2) := by decide +kernel
theorem dM_move_48 : decode cM_move 48 = .ok (.iload_n 2, 1) := by decide +kernel
theorem dM_move_49 : decode cM_move 49 = .ok (.ifCond .eq 92, 3) := by decide +kernel
theorem dM_move_52 : decode cM_move 52 = .ok (.aload_n 0, 1) := by decide +kernel
theorem dM_move_53 : decode cM_move 53 = .ok (.aload_n 0, 1) := by decide +kernel
theorem dM_move_54 : decode cM_move 54 = .ok (.getfield 13, 3) := by decide +kernel
theorem dM_move_57 : decode cM_move 57 = .ok (.iconst 0, 1) := by decide +kernel
theorem dM_move_58 : decode cM_move 58 = .ok (.iaload, 1) := by decide +kernel
theorem dM_move_59 : decode cM_move 59 = .ok (.iload 4, 2) := by decide +kernel
theorem dM_move_61 : decode cM_move 61 = .ok (.iconst 0, 1) := by decide +kernel
theorem dM_move_62 : decode cM_move 62 = .ok (.bipush 8, 2) := by decide +kernel
theorem dM_move_64 : decode cM_move 64 = .ok (.invokevirtual 104, 3) := by decide +kernel
theorem dM_move_67 : decode cM_move 67 = .ok (.istore 6, 2) := by decide +kernel
theorem dM_move_69 : decode cM_move 69 = .ok (.iload 6, 2) := by decide +kernel
theorem dM_move_71 : decode cM_move 71 = .ok (.ifCond .ne 7, 3) := by decide +kernel
theorem dM_move_74 : decode cM_move 74 = .ok (.iconst 1, 1) := by decide +kernel
theorem dM_move_75 : decode cM_move 75 = .ok (.goto 4, 3) := by decide +kernel
theorem dM_move_78 : decode cM_move 78 = .ok (.iconst 0, 1) := by decide +kernel
theorem dM_move_79 : decode cM_move 79 = .ok (.istore 7, 2) := by decide +kernel
theorem dM_move_81 : decode cM_move 81 = .ok (.iload 5, 2) := by decide +kernel
theorem dM_move_83 : decode cM_move 83 = .ok (.iload 6, 2) := by decide +kernel
theorem dM_move_85 : decode cM_move 85 = .ok (.sipush 128, 3) := by decide +kernel
theorem dM_move_88 : decode cM_move 88 = .ok (.iand, 1) := by decide +kernel
theorem dM_move_89 : decode cM_move 89 = .ok (.iload 7, 2) := by decide +kernel
theorem dM_move_91 : decode cM_move 91 = .ok (.ifCond .eq 8, 3) := by decide +kernel
theorem dM_move_94 : decode cM_move 94 = .ok (.bipush 64, 2) := by decide +kernel
theorem dM_move_96 : decode cM_move 96 = .ok (.goto 4, 3) := by decide +kernel
theorem dM_move_99 : decode cM_move 99 = .ok (.iconst 0, 1) := by decide +kernel
theorem dM_move_100 : decode cM_move 100 = .ok (.ior, 1) := by decide +kernel
theorem dM_move_101 : decode cM_move 101 = .ok (.iconst 2, 1) := by decide +kernel
theorem dM_move_102 : decode cM_move 102 = .ok (.ior, 1) := by decide +kernel
theorem dM_move_103 : decode cM_move 103 = .ok (.aload_n 0, 1) := by decide +kernel
theorem dM_move_104 : decode cM_move 104 = .ok (.getfield 88, 3) := by decide +kernel
theorem dM_move_107 : decode cM_move 107 = .ok (.ifCond .eq 8, 3) := by decide +kernel
theorem dM_move_110 : decode cM_move 110 = .ok (.bipush 16, 2) := by decide +kernel
theorem dM_move_112 : decode cM_move 112 = .ok (.goto 4, 3) := by decide +kernel
theorem dM_move_115 : decode cM_move 115 = .ok (.iconst 0, 1) := by decide +kernel
theorem dM_move_116 : decode cM_move 116 = .ok (.ior, 1) := by decide +kernel
theorem dM_move_117 : decode cM_move 117 = .ok (.ior, 1) := by decide +kernel
theorem dM_move_118 : decode cM_move 118 = .ok (.istore 5, 2) := by decide +kernel
theorem dM_move_120 : decode cM_move 120 = .ok (.aload_n 0, 1) := by decide +kernel
theorem dM_move_121 : decode cM_move 121 = .ok (.getfield 88, 3) := by decide +kernel
theorem dM_move_124 : decode cM_move 124 = .ok (.ifCond .eq 10, 3) := by decide +kernel
theorem dM_move_127 : decode cM_move 127 = .ok (.iload 6, 2) := by decide +kernel
theorem dM_move_129 : decode cM_move 129 = .ok (.iconst 1, 1) := by decide +kernel
theorem dM_move_130 : decode cM_move 130 = .ok (.isub, 1) := by decide +kernel
theorem dM_move_131 : decode cM_move 131 = .ok (.goto 5, 3) := by decide +kernel
theorem dM_move_134 : decode cM_move 134 = .ok (.iload 6, 2) := by decide +kernel
theorem dM_move_136 : decode cM_move 136 = .ok (.istore 6, 2) := by decide +kernel
theorem dM_move_138 : decode cM_move 138 = .ok (.goto 41, 3) := by decide +kernel
theorem dM_move_141 : decode cM_move 141 = .ok (.aload_n 0, 1) := by decide +kernel
theorem dM_move_142 : decode cM_move 142 = .ok (.aload_n 0, 1) := by decide +kernel
theorem dM_move_143 : decode cM_move 143 = .ok (.iconst 4, 1) := by decide +kernel
theorem dM_move_144 : decode cM_move 144 = .ok (.invokevirtual 62, 3) := by decide +kernel
theorem dM_move_147 : decode cM_move 147 = .ok (.iload 4, 2) := by decide +kernel
theorem dM_move_149 : decode cM_move 149 = .ok (.invokevirtual 56, 3) := by decide +kernel
theorem dM_move_152 : decode cM_move 152 = .ok (.aload_n 0, 1) := by decide +kernel
theorem dM_move_153 : decode cM_move 153 = .ok (.iconst 4, 1) := by decide +kernel
theorem dM_move_154 : decode cM_move 154 = .ok (.aload_n 0, 1) := by decide +kernel
theorem dM_move_155 : decode cM_move 155 = .ok (.iconst 4, 1) := by decide +kernel
theorem dM_move_156 : decode cM_move 156 = .ok (.invokevirtual 62, 3) := by decide +kernel
theorem dM_move_159 : decode cM_move 159 = .ok (.iload_n 3, 1) := by decide +kernel
theorem dM_move_160 : decode cM_move 160 = .ok (.iadd, 1) := by decide +kernel
theorem dM_move_161 : decode cM_move 161 = .ok (.invokevirtual 65, 3) := by decide +kernel
theorem dM_move_164 : decode cM_move 164 = .ok (.iload 5, 2) := by decide +kernel
theorem dM_move_166 : decode cM_move 166 = .ok (.aload_n 0, 1) := by decide +kernel
theorem dM_move_167 : decode cM_move 167 = .ok (.getfield 13, 3) := by decide +kernel
theorem dM_move_170 : decode cM_move 170 = .ok (.iconst 1, 1) := by decide +kernel
theorem dM_move_171 : decode cM_move 171 = .ok (.iaload, 1) := by decide +kernel
theorem dM_move_172 : decode cM_move 172 = .ok (.sipush 192, 3) := by decide +kernel
theorem dM_move_175 : decode cM_move 175 = .ok (.iand, 1) := by decide +kernel
theorem dM_move_176 : decode cM_move 176 = .ok (.ior, 1) := by decide +kernel
theorem dM_move_177 : decode cM_move 177 = .ok (.istore 5, 2) := by decide +kernel
theorem dM_move_179 : decode cM_move 179 = .ok (.aload_n 0, 1) := by decide +kernel
theorem dM_move_180 : decode cM_move 180 = .ok (.bipush 6, 2) := by decide +kernel
theorem dM_move_182 : decode cM_move 182 = .ok (.aload_n 0, 1) := by decide +kernel
theorem dM_move_183 : decode cM_move 183 = .ok (.bipush 6, 2) := by decide +kernel
theorem dM_move_185 : decode cM_move 185 = .ok (.invokevirtual 62, 3) := by decide +kernel
theorem dM_move_188 : decode cM_move 188 = .ok (.iload_n 3, 1) := by decide +kernel
theorem dM_move_189 : decode cM_move 189 = .ok (.iadd, 1) := by decide +kernel
theorem dM_move_190 : decode cM_move 190 = .ok (.invokevirtual 65, 3) := by decide +kernel
theorem dM_move_193 : decode cM_move 193 = .ok (.aload_n 0, 1) := by decide +kernel
theorem dM_move_194 : decode cM_move 194 = .ok (.iconst 2, 1) := by decide +kernel
theorem dM_move_195 : decode cM_move 195 = .ok (.aload_n 0, 1) := by decide +kernel
theorem dM_move_196 : decode cM_move 196 = .ok (.iconst 2, 1) := by decide +kernel
theorem dM_move_197 : decode cM_move 197 = .ok (.invokevirtual 62, 3) := by decide +kernel
theorem dM_move_200 : decode cM_move 200 = .ok (.iconst 1, 1) := by decide +kernel
theorem dM_move_201 : decode cM_move 201 = .ok (.isub, 1) := by decide +kernel
theorem dM_move_202 : decode cM_move 202 = .ok (.invokevirtual 65, 3) := by decide +kernel
theorem dM_move_205 : decode cM_move 205 = .ok (.aload_n 0, 1) := by decide +kernel
theorem dM_move_206 : decode cM_move 206 = .ok (.iconst 2, 1) := by decide +kernel
theorem dM_move_207 : decode cM_move 207 = .ok (.invokevirtual 62, 3) := by decide +kernel
theorem dM_move_210 : decode cM_move 210 = .ok (.ifCond .eq 7, 3) := by decide +kernel
theorem dM_move_213 : decode cM_move 213 = .ok (.iconst 1, 1) := by decide +kernel
theorem dM_move_214 : decode cM_move 214 = .ok (.goto 4, 3) := by decide +kernel
theorem dM_move_217 : decode cM_move 217 = .ok (.iconst 0, 1) := by decide +kernel
theorem dM_move_218 : decode cM_move 218 = .ok (.istore 8, 2) := by decide +kernel
theorem dM_move_220 : decode cM_move 220 = .ok (.aload_n 0, 1) := by decide +kernel
theorem dM_move_221 : decode cM_move 221 = .ok (.getfield 13, 3) := by decide +kernel
theorem dM_move_224 : decode cM_move 224 = .ok (.iconst 1, 1) := by decide +kernel
theorem dM_move_225 : decode cM_move 225 = .ok (.iload 5, 2) := by decide +kernel
theorem dM_move_227 : decode cM_move 227 = .ok (.iload 8, 2) := by decide +kernel
theorem dM_move_229 : decode cM_move 229 = .ok (.ifCond .eq 7, 3) := by decide +kernel
theorem dM_move_232 : decode cM_move 232 = .ok (.iconst 4, 1) := by decide +kernel
theorem dM_move_233 : decode cM_move 233 = .ok (.goto 4, 3) := by decide +kernel
theorem dM_move_236 : decode cM_move 236 = .ok (.iconst 0, 1) := by decide +kernel
theorem dM_move_237 : decode cM_move 237 = .ok (.ior, 1) := by decide +kernel
theorem dM_move_238 : decode cM_move 238 = .ok (.iload 6, 2) := by decide +kernel
theorem dM_move_240 : decode cM_move 240 = .ok (.iconst 2, 1) := by decide +kernel
theorem dM_move_241 : decode cM_move 241 = .ok (.iand, 1) := by decide +kernel
theorem dM_move_242 : decode cM_move 242 = .ok (.ifCond .eq 8, 3) := by decide +kernel
theorem dM_move_245 : decode cM_move 245 = .ok (.bipush 32, 2) := by decide +kernel
theorem dM_move_247 : decode cM_move 247 = .ok (.goto 4, 3) := by decide +kernel
theorem dM_move_250 : decode cM_move 250 = .ok (.iconst 0, 1) := by decide +kernel
theorem dM_move_251 : decode cM_move 251 = .ok (.ior, 1) := by decide +kernel
theorem dM_move_252 : decode cM_move 252 = .ok (.iload 6, 2) := by decide +kernel
theorem dM_move_254 : decode cM_move 254 = .ok (.bipush 8, 2) := by decide +kernel
theorem dM_move_256 : decode cM_move 256 = .ok (.iand, 1) := by decide +kernel
theorem dM_move_257 : decode cM_move 257 = .ok (.ior, 1) := by decide +kernel
theorem dM_move_258 : decode cM_move 258 = .ok (.iastore, 1) := by decide +kernel
theorem dM_move_259 : decode cM_move 259 = .ok (.iload_n 1, 1) := by decide +kernel
theorem dM_move_260 : decode cM_move 260 = .ok (.iconst 5, 1) := by decide +kernel
theorem dM_move_261 : decode cM_move 261 = .ok (.if_icmp .le 32, 3) := by decide +kernel
theorem dM_move_264 : decode cM_move 264 = .ok (.iload 8, 2) := by decide +kernel
theorem dM_move_266 : decode cM_move 266 = .ok (.ifCond .eq 27, 3) := by decide +kernel
theorem dM_move_269 : decode cM_move 269 = .ok (.iload 7, 2) := by decide +kernel
theorem dM_move_271 : decode cM_move 271 = .ok (.ifCond .ne 22, 3) := by decide +kernel
theorem dM_move_274 : decode cM_move 274 = .ok (.aload_n 0, 1) := by decide +kernel
theorem dM_move_275 : decode cM_move 275 = .ok (.getfield 13, 3) := by decide +kernel
theorem dM_move_278 : decode cM_move 278 = .ok (.bipush 21, 2) := by decide +kernel
theorem dM_move_280 : decode cM_move 280 = .ok (.aload_n 0, 1) := by decide +kernel
theorem dM_move_281 : decode cM_move 281 = .ok (.getfield 13, 3) := by decide +kernel
theorem dM_move_284 : decode cM_move 284 = .ok (.bipush 21, 2) := by decide +kernel
theorem dM_move_286 : decode cM_move 286 = .ok (.iaload, 1) := by decide +kernel
theorem dM_move_287 : decode cM_move 287 = .ok (.iconst 2, 1) := by decide +kernel
theorem dM_move_288 : decode cM_move 288 = .ok (.isub, 1) := by decide +kernel
theorem dM_move_289 : decode cM_move 289 = .ok (.ldc 44, 2) := by decide +kernel
theorem dM_move_291 : decode cM_move 291 = .ok (.iand, 1) := by decide +kernel
theorem dM_move_292 : decode cM_move 292 = .ok (.iastore, 1) := by decide +kernel
theorem dM_move_293 : decode cM_move 293 = .ok (.return_, 1) := by decide +kernel
theorem dM_poke_0 : decode cM_poke 0 = .ok (.aload_n 0, 1) := by decide +kernel
theorem dM_poke_1 : decode cM_poke 1 = .ok (.getfield 7, 3) := by decide +kernel
theorem dM_poke_4 : decode cM_poke 4 = .ok (.iload_n 1, 1) := by decide +kernel
theorem dM_poke_5 : decode cM_poke 5 = .ok (.sipush 4095, 3) := by decide +kernel
theorem dM_poke_8 : decode cM_poke 8 = .ok (.iand, 1) := by decide +kernel
theorem dM_poke_9 : decode cM_poke 9 = .ok (.iload_n 2, 1) := by decide +kernel
theorem dM_poke_10 : decode cM_poke 10 = .ok (.sipush 255, 3) := by decide +kernel
theorem dM_poke_13 : decode cM_poke 13 = .ok (.iand, 1) := by decide +kernel
theorem dM_poke_14 : decode cM_poke 14 = .ok (.iastore, 1) := by decide +kernel
theorem dM_poke_15 : decode cM_poke 15 = .ok (.return_, 1) := by decide +kernel
theorem dM_load_0 : decode cM_load 0 = .ok (.iload_n 3, 1) := by decide +kernel
theorem dM_load_1 : decode cM_load 1 = .ok (.iconst 1, 1) := by decide +kernel
theorem dM_load_2 : decode cM_load 2 = .ok (.if_icmp .lt 8, 3) := by decide +kernel
theorem dM_load_5 : decode cM_load 5 = .ok (.iload_n 3, 1) := by decide +kernel
theorem dM_load_6 : decode cM_load 6 = .ok (.iconst 4, 1) := by decide +kernel
theorem dM_load_7 : decode cM_load 7 = .ok (.if_icmp .le 5, 3) := by decide +kernel
theorem dM_load_10 : decode cM_load 10 = .ok (.iconst 0, 1) := by decide +kernel
theorem dM_load_11 : decode cM_load 11 = .ok (.ireturn, 1) := by decide +kernel
theorem dM_load_12 : decode cM_load 12 = .ok (.iconst 0, 1) := by decide +kernel
theorem dM_load_13 : decode cM_load 13 = .ok (.istore 4, 2) := by decide +kernel
theorem dM_load_15 : decode cM_load 15 = .ok (.iload 4, 2) := by decide +kernel
theorem dM_load_17 : decode cM_load 17 = .ok (.iload_n 3, 1) := by decide +kernel
theorem dM_load_18 : decode cM_load 18 = .ok (.if_icmp .ge 36, 3) := by decide +kernel
theorem dM_load_21 : decode cM_load 21 = .ok (.aload_n 0, 1) := by decide +kernel
theorem dM_load_22 : decode cM_load 22 = .ok (.getfield 7, 3) := by decide +kernel
theorem dM_load_25 : decode cM_load 25 = .ok (.iload_n 1, 1) := by decide +kernel
theorem dM_load_26 : decode cM_load 26 = .ok (.iload 4, 2) := by decide +kernel
theorem dM_load_28 : decode cM_load 28 = .ok (.iadd, 1) := by decide +kernel
theorem dM_load_29 : decode cM_load 29 = .ok (.sipush 4095, 3) := by decide +kernel
theorem dM_load_32 : decode cM_load 32 = .ok (.iand, 1) := by decide +kernel
theorem dM_load_33 : decode cM_load 33 = .ok (.iload_n 2, 1) := by decide +kernel
theorem dM_load_34 : decode cM_load 34 = .ok (.bipush 24, 2) := by decide +kernel
theorem dM_load_36 : decode cM_load 36 = .ok (.bipush 8, 2) := by decide +kernel
theorem dM_load_38 : decode cM_load 38 = .ok (.iload 4, 2) := by decide +kernel
theorem dM_load_40 : decode cM_load 40 = .ok (.imul, 1) := by decide +kernel
theorem dM_load_41 : decode cM_load 41 = .ok (.isub, 1) := by decide +kernel
theorem dM_load_42 : decode cM_load 42 = .ok (.ishr, 1) := by decide +kernel
theorem dM_load_43 : decode cM_load 43 = .ok (.sipush 255, 3) := by decide +kernel
theorem dM_load_46 : decode cM_load 46 = .ok (.iand, 1) := by decide +kernel
theorem dM_load_47 : decode cM_load 47 = .ok (.iastore, 1) := by decide +kernel
theorem dM_load_48 : decode cM_load 48 = .ok (.iinc 4 1, 3) := by decide +kernel
theorem dM_load_51 : decode cM_load 51 = .ok (.goto (-36), 3) := by decide +kernel
theorem dM_load_54 : decode cM_load 54 = .ok (.iconst 1, 1) := by decide +kernel
theorem dM_load_55 : decode cM_load 55 = .ok (.ireturn, 1) := by decide +kernel
theorem dM_peek_0 : decode cM_peek 0 = .ok (.aload_n 0, 1) := by decide +kernel
theorem dM_peek_1 : decode cM_peek 1 = .ok (.getfield 7, 3) := by decide +kernel
theorem dM_peek_4 : decode cM_peek 4 = .ok (.iload_n 1, 1) := by decide +kernel
theorem dM_peek_5 : decode cM_peek 5 = .ok (.sipush 4095, 3) := by decide +kernel
theorem dM_peek_8 : decode cM_peek 8 = .ok (.iand, 1) := by decide +kernel
theorem dM_peek_9 : decode cM_peek 9 = .ok (.iaload, 1) := by decide +kernel
theorem dM_peek_10 : decode cM_peek 10 = .ok (.ireturn, 1) := by decide +kernel
theorem dM_set_0 : decode cM_set 0 = .ok (.iload_n 1, 1) := by decide +kernel
theorem dM_set_1 : decode cM_set 1 = .ok (.ifCond .lt 24, 3) := by decide +kernel
theorem dM_set_4 : decode cM_set 4 = .ok (.iload_n 1, 1) := by decide +kernel
theorem dM_set_5 : decode cM_set 5 = .ok (.bipush 24, 2) := by decide +kernel
theorem dM_set_7 : decode cM_set 7 = .ok (.if_icmp .gt 18, 3) := by decide +kernel
theorem dM_set_10 : decode cM_set 10 = .ok (.iload_n 1, 1) := by decide +kernel
theorem dM_set_11 : decode cM_set 11 = .ok (.bipush 24, 2) := by decide +kernel
theorem dM_set_13 : decode cM_set 13 = .ok (.if_icmp .ne 14, 3) := by decide +kernel
theorem dM_set_16 : decode cM_set 16 = .ok (.iload_n 2, 1) := by decide +kernel
theorem dM_set_17 : decode cM_set 17 = .ok (.ifCond .lt 8, 3) := by decide +kernel
theorem dM_set_20 : decode cM_set 20 = .ok (.iload_n 2, 1) := by decide +kernel
theorem dM_set_21 : decode cM_set 21 = .ok (.iconst 2, 1) := by decide +kernel
theorem dM_set_22 : decode cM_set 22 = .ok (.if_icmp .le 5, 3) := by decide +kernel
theorem dM_set_25 : decode cM_set 25 = .ok (.iconst 0, 1) := by decide +kernel
theorem dM_set_26 : decode cM_set 26 = .ok (.ireturn, 1) := by decide +kernel
theorem dM_set_27 : decode cM_set 27 = .ok (.aload_n 0, 1) := by decide +kernel
theorem dM_set_28 : decode cM_set 28 = .ok (.getfield 13, 3) := by decide +kernel
theorem dM_set_31 : decode cM_set 31 = .ok (.iload_n 1, 1) := by decide +kernel
theorem dM_set_32 : decode cM_set 32 = .ok (.iload_n 1, 1) := by decide +kernel
theorem dM_set_33 : decode cM_set 33 = .ok (.bipush 18, 2) := by decide +kernel
theorem dM_set_35 : decode cM_set 35 = .ok (.if_icmp .ge 11, 3) := by decide +kernel
theorem dM_set_38 : decode cM_set 38 = .ok (.iload_n 2, 1) := by decide +kernel
theorem dM_set_39 : decode cM_set 39 = .ok (.sipush 255, 3) := by decide +kernel
theorem dM_set_42 : decode cM_set 42 = .ok (.iand, 1) := by decide +kernel
theorem dM_set_43 : decode cM_set 43 = .ok (.goto 29, 3) := by decide +kernel
theorem dM_set_46 : decode cM_set 46 = .ok (.iload_n 1, 1) := by decide +kernel
theorem dM_set_47 : decode cM_set 47 = .ok (.bipush 22, 2) := by decide +kernel
theorem dM_set_49 : decode cM_set 49 = .ok (.if_icmp .ge 10, 3) := by decide +kernel
theorem dM_set_52 : decode cM_set 52 = .ok (.iload_n 2, 1) := by decide +kernel
theorem dM_set_53 : decode cM_set 53 = .ok (.ldc 44, 2) := by decide +kernel
theorem dM_set_55 : decode cM_set 55 = .ok (.iand, 1) := by decide +kernel
theorem dM_set_56 : decode cM_set 56 = .ok (.goto 16, 3) := by decide +kernel
theorem dM_set_59 : decode cM_set 59 = .ok (.iload_n 1, 1) := by decide +kernel
theorem dM_set_60 : decode cM_set 60 = .ok (.bipush 24, 2) := by decide +kernel
theorem dM_set_62 : decode cM_set 62 = .ok (.if_icmp .ge 9, 3) := by decide +kernel
theorem dM_set_65 : decode cM_set 65 = .ok (.iload_n 2, 1) := by decide +kernel
theorem dM_set_66 : decode cM_set 66 = .ok (.iconst 1, 1) := by decide +kernel
theorem dM_set_67 : decode cM_set 67 = .ok (.iand, 1) := by decide +kernel
theorem dM_set_68 : decode cM_set 68 = .ok (.goto 4, 3) := by decide +kernel
theorem dM_set_71 : decode cM_set 71 = .ok (.iload_n 2, 1) := by decide +kernel
theorem dM_set_72 : decode cM_set 72 = .ok (.iastore, 1) := by decide +kernel
theorem dM_set_73 : decode cM_set 73 = .ok (.iconst 1, 1) := by decide +kernel
theorem dM_set_74 : decode cM_set 74 = .ok (.ireturn, 1) := by decide +kernel
theorem dM_register_0 : decode cM_register 0 = .ok (.iload_n 1, 1) := by decide +kernel
theorem dM_register_1 : decode cM_register 1 = .ok (.ifCond .lt 9, 3) := by decide +kernel
theorem dM_register_4 : decode cM_register 4 = .ok (.iload_n 1, 1) := by decide +kernel
theorem dM_register_5 : decode cM_register 5 = .ok (.bipush 25, 2) := by decide +kernel
theorem dM_register_7 : decode cM_register 7 = .ok (.if_icmp .le 7, 3) := by decide +kernel
theorem dM_register_10 : decode cM_register 10 = .ok (.iconst (-1), 1) := by decide +kernel
theorem dM_register_11 : decode cM_register 11 = .ok (.goto 9, 3) := by decide +kernel
theorem dM_register_14 : decode cM_register 14 = .ok (.aload_n 0, 1) := by decide +kernel
theorem dM_register_15 : decode cM_register 15 = .ok (.getfield 13, 3) := by decide +kernel
theorem dM_register_18 : decode cM_register 18 = .ok (.iload_n 1, 1) := by decide +kernel
theorem dM_register_19 : decode cM_register 19 = .ok (.iaload, 1) := by decide +kernel
theorem dM_register_20 : decode cM_register 20 = .ok (.ireturn, 1) := by decide +kernel
theorem dM_key_0 : decode cM_key 0 = .ok (.iload_n 1, 1) := by decide +kernel
theorem dM_key_1 : decode cM_key 1 = .ok (.ifCond .lt 18, 3) := by decide +kernel
theorem dM_key_4 : decode cM_key 4 = .ok (.iload_n 1, 1) := by decide +kernel
theorem dM_key_5 : decode cM_key 5 = .ok (.bipush 7, 2) := by decide +kernel
theorem dM_key_7 : decode cM_key 7 = .ok (.if_icmp .gt 12, 3) := by decide +kernel
theorem dM_key_10 : decode cM_key 10 = .ok (.iload_n 2, 1) := by decide +kernel
theorem dM_key_11 : decode cM_key 11 = .ok (.ifCond .lt 8, 3) := by decide +kernel
theorem dM_key_14 : decode cM_key 14 = .ok (.iload_n 2, 1) := by decide +kernel
theorem dM_key_15 : decode cM_key 15 = .ok (.iconst 4, 1) := by decide +kernel
theorem dM_key_16 : decode cM_key 16 = .ok (.if_icmp .le 5, 3) := by decide +kernel
theorem dM_key_19 : decode cM_key 19 = .ok (.iconst 0, 1) := by decide +kernel
theorem dM_key_20 : decode cM_key 20 = .ok (.ireturn, 1) := by decide +kernel
theorem dM_key_21 : decode cM_key 21 = .ok (.aload_n 0, 1) := by decide +kernel
theorem dM_key_22 : decode cM_key 22 = .ok (.getfield 16, 3) := by decide +kernel
theorem dM_key_25 : decode cM_key 25 = .ok (.iconst 5, 1) := by decide +kernel
theorem dM_key_26 : decode cM_key 26 = .ok (.iload_n 1, 1) := by decide +kernel
theorem dM_key_27 : decode cM_key 27 = .ok (.imul, 1) := by decide +kernel
theorem dM_key_28 : decode cM_key 28 = .ok (.iload_n 2, 1) := by decide +kernel
theorem dM_key_29 : decode cM_key 29 = .ok (.iadd, 1) := by decide +kernel
theorem dM_key_30 : decode cM_key 30 = .ok (.iload_n 3, 1) := by decide +kernel
theorem dM_key_31 : decode cM_key 31 = .ok (.bastore, 1) := by decide +kernel
theorem dM_key_32 : decode cM_key 32 = .ok (.iconst 1, 1) := by decide +kernel
theorem dM_key_33 : decode cM_key 33 = .ok (.ireturn, 1) := by decide +kernel
theorem dM_pulse_0 : decode cM_pulse 0 = .ok (.aload_n 0, 1) := by decide +kernel
theorem dM_pulse_1 : decode cM_pulse 1 = .ok (.invokevirtual 134, 3) := by decide +kernel
theorem dM_pulse_4 : decode cM_pulse 4 = .ok (.iload_n 1, 1) := by decide +kernel
theorem dM_pulse_5 : decode cM_pulse 5 = .ok (.iconst 1, 1) := by decide +kernel
theorem dM_pulse_6 : decode cM_pulse 6 = .ok (.if_icmp .lt 26, 3) := by decide +kernel
theorem dM_pulse_9 : decode cM_pulse 9 = .ok (.iload_n 1, 1) := by decide +kernel
theorem dM_pulse_10 : decode cM_pulse 10 = .ok (.sipush 10000, 3) := by decide +kernel
theorem dM_pulse_13 : decode cM_pulse 13 = .ok (.if_icmp .gt 19, 3) := by decide +kernel
theorem dM_pulse_16 : decode cM_pulse 16 = .ok (.aload_n 0, 1) := by decide +kernel
theorem dM_pulse_17 : decode cM_pulse 17 = .ok (.getfield 123, 3) := by decide +kernel
theorem dM_pulse_20 : decode cM_pulse 20 = .ok (.bipush 40, 2) := by decide +kernel
theorem dM_pulse_22 : decode cM_pulse 22 = .ok (.if_icmp .eq 10, 3) := by decide +kernel
theorem dM_pulse_25 : decode cM_pulse 25 = .ok (.aload_n 0, 1) := by decide +kernel
theorem dM_pulse_26 : decode cM_pulse 26 = .ok (.getfield 126, 3) := by decide +kernel
theorem dM_pulse_29 : decode cM_pulse 29 = .ok (.ifCond .eq 5, 3) := by decide +kernel
theorem dM_pulse_32 : decode cM_pulse 32 = .ok (.iconst 0, 1) := by decide +kernel
theorem dM_pulse_33 : decode cM_pulse 33 = .ok (.ireturn, 1) := by decide +kernel
theorem dM_pulse_34 : decode cM_pulse 34 = .ok (.aload_n 0, 1) := by decide +kernel
theorem dM_pulse_35 : decode cM_pulse 35 = .ok (.getfield 23, 3) := by decide +kernel
theorem dM_pulse_38 : decode cM_pulse 38 = .ok (.aload_n 0, 1) := by decide +kernel
theorem dM_pulse_39 : decode cM_pulse 39 = .ok (.getfield 123, 3) := by decide +kernel
theorem dM_pulse_42 : decode cM_pulse 42 = .ok (.iload_n 1, 1) := by decide +kernel
theorem dM_pulse_43 : decode cM_pulse 43 = .ok (.iastore, 1) := by decide +kernel
theorem dM_pulse_44 : decode cM_pulse 44 = .ok (.aload_n 0, 1) := by decide +kernel
theorem dM_pulse_45 : decode cM_pulse 45 = .ok (.dup, 1) := by decide +kernel
theorem dM_pulse_46 : decode cM_pulse 46 = .ok (.getfield 123, 3) := by decide +kernel
theorem dM_pulse_49 : decode cM_pulse 49 = .ok (.iconst 1, 1) := by decide +kernel
theorem dM_pulse_50 : decode cM_pulse 50 = .ok (.iadd, 1) := by decide +kernel
theorem dM_pulse_51 : decode cM_pulse 51 = .ok (.putfield 123, 3) := by decide +kernel
theorem dM_pulse_54 : decode cM_pulse 54 = .ok (.iconst 1, 1) := by decide +kernel
theorem dM_pulse_55 : decode cM_pulse 55 = .ok (.ireturn, 1) := by decide +kernel
theorem dM_tape_0 : decode cM_tape 0 = .ok (.aload_n 0, 1) := by decide +kernel
theorem dM_tape_1 : decode cM_tape 1 = .ok (.invokevirtual 134, 3) := by decide +kernel
theorem dM_tape_4 : decode cM_tape 4 = .ok (.iload_n 1, 1) := by decide +kernel
theorem dM_tape_5 : decode cM_tape 5 = .ok (.ifCond .lt 20, 3) := by decide +kernel
theorem dM_tape_8 : decode cM_tape 8 = .ok (.iload_n 1, 1) := by decide +kernel
theorem dM_tape_9 : decode cM_tape 9 = .ok (.iconst 2, 1) := by decide +kernel
theorem dM_tape_10 : decode cM_tape 10 = .ok (.if_icmp .gt 15, 3) := by decide +kernel
theorem dM_tape_13 : decode cM_tape 13 = .ok (.iload_n 1, 1) := by decide +kernel
theorem dM_tape_14 : decode cM_tape 14 = .ok (.iconst 1, 1) := by decide +kernel
theorem dM_tape_15 : decode cM_tape 15 = .ok (.if_icmp .ne 12, 3) := by decide +kernel
theorem dM_tape_18 : decode cM_tape 18 = .ok (.aload_n 0, 1) := by decide +kernel
theorem dM_tape_19 : decode cM_tape 19 = .ok (.getfield 123, 3) := by decide +kernel
theorem dM_tape_22 : decode cM_tape 22 = .ok (.ifCond .ne 5, 3) := by decide +kernel
theorem dM_tape_25 : decode cM_tape 25 = .ok (.iconst 0, 1) := by decide +kernel
theorem dM_tape_26 : decode cM_tape 26 = .ok (.ireturn, 1) := by decide +kernel
theorem dM_tape_27 : decode cM_tape 27 = .ok (.aload_n 0, 1) := by decide +kernel
theorem dM_tape_28 : decode cM_tape 28 = .ok (.iload_n 1, 1) := by decide +kernel
theorem dM_tape_29 : decode cM_tape 29 = .ok (.iconst 1, 1) := by decide +kernel
theorem dM_tape_30 : decode cM_tape 30 = .ok (.if_icmp .ne 7, 3) := by decide +kernel
theorem dM_tape_33 : decode cM_tape 33 = .ok (.iconst 1, 1) := by decide +kernel
theorem dM_tape_34 : decode cM_tape 34 = .ok (.goto 4, 3) := by decide +kernel
theorem dM_tape_37 : decode cM_tape 37 = .ok (.iconst 0, 1) := by decide +kernel
theorem dM_tape_38 : decode cM_tape 38 = .ok (.putfield 126, 3) := by decide +kernel
theorem dM_tape_41 : decode cM_tape 41 = .ok (.aload_n 0, 1) := by decide +kernel
theorem dM_tape_42 : decode cM_tape 42 = .ok (.aload_n 0, 1) := by decide +kernel
theorem dM_tape_43 : decode cM_tape 43 = .ok (.getfield 26, 3) := by decide +kernel
theorem dM_tape_46 : decode cM_tape 46 = .ok (.putfield 120, 3) := by decide +kernel
theorem dM_tape_49 : decode cM_tape 49 = .ok (.aload_n 0, 1) := by decide +kernel
theorem dM_tape_50 : decode cM_tape 50 = .ok (.iload_n 1, 1) := by decide +kernel
theorem dM_tape_51 : decode cM_tape 51 = .ok (.ifCond .le 7, 3) := by decide +kernel
theorem dM_tape_54 : decode cM_tape 54 = .ok (.iconst 0, 1) := by decide +kernel
theorem dM_tape_55 : decode cM_tape 55 = .ok (.goto 7, 3) := by decide +kernel
theorem dM_tape_58 : decode cM_tape 58 = .ok (.aload_n 0, 1) := by decide +kernel
theorem dM_tape_59 : decode cM_tape 59 = .ok (.getfield 131, 3) := by decide +kernel
theorem dM_tape_62 : decode cM_tape 62 = .ok (.putfield 131, 3) := by decide +kernel
theorem dM_tape_65 : decode cM_tape 65 = .ok (.aload_n 0, 1) := by decide +kernel
theorem dM_tape_66 : decode cM_tape 66 = .ok (.iload_n 1, 1) := by decide +kernel
theorem dM_tape_67 : decode cM_tape 67 = .ok (.iconst 2, 1) := by decide +kernel
theorem dM_tape_68 : decode cM_tape 68 = .ok (.if_icmp .ne 7, 3) := by decide +kernel
theorem dM_tape_71 : decode cM_tape 71 = .ok (.iconst 0, 1) := by decide +kernel
theorem dM_tape_72 : decode cM_tape 72 = .ok (.goto 7, 3) := by decide +kernel
theorem dM_tape_75 : decode cM_tape 75 = .ok (.aload_n 0, 1) := by decide +kernel
theorem dM_tape_76 : decode cM_tape 76 = .ok (.getfield 123, 3) := by decide +kernel
theorem dM_tape_79 : decode cM_tape 79 = .ok (.putfield 123, 3) := by decide +kernel
theorem dM_tape_82 : decode cM_tape 82 = .ok (.iconst 1, 1) := by decide +kernel
theorem dM_tape_83 : decode cM_tape 83 = .ok (.ireturn, 1) := by decide +kernel
theorem dM_step_0 : decode cM_step 0 = .ok (.iload_n 1, 1) := by decide +kernel
theorem dM_step_1 : decode cM_step 1 = .ok (.iconst 1, 1) := by decide +kernel
theorem dM_step_2 : decode cM_step 2 = .ok (.if_icmp .lt 9, 3) := by decide +kernel
theorem dM_step_5 : decode cM_step 5 = .ok (.iload_n 1, 1) := by decide +kernel
theorem dM_step_6 : decode cM_step 6 = .ok (.bipush 100, 2) := by decide +kernel
theorem dM_step_8 : decode cM_step 8 = .ok (.if_icmp .le 5, 3) := by decide +kernel
theorem dM_step_11 : decode cM_step 11 = .ok (.iconst (-1), 1) := by decide +kernel
theorem dM_step_12 : decode cM_step 12 = .ok (.ireturn, 1) := by decide +kernel
theorem dM_step_13 : decode cM_step 13 = .ok (.aload_n 0, 1) := by decide +kernel
theorem dM_step_14 : decode cM_step 14 = .ok (.getfield 26, 3) := by decide +kernel
theorem dM_step_17 : decode cM_step 17 = .ok (.istore_n 2, 1) := by decide +kernel
theorem dM_step_18 : decode cM_step 18 = .ok (.iconst 0, 1) := by decide +kernel
theorem dM_step_19 : decode cM_step 19 = .ok (.istore_n 3, 1) := by decide +kernel
theorem dM_step_20 : decode cM_step 20 = .ok (.iload_n 3, 1) := by decide +kernel
theorem dM_step_21 : decode cM_step 21 = .ok (.iload_n 1, 1) := by decide +kernel
theorem dM_step_22 : decode cM_step 22 = .ok (.if_icmp .ge 13, 3) := by decide +kernel
theorem dM_step_25 : decode cM_step 25 = .ok (.aload_n 0, 1) := by decide +kernel
theorem dM_step_26 : decode cM_step 26 = .ok (.invokevirtual 248, 3) := by decide +kernel
theorem dM_step_29 : decode cM_step 29 = .ok (.iinc 3 1, 3) := by decide +kernel
theorem dM_step_32 : decode cM_step 32 = .ok (.goto (-12), 3) := by decide +kernel
theorem dM_step_35 : decode cM_step 35 = .ok (.aload_n 0, 1) := by decide +kernel
theorem dM_step_36 : decode cM_step 36 = .ok (.getfield 26, 3) := by decide +kernel
theorem dM_step_39 : decode cM_step 39 = .ok (.iload_n 2, 1) := by decide +kernel
theorem dM_step_40 : decode cM_step 40 = .ok (.isub, 1) := by decide +kernel
theorem dM_step_41 : decode cM_step 41 = .ok (.ireturn, 1) := by decide +kernel
theorem dM_frame_0 : decode cM_frame 0 = .ok (.aload_n 0, 1) := by decide +kernel
theorem dM_frame_1 : decode cM_frame 1 = .ok (.getfield 26, 3) := by decide +kernel
theorem dM_frame_4 : decode cM_frame 4 = .ok (.sipush 4096, 3) := by decide +kernel
theorem dM_frame_7 : decode cM_frame 7 = .ok (.idiv, 1) := by decide +kernel
theorem dM_frame_8 : decode cM_frame 8 = .ok (.istore_n 1, 1) := by decide +kernel
theorem dM_frame_9 : decode cM_frame 9 = .ok (.iconst 0, 1) := by decide +kernel
theorem dM_frame_10 : decode cM_frame 10 = .ok (.istore_n 2, 1) := by decide +kernel
theorem dM_frame_11 : decode cM_frame 11 = .ok (.iload_n 2, 1) := by decide +kernel
theorem dM_frame_12 : decode cM_frame 12 = .ok (.sipush 1100, 3) := by decide +kernel
theorem dM_frame_15 : decode cM_frame 15 = .ok (.if_icmp .ge 25, 3) := by decide +kernel
theorem dM_frame_18 : decode cM_frame 18 = .ok (.aload_n 0, 1) := by decide +kernel
theorem dM_frame_19 : decode cM_frame 19 = .ok (.getfield 26, 3) := by decide +kernel
theorem dM_frame_22 : decode cM_frame 22 = .ok (.sipush 4096, 3) := by decide +kernel
theorem dM_frame_25 : decode cM_frame 25 = .ok (.idiv, 1) := by decide +kernel
theorem dM_frame_26 : decode cM_frame 26 = .ok (.iload_n 1, 1) := by decide +kernel
theorem dM_frame_27 : decode cM_frame 27 = .ok (.if_icmp .ne 13, 3) := by decide +kernel
theorem dM_frame_30 : decode cM_frame 30 = .ok (.aload_n 0, 1) := by decide +kernel
theorem dM_frame_31 : decode cM_frame 31 = .ok (.invokevirtual 248, 3) := by decide +kernel
theorem dM_frame_34 : decode cM_frame 34 = .ok (.iinc 2 1, 3) := by decide +kernel
theorem dM_frame_37 : decode cM_frame 37 = .ok (.goto (-26), 3) := by decide +kernel
theorem dM_frame_40 : decode cM_frame 40 = .ok (.iload_n 2, 1) := by decide +kernel
theorem dM_frame_41 : decode cM_frame 41 = .ok (.ireturn, 1) := by decide +kernel
theorem dM_look_0 : decode cM_look 0 = .ok (.aload_n 0, 1) := by decide +kernel
theorem dM_look_1 : decode cM_look 1 = .ok (.invokevirtual 134, 3) := by decide +kernel
theorem dM_look_4 : decode cM_look 4 = .ok (.iload_n 1, 1) := by decide +kernel
theorem dM_look_5 : decode cM_look 5 = .ok (.iconst 4, 1) := by decide +kernel
theorem dM_look_6 : decode cM_look 6 = .ok (.if_icmp .ge 60, 3) := by decide +kernel
theorem dM_look_9 : decode cM_look 9 = .ok (.iload_n 1, 1) := by decide +kernel
theorem dM_look_10 : decode cM_look 10 = .ok (.ifCond .ne 14, 3) := by decide +kernel
theorem dM_look_13 : decode cM_look 13 = .ok (.aload_n 0, 1) := by decide +kernel
theorem dM_look_14 : decode cM_look 14 = .ok (.getfield 26, 3) := by decide +kernel
theorem dM_look_17 : decode cM_look 17 = .ok (.sipush 4096, 3) := by decide +kernel
theorem dM_look_20 : decode cM_look 20 = .ok (.idiv, 1) := by decide +kernel
theorem dM_look_21 : decode cM_look 21 = .ok (.goto 44, 3) := by decide +kernel
theorem dM_look_24 : decode cM_look 24 = .ok (.iload_n 1, 1) := by decide +kernel
theorem dM_look_25 : decode cM_look 25 = .ok (.iconst 1, 1) := by decide +kernel
theorem dM_look_26 : decode cM_look 26 = .ok (.if_icmp .ne 14, 3) := by decide +kernel
theorem dM_look_29 : decode cM_look 29 = .ok (.aload_n 0, 1) := by decide +kernel
theorem dM_look_30 : decode cM_look 30 = .ok (.getfield 26, 3) := by decide +kernel
theorem dM_look_33 : decode cM_look 33 = .ok (.sipush 4096, 3) := by decide +kernel
theorem dM_look_36 : decode cM_look 36 = .ok (.irem, 1) := by decide +kernel
theorem dM_look_37 : decode cM_look 37 = .ok (.goto 28, 3) := by decide +kernel
theorem dM_look_40 : decode cM_look 40 = .ok (.iload_n 1, 1) := by decide +kernel
theorem dM_look_41 : decode cM_look 41 = .ok (.iconst 2, 1) := by decide +kernel
theorem dM_look_42 : decode cM_look 42 = .ok (.if_icmp .ne 10, 3) := by decide +kernel
theorem dM_look_45 : decode cM_look 45 = .ok (.aload_n 0, 1) := by decide +kernel
theorem dM_look_46 : decode cM_look 46 = .ok (.getfield 30, 3) := by decide +kernel
theorem dM_look_49 : decode cM_look 49 = .ok (.goto 16, 3) := by decide +kernel
theorem dM_look_52 : decode cM_look 52 = .ok (.iload_n 1, 1) := by decide +kernel
theorem dM_look_53 : decode cM_look 53 = .ok (.iconst 3, 1) := by decide +kernel
theorem dM_look_54 : decode cM_look 54 = .ok (.if_icmp .ne 10, 3) := by decide +kernel
theorem dM_look_57 : decode cM_look 57 = .ok (.aload_n 0, 1) := by decide +kernel
theorem dM_look_58 : decode cM_look 58 = .ok (.getfield 137, 3) := by decide +kernel
theorem dM_look_61 : decode cM_look 61 = .ok (.goto 4, 3) := by decide +kernel
theorem dM_look_64 : decode cM_look 64 = .ok (.iconst (-1), 1) := by decide +kernel
theorem dM_look_65 : decode cM_look 65 = .ok (.ireturn, 1) := by decide +kernel
theorem dM_look_66 : decode cM_look 66 = .ok (.iload_n 1, 1) := by decide +kernel
theorem dM_look_67 : decode cM_look 67 = .ok (.iconst 4, 1) := by decide +kernel
theorem dM_look_68 : decode cM_look 68 = .ok (.if_icmp .ne 12, 3) := by decide +kernel
theorem dM_look_71 : decode cM_look 71 = .ok (.aload_n 0, 1) := by decide +kernel
theorem dM_look_72 : decode cM_look 72 = .ok (.getfield 131, 3) := by decide +kernel
theorem dM_look_75 : decode cM_look 75 = .ok (.iconst 2, 1) := by decide +kernel
theorem dM_look_76 : decode cM_look 76 = .ok (.irem, 1) := by decide +kernel
theorem dM_look_77 : decode cM_look 77 = .ok (.goto 37, 3) := by decide +kernel
theorem dM_look_80 : decode cM_look 80 = .ok (.iload_n 1, 1) := by decide +kernel
theorem dM_look_81 : decode cM_look 81 = .ok (.iconst 5, 1) := by decide +kernel
theorem dM_look_82 : decode cM_look 82 = .ok (.if_icmp .ne 18, 3) := by decide +kernel
theorem dM_look_85 : decode cM_look 85 = .ok (.aload_n 0, 1) := by decide +kernel
theorem dM_look_86 : decode cM_look 86 = .ok (.getfield 126, 3) := by decide +kernel
theorem dM_look_89 : decode cM_look 89 = .ok (.ifCond .eq 7, 3) := by decide +kernel
theorem dM_look_92 : decode cM_look 92 = .ok (.iconst 1, 1) := by decide +kernel
theorem dM_look_93 : decode cM_look 93 = .ok (.goto 21, 3) := by decide +kernel
theorem dM_look_96 : decode cM_look 96 = .ok (.iconst 0, 1) := by decide +kernel
theorem dM_look_97 : decode cM_look 97 = .ok (.goto 17, 3) := by decide +kernel
theorem dM_look_100 : decode cM_look 100 = .ok (.iload_n 1, 1) := by decide +kernel
theorem dM_look_101 : decode cM_look 101 = .ok (.bipush 6, 2) := by decide +kernel
theorem dM_look_103 : decode cM_look 103 = .ok (.if_icmp .ne 10, 3) := by decide +kernel
theorem dM_look_106 : decode cM_look 106 = .ok (.aload_n 0, 1) := by decide +kernel
theorem dM_look_107 : decode cM_look 107 = .ok (.getfield 131, 3) := by decide +kernel
theorem dM_look_110 : decode cM_look 110 = .ok (.goto 4, 3) := by decide +kernel
theorem dM_look_113 : decode cM_look 113 = .ok (.iconst (-1), 1) := by decide +kernel
theorem dM_look_114 : decode cM_look 114 = .ok (.ireturn, 1) := by decide +kernel
theorem dM_stripe_0 : decode cM_stripe 0 = .ok (.iload_n 1, 1) := by decide +kernel
theorem dM_stripe_1 : decode cM_stripe 1 = .ok (.ifCond .lt 9, 3) := by decide +kernel
theorem dM_stripe_4 : decode cM_stripe 4 = .ok (.iload_n 1, 1) := by decide +kernel
theorem dM_stripe_5 : decode cM_stripe 5 = .ok (.bipush 63, 2) := by decide +kernel
theorem dM_stripe_7 : decode cM_stripe 7 = .ok (.if_icmp .le 7, 3) := by decide +kernel
theorem dM_stripe_10 : decode cM_stripe 10 = .ok (.iconst (-1), 1) := by decide +kernel
theorem dM_stripe_11 : decode cM_stripe 11 = .ok (.goto 9, 3) := by decide +kernel
theorem dM_stripe_14 : decode cM_stripe 14 = .ok (.aload_n 0, 1) := by decide +kernel
theorem dM_stripe_15 : decode cM_stripe 15 = .ok (.getfield 20, 3) := by decide +kernel
theorem dM_stripe_18 : decode cM_stripe 18 = .ok (.iload_n 1, 1) := by decide +kernel
theorem dM_stripe_19 : decode cM_stripe 19 = .ok (.iaload, 1) := by decide +kernel
theorem dM_stripe_20 : decode cM_stripe 20 = .ok (.ireturn, 1) := by decide +kernel
theorem dA_by_0 : decode cA_by 0 = .ok (.iload_n 0, 1) := by decide +kernel
theorem dA_by_1 : decode cA_by 1 = .ok (.sipush 168, 3) := by decide +kernel
theorem dA_by_4 : decode cA_by 4 = .ok (.iand, 1) := by decide +kernel
theorem dA_by_5 : decode cA_by 5 = .ok (.iload_n 0, 1) := by decide +kernel
theorem dA_by_6 : decode cA_by 6 = .ok (.ifCond .ne 8, 3) := by decide +kernel
theorem dA_by_9 : decode cA_by 9 = .ok (.bipush 64, 2) := by decide +kernel
theorem dA_by_11 : decode cA_by 11 = .ok (.goto 4, 3) := by decide +kernel
theorem dA_by_14 : decode cA_by 14 = .ok (.iconst 0, 1) := by decide +kernel
theorem dA_by_15 : decode cA_by 15 = .ok (.ior, 1) := by decide +kernel
theorem dA_by_16 : decode cA_by 16 = .ok (.ireturn, 1) := by decide +kernel
theorem dA_byWithParity_0 : decode cA_byWithParity 0 = .ok (.iload_n 0, 1) := by decide +kernel
theorem dA_byWithParity_1 : decode cA_byWithParity 1 = .ok (.invokestatic 9, 3) := by decide +kernel
theorem dA_byWithParity_4 : decode cA_byWithParity 4 = .ok (.iload_n 0, 1) := by decide +kernel
theorem dA_byWithParity_5 : decode cA_byWithParity 5 = .ok (.invokestatic 13, 3) := by decide +kernel
theorem dA_byWithParity_8 : decode cA_byWithParity 8 = .ok (.iconst 1, 1) := by decide +kernel
theorem dA_byWithParity_9 : decode cA_byWithParity 9 = .ok (.iand, 1) := by decide +kernel
theorem dA_byWithParity_10 : decode cA_byWithParity 10 = .ok (.ifCond .ne 7, 3) := by decide +kernel
theorem dA_byWithParity_13 : decode cA_byWithParity 13 = .ok (.iconst 4, 1) := by decide +kernel
theorem dA_byWithParity_14 : decode cA_byWithParity 14 = .ok (.goto 4, 3) := by decide +kernel
theorem dA_byWithParity_17 : decode cA_byWithParity 17 = .ok (.iconst 0, 1) := by decide +kernel
theorem dA_byWithParity_18 : decode cA_byWithParity 18 = .ok (.ior, 1) := by decide +kernel
theorem dA_byWithParity_19 : decode cA_byWithParity 19 = .ok (.ireturn, 1) := by decide +kernel
theorem dA_plus_0 : decode cA_plus 0 = .ok (.iload_n 0, 1) := by decide +kernel
theorem dA_plus_1 : decode cA_plus 1 = .ok (.iload_n 1, 1) := by decide +kernel
theorem dA_plus_2 : decode cA_plus 2 = .ok (.iadd, 1) := by decide +kernel
theorem dA_plus_3 : decode cA_plus 3 = .ok (.iload_n 2, 1) := by decide +kernel
theorem dA_plus_4 : decode cA_plus 4 = .ok (.iadd, 1) := by decide +kernel
theorem dA_plus_5 : decode cA_plus 5 = .ok (.istore_n 3, 1) := by decide +kernel
theorem dA_plus_6 : decode cA_plus 6 = .ok (.iload_n 0, 1) := by decide +kernel
theorem dA_plus_7 : decode cA_plus 7 = .ok (.iload_n 3, 1) := by decide +kernel
theorem dA_plus_8 : decode cA_plus 8 = .ok (.ixor, 1) := by decide +kernel
theorem dA_plus_9 : decode cA_plus 9 = .ok (.iload_n 1, 1) := by decide +kernel
theorem dA_plus_10 : decode cA_plus 10 = .ok (.iload_n 3, 1) := by decide +kernel
theorem dA_plus_11 : decode cA_plus 11 = .ok (.ixor, 1) := by decide +kernel
theorem dA_plus_12 : decode cA_plus 12 = .ok (.iand, 1) := by decide +kernel
theorem dA_plus_13 : decode cA_plus 13 = .ok (.sipush 128, 3) := by decide +kernel
theorem dA_plus_16 : decode cA_plus 16 = .ok (.iand, 1) := by decide +kernel
theorem dA_plus_17 : decode cA_plus 17 = .ok (.istore 4, 2) := by decide +kernel
theorem dA_plus_19 : decode cA_plus 19 = .ok (.iload_n 3, 1) := by decide +kernel
theorem dA_plus_20 : decode cA_plus 20 = .ok (.sipush 255, 3) := by decide +kernel
theorem dA_plus_23 : decode cA_plus 23 = .ok (.iand, 1) := by decide +kernel
theorem dA_plus_24 : decode cA_plus 24 = .ok (.invokestatic 9, 3) := by decide +kernel
theorem dA_plus_27 : decode cA_plus 27 = .ok (.iload_n 0, 1) := by decide +kernel
theorem dA_plus_28 : decode cA_plus 28 = .ok (.iload_n 1, 1) := by decide +kernel
theorem dA_plus_29 : decode cA_plus 29 = .ok (.ixor, 1) := by decide +kernel
theorem dA_plus_30 : decode cA_plus 30 = .ok (.iload_n 3, 1) := by decide +kernel
theorem dA_plus_31 : decode cA_plus 31 = .ok (.ixor, 1) := by decide +kernel
theorem dA_plus_32 : decode cA_plus 32 = .ok (.bipush 16, 2) := by decide +kernel
theorem dA_plus_34 : decode cA_plus 34 = .ok (.iand, 1) := by decide +kernel
theorem dA_plus_35 : decode cA_plus 35 = .ok (.ior, 1) := by decide +kernel
theorem dA_plus_36 : decode cA_plus 36 = .ok (.iload 4, 2) := by decide +kernel
theorem dA_plus_38 : decode cA_plus 38 = .ok (.iconst 5, 1) := by decide +kernel
theorem dA_plus_39 : decode cA_plus 39 = .ok (.ishr, 1) := by decide +kernel
theorem dA_plus_40 : decode cA_plus 40 = .ok (.ior, 1) := by decide +kernel
theorem dA_plus_41 : decode cA_plus 41 = .ok (.iload_n 3, 1) := by decide +kernel
theorem dA_plus_42 : decode cA_plus 42 = .ok (.bipush 8, 2) := by decide +kernel
theorem dA_plus_44 : decode cA_plus 44 = .ok (.ishr, 1) := by decide +kernel
theorem dA_plus_45 : decode cA_plus 45 = .ok (.iconst 1, 1) := by decide +kernel
theorem dA_plus_46 : decode cA_plus 46 = .ok (.iand, 1) := by decide +kernel
theorem dA_plus_47 : decode cA_plus 47 = .ok (.ior, 1) := by decide +kernel
theorem dA_plus_48 : decode cA_plus 48 = .ok (.istore 5, 2) := by decide +kernel
theorem dA_plus_50 : decode cA_plus 50 = .ok (.iload_n 3, 1) := by decide +kernel
theorem dA_plus_51 : decode cA_plus 51 = .ok (.sipush 255, 3) := by decide +kernel
theorem dA_plus_54 : decode cA_plus 54 = .ok (.iand, 1) := by decide +kernel
theorem dA_plus_55 : decode cA_plus 55 = .ok (.bipush 8, 2) := by decide +kernel
theorem dA_plus_57 : decode cA_plus 57 = .ok (.ishl, 1) := by decide +kernel
theorem dA_plus_58 : decode cA_plus 58 = .ok (.iload 5, 2) := by decide +kernel
theorem dA_plus_60 : decode cA_plus 60 = .ok (.ior, 1) := by decide +kernel
theorem dA_plus_61 : decode cA_plus 61 = .ok (.ireturn, 1) := by decide +kernel
theorem dA_minus_0 : decode cA_minus 0 = .ok (.iload_n 0, 1) := by decide +kernel
theorem dA_minus_1 : decode cA_minus 1 = .ok (.iload_n 1, 1) := by decide +kernel
theorem dA_minus_2 : decode cA_minus 2 = .ok (.isub, 1) := by decide +kernel
theorem dA_minus_3 : decode cA_minus 3 = .ok (.iload_n 2, 1) := by decide +kernel
theorem dA_minus_4 : decode cA_minus 4 = .ok (.isub, 1) := by decide +kernel
theorem dA_minus_5 : decode cA_minus 5 = .ok (.istore_n 3, 1) := by decide +kernel
theorem dA_minus_6 : decode cA_minus 6 = .ok (.iload_n 0, 1) := by decide +kernel
theorem dA_minus_7 : decode cA_minus 7 = .ok (.iload_n 1, 1) := by decide +kernel
theorem dA_minus_8 : decode cA_minus 8 = .ok (.ixor, 1) := by decide +kernel
theorem dA_minus_9 : decode cA_minus 9 = .ok (.iload_n 0, 1) := by decide +kernel
theorem dA_minus_10 : decode cA_minus 10 = .ok (.iload_n 3, 1) := by decide +kernel
theorem dA_minus_11 : decode cA_minus 11 = .ok (.ixor, 1) := by decide +kernel
theorem dA_minus_12 : decode cA_minus 12 = .ok (.iand, 1) := by decide +kernel
theorem dA_minus_13 : decode cA_minus 13 = .ok (.sipush 128, 3) := by decide +kernel
theorem dA_minus_16 : decode cA_minus 16 = .ok (.iand, 1) := by decide +kernel
theorem dA_minus_17 : decode cA_minus 17 = .ok (.istore 4, 2) := by decide +kernel
theorem dA_minus_19 : decode cA_minus 19 = .ok (.iload_n 3, 1) := by decide +kernel
theorem dA_minus_20 : decode cA_minus 20 = .ok (.sipush 255, 3) := by decide +kernel
theorem dA_minus_23 : decode cA_minus 23 = .ok (.iand, 1) := by decide +kernel
theorem dA_minus_24 : decode cA_minus 24 = .ok (.invokestatic 9, 3) := by decide +kernel
theorem dA_minus_27 : decode cA_minus 27 = .ok (.iload_n 0, 1) := by decide +kernel
theorem dA_minus_28 : decode cA_minus 28 = .ok (.iload_n 1, 1) := by decide +kernel
theorem dA_minus_29 : decode cA_minus 29 = .ok (.ixor, 1) := by decide +kernel
theorem dA_minus_30 : decode cA_minus 30 = .ok (.iload_n 3, 1) := by decide +kernel
theorem dA_minus_31 : decode cA_minus 31 = .ok (.ixor, 1) := by decide +kernel
theorem dA_minus_32 : decode cA_minus 32 = .ok (.bipush 16, 2) := by decide +kernel
theorem dA_minus_34 : decode cA_minus 34 = .ok (.iand, 1) := by decide +kernel
theorem dA_minus_35 : decode cA_minus 35 = .ok (.ior, 1) := by decide +kernel
theorem dA_minus_36 : decode cA_minus 36 = .ok (.iload 4, 2) := by decide +kernel
theorem dA_minus_38 : decode cA_minus 38 = .ok (.iconst 5, 1) := by decide +kernel
theorem dA_minus_39 : decode cA_minus 39 = .ok (.ishr, 1) := by decide +kernel
theorem dA_minus_40 : decode cA_minus 40 = .ok (.ior, 1) := by decide +kernel
theorem dA_minus_41 : decode cA_minus 41 = .ok (.iconst 2, 1) := by decide +kernel
theorem dA_minus_42 : decode cA_minus 42 = .ok (.ior, 1) := by decide +kernel
theorem dA_minus_43 : decode cA_minus 43 = .ok (.iload_n 3, 1) := by decide +kernel
theorem dA_minus_44 : decode cA_minus 44 = .ok (.bipush 8, 2) := by decide +kernel
theorem dA_minus_46 : decode cA_minus 46 = .ok (.ishr, 1) := by decide +kernel
theorem dA_minus_47 : decode cA_minus 47 = .ok (.iconst 1, 1) := by decide +kernel
theorem dA_minus_48 : decode cA_minus 48 = .ok (.iand, 1) := by decide +kernel
theorem dA_minus_49 : decode cA_minus 49 = .ok (.ior, 1) := by decide +kernel
theorem dA_minus_50 : decode cA_minus 50 = .ok (.istore 5, 2) := by decide +kernel
theorem dA_minus_52 : decode cA_minus 52 = .ok (.iload_n 3, 1) := by decide +kernel
theorem dA_minus_53 : decode cA_minus 53 = .ok (.sipush 255, 3) := by decide +kernel
theorem dA_minus_56 : decode cA_minus 56 = .ok (.iand, 1) := by decide +kernel
theorem dA_minus_57 : decode cA_minus 57 = .ok (.bipush 8, 2) := by decide +kernel
theorem dA_minus_59 : decode cA_minus 59 = .ok (.ishl, 1) := by decide +kernel
theorem dA_minus_60 : decode cA_minus 60 = .ok (.iload 5, 2) := by decide +kernel
theorem dA_minus_62 : decode cA_minus 62 = .ok (.ior, 1) := by decide +kernel
theorem dA_minus_63 : decode cA_minus 63 = .ok (.ireturn, 1) := by decide +kernel
theorem dA_compared_0 : decode cA_compared 0 = .ok (.iload_n 0, 1) := by decide +kernel
theorem dA_compared_1 : decode cA_compared 1 = .ok (.bipush 8, 2) := by decide +kernel
theorem dA_compared_3 : decode cA_compared 3 = .ok (.ishl, 1) := by decide +kernel
theorem dA_compared_4 : decode cA_compared 4 = .ok (.iload_n 0, 1) := by decide +kernel
theorem dA_compared_5 : decode cA_compared 5 = .ok (.iload_n 1, 1) := by decide +kernel
theorem dA_compared_6 : decode cA_compared 6 = .ok (.iconst 0, 1) := by decide +kernel
theorem dA_compared_7 : decode cA_compared 7 = .ok (.invokestatic 18, 3) := by decide +kernel
theorem dA_compared_10 : decode cA_compared 10 = .ok (.sipush 255, 3) := by decide +kernel
theorem dA_compared_13 : decode cA_compared 13 = .ok (.iand, 1) := by decide +kernel
theorem dA_compared_14 : decode cA_compared 14 = .ok (.bipush (-41), 2) := by decide +kernel
theorem dA_compared_16 : decode cA_compared 16 = .ok (.iand, 1) := by decide +kernel
theorem dA_compared_17 : decode cA_compared 17 = .ok (.ior, 1) := by decide +kernel
theorem dA_compared_18 : decode cA_compared 18 = .ok (.iload_n 1, 1) := by decide +kernel
theorem dA_compared_19 : decode cA_compared 19 = .ok (.bipush 40, 2) := by decide +kernel
theorem dA_compared_21 : decode cA_compared 21 = .ok (.iand, 1) := by decide +kernel
theorem dA_compared_22 : decode cA_compared 22 = .ok (.ior, 1) := by decide +kernel
theorem dA_compared_23 : decode cA_compared 23 = .ok (.ireturn, 1) := by decide +kernel
theorem dA_logic_0 : decode cA_logic 0 = .ok (.iload_n 0, 1) := by decide +kernel
theorem dA_logic_1 : decode cA_logic 1 = .ok (.bipush 8, 2) := by decide +kernel
theorem dA_logic_3 : decode cA_logic 3 = .ok (.ishl, 1) := by decide +kernel
theorem dA_logic_4 : decode cA_logic 4 = .ok (.iload_n 0, 1) := by decide +kernel
theorem dA_logic_5 : decode cA_logic 5 = .ok (.invokestatic 22, 3) := by decide +kernel
theorem dA_logic_8 : decode cA_logic 8 = .ok (.ior, 1) := by decide +kernel
theorem dA_logic_9 : decode cA_logic 9 = .ok (.ireturn, 1) := by decide +kernel
theorem dA_plusWide_0 : decode cA_plusWide 0 = .ok (.iload_n 0, 1) := by decide +kernel
theorem dA_plusWide_1 : decode cA_plusWide 1 = .ok (.iload_n 1, 1) := by decide +kernel
theorem dA_plusWide_2 : decode cA_plusWide 2 = .ok (.iadd, 1) := by decide +kernel
theorem dA_plusWide_3 : decode cA_plusWide 3 = .ok (.iload_n 2, 1) := by decide +kernel
theorem dA_plusWide_4 : decode cA_plusWide 4 = .ok (.iadd, 1) := by decide +kernel
theorem dA_plusWide_5 : decode cA_plusWide 5 = .ok (.istore_n 3, 1) := by decide +kernel
theorem dA_plusWide_6 : decode cA_plusWide 6 = .ok (.iload_n 0, 1) := by decide +kernel
theorem dA_plusWide_7 : decode cA_plusWide 7 = .ok (.iload_n 3, 1) := by decide +kernel
theorem dA_plusWide_8 : decode cA_plusWide 8 = .ok (.ixor, 1) := by decide +kernel
theorem dA_plusWide_9 : decode cA_plusWide 9 = .ok (.iload_n 1, 1) := by decide +kernel
theorem dA_plusWide_10 : decode cA_plusWide 10 = .ok (.iload_n 3, 1) := by decide +kernel
theorem dA_plusWide_11 : decode cA_plusWide 11 = .ok (.ixor, 1) := by decide +kernel
theorem dA_plusWide_12 : decode cA_plusWide 12 = .ok (.iand, 1) := by decide +kernel
theorem dA_plusWide_13 : decode cA_plusWide 13 = .ok (.ldc 25, 2) := by decide +kernel
theorem dA_plusWide_15 : decode cA_plusWide 15 = .ok (.iand, 1) := by decide +kernel
theorem dA_plusWide_16 : decode cA_plusWide 16 = .ok (.istore 4, 2) := by decide +kernel
theorem dA_plusWide_18 : decode cA_plusWide 18 = .ok (.iload_n 3, 1) := by decide +kernel
theorem dA_plusWide_19 : decode cA_plusWide 19 = .ok (.invokestatic 26, 3) := by decide +kernel
theorem dA_plusWide_22 : decode cA_plusWide 22 = .ok (.iload_n 0, 1) := by decide +kernel
theorem dA_plusWide_23 : decode cA_plusWide 23 = .ok (.iload_n 1, 1) := by decide +kernel
theorem dA_plusWide_24 : decode cA_plusWide 24 = .ok (.ixor, 1) := by decide +kernel
theorem dA_plusWide_25 : decode cA_plusWide 25 = .ok (.iload_n 3, 1) := by decide +kernel
theorem dA_plusWide_26 : decode cA_plusWide 26 = .ok (.ixor, 1) := by decide +kernel
theorem dA_plusWide_27 : decode cA_plusWide 27 = .ok (.bipush 8, 2) := by decide +kernel
theorem dA_plusWide_29 : decode cA_plusWide 29 = .ok (.ishr, 1) := by decide +kernel
theorem dA_plusWide_30 : decode cA_plusWide 30 = .ok (.bipush 16, 2) := by decide +kernel
theorem dA_plusWide_32 : decode cA_plusWide 32 = .ok (.iand, 1) := by decide +kernel
theorem dA_plusWide_33 : decode cA_plusWide 33 = .ok (.ior, 1) := by decide +kernel
theorem dA_plusWide_34 : decode cA_plusWide 34 = .ok (.iload 4, 2) := by decide +kernel
theorem dA_plusWide_36 : decode cA_plusWide 36 = .ok (.bipush 13, 2) := by decide +kernel
theorem dA_plusWide_38 : decode cA_plusWide 38 = .ok (.ishr, 1) := by decide +kernel
theorem dA_plusWide_39 : decode cA_plusWide 39 = .ok (.ior, 1) := by decide +kernel
theorem dA_plusWide_40 : decode cA_plusWide 40 = .ok (.iload_n 3, 1) := by decide +kernel
theorem dA_plusWide_41 : decode cA_plusWide 41 = .ok (.bipush 16, 2) := by decide +kernel
theorem dA_plusWide_43 : decode cA_plusWide 43 = .ok (.ishr, 1) := by decide +kernel
theorem dA_plusWide_44 : decode cA_plusWide 44 = .ok (.iconst 1, 1) := by decide +kernel
theorem dA_plusWide_45 : decode cA_plusWide 45 = .ok (.iand, 1) := by decide +kernel
theorem dA_plusWide_46 : decode cA_plusWide 46 = .ok (.ior, 1) := by decide +kernel
theorem dA_plusWide_47 : decode cA_plusWide 47 = .ok (.istore 5, 2) := by decide +kernel
theorem dA_plusWide_49 : decode cA_plusWide 49 = .ok (.iload_n 3, 1) := by decide +kernel
theorem dA_plusWide_50 : decode cA_plusWide 50 = .ok (.ldc 29, 2) := by decide +kernel
theorem dA_plusWide_52 : decode cA_plusWide 52 = .ok (.iand, 1) := by decide +kernel
theorem dA_plusWide_53 : decode cA_plusWide 53 = .ok (.bipush 8, 2) := by decide +kernel
theorem dA_plusWide_55 : decode cA_plusWide 55 = .ok (.ishl, 1) := by decide +kernel
theorem dA_plusWide_56 : decode cA_plusWide 56 = .ok (.iload 5, 2) := by decide +kernel
theorem dA_plusWide_58 : decode cA_plusWide 58 = .ok (.ior, 1) := by decide +kernel
theorem dA_plusWide_59 : decode cA_plusWide 59 = .ok (.ireturn, 1) := by decide +kernel
theorem dA_minusWide_0 : decode cA_minusWide 0 = .ok (.iload_n 0, 1) := by decide +kernel
theorem dA_minusWide_1 : decode cA_minusWide 1 = .ok (.iload_n 1, 1) := by decide +kernel
theorem dA_minusWide_2 : decode cA_minusWide 2 = .ok (.isub, 1) := by decide +kernel
theorem dA_minusWide_3 : decode cA_minusWide 3 = .ok (.iload_n 2, 1) := by decide +kernel
theorem dA_minusWide_4 : decode cA_minusWide 4 = .ok (.isub, 1) := by decide +kernel
theorem dA_minusWide_5 : decode cA_minusWide 5 = .ok (.istore_n 3, 1) := by decide +kernel
theorem dA_minusWide_6 : decode cA_minusWide 6 = .ok (.iload_n 0, 1) := by decide +kernel
theorem dA_minusWide_7 : decode cA_minusWide 7 = .ok (.iload_n 1, 1) := by decide +kernel
theorem dA_minusWide_8 : decode cA_minusWide 8 = .ok (.ixor, 1) := by decide +kernel
theorem dA_minusWide_9 : decode cA_minusWide 9 = .ok (.iload_n 0, 1) := by decide +kernel
theorem dA_minusWide_10 : decode cA_minusWide 10 = .ok (.iload_n 3, 1) := by decide +kernel
theorem dA_minusWide_11 : decode cA_minusWide 11 = .ok (.ixor, 1) := by decide +kernel
theorem dA_minusWide_12 : decode cA_minusWide 12 = .ok (.iand, 1) := by decide +kernel
theorem dA_minusWide_13 : decode cA_minusWide 13 = .ok (.ldc 25, 2) := by decide +kernel
theorem dA_minusWide_15 : decode cA_minusWide 15 = .ok (.iand, 1) := by decide +kernel
theorem dA_minusWide_16 : decode cA_minusWide 16 = .ok (.istore 4, 2) := by decide +kernel
theorem dA_minusWide_18 : decode cA_minusWide 18 = .ok (.iload_n 3, 1) := by decide +kernel
theorem dA_minusWide_19 : decode cA_minusWide 19 = .ok (.invokestatic 26, 3) := by decide +kernel
theorem dA_minusWide_22 : decode cA_minusWide 22 = .ok (.iload_n 0, 1) := by decide +kernel
theorem dA_minusWide_23 : decode cA_minusWide 23 = .ok (.iload_n 1, 1) := by decide +kernel
theorem dA_minusWide_24 : decode cA_minusWide 24 = .ok (.ixor, 1) := by decide +kernel
theorem dA_minusWide_25 : decode cA_minusWide 25 = .ok (.iload_n 3, 1) := by decide +kernel
theorem dA_minusWide_26 : decode cA_minusWide 26 = .ok (.ixor, 1) := by decide +kernel
theorem dA_minusWide_27 : decode cA_minusWide 27 = .ok (.bipush 8, 2) := by decide +kernel
theorem dA_minusWide_29 : decode cA_minusWide 29 = .ok (.ishr, 1) := by decide +kernel
theorem dA_minusWide_30 : decode cA_minusWide 30 = .ok (.bipush 16, 2) := by decide +kernel
theorem dA_minusWide_32 : decode cA_minusWide 32 = .ok (.iand, 1) := by decide +kernel
theorem dA_minusWide_33 : decode cA_minusWide 33 = .ok (.ior, 1) := by decide +kernel
theorem dA_minusWide_34 : decode cA_minusWide 34 = .ok (.iload 4, 2) := by decide +kernel
theorem dA_minusWide_36 : decode cA_minusWide 36 = .ok (.bipush 13, 2) := by decide +kernel
theorem dA_minusWide_38 : decode cA_minusWide 38 = .ok (.ishr, 1) := by decide +kernel
theorem dA_minusWide_39 : decode cA_minusWide 39 = .ok (.ior, 1) := by decide +kernel
theorem dA_minusWide_40 : decode cA_minusWide 40 = .ok (.iconst 2, 1) := by decide +kernel
theorem dA_minusWide_41 : decode cA_minusWide 41 = .ok (.ior, 1) := by decide +kernel
theorem dA_minusWide_42 : decode cA_minusWide 42 = .ok (.iload_n 3, 1) := by decide +kernel
theorem dA_minusWide_43 : decode cA_minusWide 43 = .ok (.bipush 16, 2) := by decide +kernel
theorem dA_minusWide_45 : decode cA_minusWide 45 = .ok (.ishr, 1) := by decide +kernel
theorem dA_minusWide_46 : decode cA_minusWide 46 = .ok (.iconst 1, 1) := by decide +kernel
theorem dA_minusWide_47 : decode cA_minusWide 47 = .ok (.iand, 1) := by decide +kernel
theorem dA_minusWide_48 : decode cA_minusWide 48 = .ok (.ior, 1) := by decide +kernel
theorem dA_minusWide_49 : decode cA_minusWide 49 = .ok (.istore 5, 2) := by decide +kernel
theorem dA_minusWide_51 : decode cA_minusWide 51 = .ok (.iload_n 3, 1) := by decide +kernel
theorem dA_minusWide_52 : decode cA_minusWide 52 = .ok (.ldc 29, 2) := by decide +kernel
theorem dA_minusWide_54 : decode cA_minusWide 54 = .ok (.iand, 1) := by decide +kernel
theorem dA_minusWide_55 : decode cA_minusWide 55 = .ok (.bipush 8, 2) := by decide +kernel
theorem dA_minusWide_57 : decode cA_minusWide 57 = .ok (.ishl, 1) := by decide +kernel
theorem dA_minusWide_58 : decode cA_minusWide 58 = .ok (.iload 5, 2) := by decide +kernel
theorem dA_minusWide_60 : decode cA_minusWide 60 = .ok (.ior, 1) := by decide +kernel
theorem dA_minusWide_61 : decode cA_minusWide 61 = .ok (.ireturn, 1) := by decide +kernel
theorem dA_byWide_0 : decode cA_byWide 0 = .ok (.iload_n 0, 1) := by decide +kernel
theorem dA_byWide_1 : decode cA_byWide 1 = .ok (.bipush 8, 2) := by decide +kernel
theorem dA_byWide_3 : decode cA_byWide 3 = .ok (.ishr, 1) := by decide +kernel
theorem dA_byWide_4 : decode cA_byWide 4 = .ok (.sipush 168, 3) := by decide +kernel
theorem dA_byWide_7 : decode cA_byWide 7 = .ok (.iand, 1) := by decide +kernel
theorem dA_byWide_8 : decode cA_byWide 8 = .ok (.iload_n 0, 1) := by decide +kernel
theorem dA_byWide_9 : decode cA_byWide 9 = .ok (.ldc 29, 2) := by decide +kernel
theorem dA_byWide_11 : decode cA_byWide 11 = .ok (.iand, 1) := by decide +kernel
theorem dA_byWide_12 : decode cA_byWide 12 = .ok (.ifCond .ne 8, 3) := by decide +kernel
theorem dA_byWide_15 : decode cA_byWide 15 = .ok (.bipush 64, 2) := by decide +kernel
theorem dA_byWide_17 : decode cA_byWide 17 = .ok (.goto 4, 3) := by decide +kernel
theorem dA_byWide_20 : decode cA_byWide 20 = .ok (.iconst 0, 1) := by decide +kernel
theorem dA_byWide_21 : decode cA_byWide 21 = .ok (.ior, 1) := by decide +kernel
theorem dA_byWide_22 : decode cA_byWide 22 = .ok (.ireturn, 1) := by decide +kernel
theorem dA_turned_0 : decode cA_turned 0 = .ok (.iload_n 0, 1) := by decide +kernel
theorem dA_turned_1 : decode cA_turned 1 = .ok (.iconst 1, 1) := by decide +kernel
theorem dA_turned_2 : decode cA_turned 2 = .ok (.iand, 1) := by decide +kernel
theorem dA_turned_3 : decode cA_turned 3 = .ok (.iconst 1, 1) := by decide +kernel
theorem dA_turned_4 : decode cA_turned 4 = .ok (.if_icmp .ne 7, 3) := by decide +kernel
theorem dA_turned_7 : decode cA_turned 7 = .ok (.iconst 1, 1) := by decide +kernel
theorem dA_turned_8 : decode cA_turned 8 = .ok (.goto 4, 3) := by decide +kernel
theorem dA_turned_11 : decode cA_turned 11 = .ok (.iconst 0, 1) := by decide +kernel
theorem dA_turned_12 : decode cA_turned 12 = .ok (.istore_n 3, 1) := by decide +kernel
theorem dA_turned_13 : decode cA_turned 13 = .ok (.iload_n 3, 1) := by decide +kernel
theorem dA_turned_14 : decode cA_turned 14 = .ok (.ifCond .eq 9, 3) := by decide +kernel
theorem dA_turned_17 : decode cA_turned 17 = .ok (.iload_n 1, 1) := by decide +kernel
theorem dA_turned_18 : decode cA_turned 18 = .ok (.iconst 1, 1) := by decide +kernel
theorem dA_turned_19 : decode cA_turned 19 = .ok (.iand, 1) := by decide +kernel
theorem dA_turned_20 : decode cA_turned 20 = .ok (.goto 7, 3) := by decide +kernel
theorem dA_turned_23 : decode cA_turned 23 = .ok (.iload_n 1, 1) := by decide +kernel
theorem dA_turned_24 : decode cA_turned 24 = .ok (.bipush 7, 2) := by decide +kernel
theorem dA_turned_26 : decode cA_turned 26 = .ok (.ishr, 1) := by decide +kernel
theorem dA_turned_27 : decode cA_turned 27 = .ok (.istore 4, 2) := by decide +kernel
theorem dA_turned_29 : decode cA_turned 29 = .ok (.iload_n 0, 1) := by decide +kernel
theorem dA_turned_30 : decode cA_turned 30 = .ok (.iload_n 1, 1) := by decide +kernel
theorem dA_turned_31 : decode cA_turned 31 = .ok (.iload 4, 2) := by decide +kernel
theorem dA_turned_33 : decode cA_turned 33 = .ok (.iload_n 2, 1) := by decide +kernel
theorem dA_turned_34 : decode cA_turned 34 = .ok (.invokestatic 30, 3) := by decide +kernel
theorem dA_turned_37 : decode cA_turned 37 = .ok (.istore 5, 2) := by decide +kernel
theorem dA_turned_39 : decode cA_turned 39 = .ok (.iload_n 3, 1) := by decide +kernel
theorem dA_turned_40 : decode cA_turned 40 = .ok (.ifCond .eq 15, 3) := by decide +kernel
theorem dA_turned_43 : decode cA_turned 43 = .ok (.iload_n 1, 1) := by decide +kernel
theorem dA_turned_44 : decode cA_turned 44 = .ok (.iconst 1, 1) := by decide +kernel
theorem dA_turned_45 : decode cA_turned 45 = .ok (.ishr, 1) := by decide +kernel
theorem dA_turned_46 : decode cA_turned 46 = .ok (.iload 5, 2) := by decide +kernel
theorem dA_turned_48 : decode cA_turned 48 = .ok (.bipush 7, 2) := by decide +kernel
theorem dA_turned_50 : decode cA_turned 50 = .ok (.ishl, 1) := by decide +kernel
theorem dA_turned_51 : decode cA_turned 51 = .ok (.ior, 1) := by decide +kernel
theorem dA_turned_52 : decode cA_turned 52 = .ok (.goto 13, 3) := by decide +kernel
theorem dA_turned_55 : decode cA_turned 55 = .ok (.iload_n 1, 1) := by decide +kernel
theorem dA_turned_56 : decode cA_turned 56 = .ok (.iconst 1, 1) := by decide +kernel
theorem dA_turned_57 : decode cA_turned 57 = .ok (.ishl, 1) := by decide +kernel
theorem dA_turned_58 : decode cA_turned 58 = .ok (.sipush 255, 3) := by decide +kernel
theorem dA_turned_61 : decode cA_turned 61 = .ok (.iand, 1) := by decide +kernel
theorem dA_turned_62 : decode cA_turned 62 = .ok (.iload 5, 2) := by decide +kernel
theorem dA_turned_64 : decode cA_turned 64 = .ok (.ior, 1) := by decide +kernel
theorem dA_turned_65 : decode cA_turned 65 = .ok (.istore 6, 2) := by decide +kernel
theorem dA_turned_67 : decode cA_turned 67 = .ok (.iload 6, 2) := by decide +kernel
theorem dA_turned_69 : decode cA_turned 69 = .ok (.bipush 8, 2) := by decide +kernel
theorem dA_turned_71 : decode cA_turned 71 = .ok (.ishl, 1) := by decide +kernel
theorem dA_turned_72 : decode cA_turned 72 = .ok (.iload 6, 2) := by decide +kernel
theorem dA_turned_74 : decode cA_turned 74 = .ok (.invokestatic 22, 3) := by decide +kernel
theorem dA_turned_77 : decode cA_turned 77 = .ok (.ior, 1) := by decide +kernel
theorem dA_turned_78 : decode cA_turned 78 = .ok (.iload 4, 2) := by decide +kernel
theorem dA_turned_80 : decode cA_turned 80 = .ok (.ior, 1) := by decide +kernel
theorem dA_turned_81 : decode cA_turned 81 = .ok (.ireturn, 1) := by decide +kernel
theorem dA_comesIn_0 : decode cA_comesIn 0 = .ok (.iload_n 0, 1) := by decide +kernel
theorem dA_comesIn_1 : decode cA_comesIn 1 = .ok (.tableswitch 54 0 6 #[43, 43, 45, 45, 54, 47, 52], 43) := by decide +kernel
theorem dA_comesIn_44 : decode cA_comesIn 44 = .ok (.iload_n 2, 1) := by decide +kernel
theorem dA_comesIn_45 : decode cA_comesIn 45 = .ok (.ireturn, 1) := by decide +kernel
theorem dA_comesIn_46 : decode cA_comesIn 46 = .ok (.iload_n 3, 1) := by decide +kernel
theorem dA_comesIn_47 : decode cA_comesIn 47 = .ok (.ireturn, 1) := by decide +kernel
theorem dA_comesIn_48 : decode cA_comesIn 48 = .ok (.iload_n 1, 1) := by decide +kernel
theorem dA_comesIn_49 : decode cA_comesIn 49 = .ok (.bipush 7, 2) := by decide +kernel
theorem dA_comesIn_51 : decode cA_comesIn 51 = .ok (.ishr, 1) := by decide +kernel
theorem dA_comesIn_52 : decode cA_comesIn 52 = .ok (.ireturn, 1) := by decide +kernel
theorem dA_comesIn_53 : decode cA_comesIn 53 = .ok (.iconst 1, 1) := by decide +kernel
theorem dA_comesIn_54 : decode cA_comesIn 54 = .ok (.ireturn, 1) := by decide +kernel
theorem dA_comesIn_55 : decode cA_comesIn 55 = .ok (.iconst 0, 1) := by decide +kernel
theorem dA_comesIn_56 : decode cA_comesIn 56 = .ok (.ireturn, 1) := by decide +kernel
theorem dA_bitFlags_0 : decode cA_bitFlags 0 = .ok (.iload_n 1, 1) := by decide +kernel
theorem dA_bitFlags_1 : decode cA_bitFlags 1 = .ok (.iconst 1, 1) := by decide +kernel
theorem dA_bitFlags_2 : decode cA_bitFlags 2 = .ok (.iload_n 0, 1) := by decide +kernel
theorem dA_bitFlags_3 : decode cA_bitFlags 3 = .ok (.ishl, 1) := by decide +kernel
theorem dA_bitFlags_4 : decode cA_bitFlags 4 = .ok (.iand, 1) := by decide +kernel
theorem dA_bitFlags_5 : decode cA_bitFlags 5 = .ok (.istore_n 3, 1) := by decide +kernel
theorem dA_bitFlags_6 : decode cA_bitFlags 6 = .ok (.iload_n 3, 1) := by decide +kernel
theorem dA_bitFlags_7 : decode cA_bitFlags 7 = .ok (.sipush 128, 3) := by decide +kernel
theorem dA_bitFlags_10 : decode cA_bitFlags 10 = .ok (.iand, 1) := by decide +kernel
theorem dA_bitFlags_11 : decode cA_bitFlags 11 = .ok (.iload_n 3, 1) := by decide +kernel
theorem dA_bitFlags_12 : decode cA_bitFlags 12 = .ok (.ifCond .ne 8, 3) := by decide +kernel
theorem dA_bitFlags_15 : decode cA_bitFlags 15 = .ok (.bipush 68, 2) := by decide +kernel
theorem dA_bitFlags_17 : decode cA_bitFlags 17 = .ok (.goto 4, 3) := by decide +kernel
theorem dA_bitFlags_20 : decode cA_bitFlags 20 = .ok (.iconst 0, 1) := by decide +kernel
theorem dA_bitFlags_21 : decode cA_bitFlags 21 = .ok (.ior, 1) := by decide +kernel
theorem dA_bitFlags_22 : decode cA_bitFlags 22 = .ok (.iload_n 1, 1) := by decide +kernel
theorem dA_bitFlags_23 : decode cA_bitFlags 23 = .ok (.bipush 40, 2) := by decide +kernel
theorem dA_bitFlags_25 : decode cA_bitFlags 25 = .ok (.iand, 1) := by decide +kernel
theorem dA_bitFlags_26 : decode cA_bitFlags 26 = .ok (.ior, 1) := by decide +kernel
theorem dA_bitFlags_27 : decode cA_bitFlags 27 = .ok (.bipush 16, 2) := by decide +kernel
theorem dA_bitFlags_29 : decode cA_bitFlags 29 = .ok (.ior, 1) := by decide +kernel
theorem dA_bitFlags_30 : decode cA_bitFlags 30 = .ok (.iload_n 2, 1) := by decide +kernel
theorem dA_bitFlags_31 : decode cA_bitFlags 31 = .ok (.ior, 1) := by decide +kernel
theorem dA_bitFlags_32 : decode cA_bitFlags 32 = .ok (.ireturn, 1) := by decide +kernel
theorem dA_adjusted_0 : decode cA_adjusted 0 = .ok (.iload_n 1, 1) := by decide +kernel
theorem dA_adjusted_1 : decode cA_adjusted 1 = .ok (.bipush 16, 2) := by decide +kernel
theorem dA_adjusted_3 : decode cA_adjusted 3 = .ok (.iand, 1) := by decide +kernel
theorem dA_adjusted_4 : decode cA_adjusted 4 = .ok (.ifCond .ne 12, 3) := by decide +kernel
theorem dA_adjusted_7 : decode cA_adjusted 7 = .ok (.iload_n 0, 1) := by decide +kernel
theorem dA_adjusted_8 : decode cA_adjusted 8 = .ok (.bipush 15, 2) := by decide +kernel
theorem dA_adjusted_10 : decode cA_adjusted 10 = .ok (.iand, 1) := by decide +kernel
theorem dA_adjusted_11 : decode cA_adjusted 11 = .ok (.bipush 9, 2) := by decide +kernel
theorem dA_adjusted_13 : decode cA_adjusted 13 = .ok (.if_icmp .le 8, 3) := by decide +kernel
theorem dA_adjusted_16 : decode cA_adjusted 16 = .ok (.bipush 6, 2) := by decide +kernel
theorem dA_adjusted_18 : decode cA_adjusted 18 = .ok (.goto 4, 3) := by decide +kernel
theorem dA_adjusted_21 : decode cA_adjusted 21 = .ok (.iconst 0, 1) := by decide +kernel
theorem dA_adjusted_22 : decode cA_adjusted 22 = .ok (.istore_n 2, 1) := by decide +kernel
theorem dA_adjusted_23 : decode cA_adjusted 23 = .ok (.iload_n 1, 1) := by decide +kernel
theorem dA_adjusted_24 : decode cA_adjusted 24 = .ok (.iconst 1, 1) := by decide +kernel
theorem dA_adjusted_25 : decode cA_adjusted 25 = .ok (.iand, 1) := by decide +kernel
theorem dA_adjusted_26 : decode cA_adjusted 26 = .ok (.ifCond .ne 10, 3) := by decide +kernel
theorem dA_adjusted_29 : decode cA_adjusted 29 = .ok (.iload_n 0, 1) := by decide +kernel
theorem dA_adjusted_30 : decode cA_adjusted 30 = .ok (.sipush 153, 3) := by decide +kernel
theorem dA_adjusted_33 : decode cA_adjusted 33 = .ok (.if_icmp .le 7, 3) := by decide +kernel
theorem dA_adjusted_36 : decode cA_adjusted 36 = .ok (.iconst 1, 1) := by decide +kernel
theorem dA_adjusted_37 : decode cA_adjusted 37 = .ok (.goto 4, 3) := by decide +kernel
theorem dA_adjusted_40 : decode cA_adjusted 40 = .ok (.iconst 0, 1) := by decide +kernel
theorem dA_adjusted_41 : decode cA_adjusted 41 = .ok (.istore_n 3, 1) := by decide +kernel
theorem dA_adjusted_42 : decode cA_adjusted 42 = .ok (.iload_n 2, 1) := by decide +kernel
theorem dA_adjusted_43 : decode cA_adjusted 43 = .ok (.bipush 96, 2) := by decide +kernel
theorem dA_adjusted_45 : decode cA_adjusted 45 = .ok (.iload_n 3, 1) := by decide +kernel
theorem dA_adjusted_46 : decode cA_adjusted 46 = .ok (.imul, 1) := by decide +kernel
theorem dA_adjusted_47 : decode cA_adjusted 47 = .ok (.iadd, 1) := by decide +kernel
theorem dA_adjusted_48 : decode cA_adjusted 48 = .ok (.istore_n 2, 1) := by decide +kernel
theorem dA_adjusted_49 : decode cA_adjusted 49 = .ok (.iload_n 1, 1) := by decide +kernel
theorem dA_adjusted_50 : decode cA_adjusted 50 = .ok (.iconst 2, 1) := by decide +kernel
theorem dA_adjusted_51 : decode cA_adjusted 51 = .ok (.iand, 1) := by decide +kernel
theorem dA_adjusted_52 : decode cA_adjusted 52 = .ok (.ifCond .eq 9, 3) := by decide +kernel
theorem dA_adjusted_55 : decode cA_adjusted 55 = .ok (.iload_n 0, 1) := by decide +kernel
theorem dA_adjusted_56 : decode cA_adjusted 56 = .ok (.iload_n 2, 1) := by decide +kernel
theorem dA_adjusted_57 : decode cA_adjusted 57 = .ok (.isub, 1) := by decide +kernel
theorem dA_adjusted_58 : decode cA_adjusted 58 = .ok (.goto 6, 3) := by decide +kernel
theorem dA_adjusted_61 : decode cA_adjusted 61 = .ok (.iload_n 0, 1) := by decide +kernel
theorem dA_adjusted_62 : decode cA_adjusted 62 = .ok (.iload_n 2, 1) := by decide +kernel
theorem dA_adjusted_63 : decode cA_adjusted 63 = .ok (.iadd, 1) := by decide +kernel
theorem dA_adjusted_64 : decode cA_adjusted 64 = .ok (.sipush 255, 3) := by decide +kernel
theorem dA_adjusted_67 : decode cA_adjusted 67 = .ok (.iand, 1) := by decide +kernel
theorem dA_adjusted_68 : decode cA_adjusted 68 = .ok (.istore 4, 2) := by decide +kernel
theorem dA_adjusted_70 : decode cA_adjusted 70 = .ok (.iload 4, 2) := by decide +kernel
theorem dA_adjusted_72 : decode cA_adjusted 72 = .ok (.bipush 8, 2) := by decide +kernel
theorem dA_adjusted_74 : decode cA_adjusted 74 = .ok (.ishl, 1) := by decide +kernel
theorem dA_adjusted_75 : decode cA_adjusted 75 = .ok (.iload 4, 2) := by decide +kernel
theorem dA_adjusted_77 : decode cA_adjusted 77 = .ok (.invokestatic 22, 3) := by decide +kernel
theorem dA_adjusted_80 : decode cA_adjusted 80 = .ok (.ior, 1) := by decide +kernel
theorem dA_adjusted_81 : decode cA_adjusted 81 = .ok (.iload_n 0, 1) := by decide +kernel
theorem dA_adjusted_82 : decode cA_adjusted 82 = .ok (.iload 4, 2) := by decide +kernel
theorem dA_adjusted_84 : decode cA_adjusted 84 = .ok (.ixor, 1) := by decide +kernel
theorem dA_adjusted_85 : decode cA_adjusted 85 = .ok (.bipush 16, 2) := by decide +kernel
theorem dA_adjusted_87 : decode cA_adjusted 87 = .ok (.iand, 1) := by decide +kernel
theorem dA_adjusted_88 : decode cA_adjusted 88 = .ok (.ior, 1) := by decide +kernel
theorem dA_adjusted_89 : decode cA_adjusted 89 = .ok (.iload_n 1, 1) := by decide +kernel
theorem dA_adjusted_90 : decode cA_adjusted 90 = .ok (.iconst 2, 1) := by decide +kernel
theorem dA_adjusted_91 : decode cA_adjusted 91 = .ok (.iand, 1) := by decide +kernel
theorem dA_adjusted_92 : decode cA_adjusted 92 = .ok (.ior, 1) := by decide +kernel
theorem dA_adjusted_93 : decode cA_adjusted 93 = .ok (.iload_n 3, 1) := by decide +kernel
theorem dA_adjusted_94 : decode cA_adjusted 94 = .ok (.ior, 1) := by decide +kernel
theorem dA_adjusted_95 : decode cA_adjusted 95 = .ok (.ireturn, 1) := by decide +kernel
theorem dB_init_0 : decode cB_init 0 = .ok (.aload_n 0, 1) := by decide +kernel
theorem dB_init_1 : decode cB_init 1 = .ok (.invokespecial 1, 3) := by decide +kernel
theorem dB_init_4 : decode cB_init 4 = .ok (.aload_n 0, 1) := by decide +kernel
theorem dB_init_5 : decode cB_init 5 = .ok (.sipush 4096, 3) := by decide +kernel
theorem dB_init_8 : decode cB_init 8 = .ok (.newarray .int, 2) := by decide +kernel
theorem dB_init_10 : decode cB_init 10 = .ok (.putfield 9, 3) := by decide +kernel
theorem dB_init_13 : decode cB_init 13 = .ok (.aload_n 0, 1) := by decide +kernel
theorem dB_init_14 : decode cB_init 14 = .ok (.bipush 64, 2) := by decide +kernel
theorem dB_init_16 : decode cB_init 16 = .ok (.newarray .int, 2) := by decide +kernel
theorem dB_init_18 : decode cB_init 18 = .ok (.putfield 13, 3) := by decide +kernel
theorem dB_init_21 : decode cB_init 21 = .ok (.aload_n 0, 1) := by decide +kernel
theorem dB_init_22 : decode cB_init 22 = .ok (.new 16, 3) := by decide +kernel
theorem dB_init_25 : decode cB_init 25 = .ok (.dup, 1) := by decide +kernel
theorem dB_init_26 : decode cB_init 26 = .ok (.invokespecial 18, 3) := by decide +kernel
theorem dB_init_29 : decode cB_init 29 = .ok (.putfield 19, 3) := by decide +kernel
theorem dB_init_32 : decode cB_init 32 = .ok (.aload_n 0, 1) := by decide +kernel
theorem dB_init_33 : decode cB_init 33 = .ok (.new 23, 3) := by decide +kernel
theorem dB_init_36 : decode cB_init 36 = .ok (.dup, 1) := by decide +kernel
theorem dB_init_37 : decode cB_init 37 = .ok (.invokespecial 25, 3) := by decide +kernel
theorem dB_init_40 : decode cB_init 40 = .ok (.putfield 26, 3) := by decide +kernel
theorem dB_init_43 : decode cB_init 43 = .ok (.return_, 1) := by decide +kernel
theorem dB_byteAt_0 : decode cB_byteAt 0 = .ok (.aload_n 0, 1) := by decide +kernel
theorem dB_byteAt_1 : decode cB_byteAt 1 = .ok (.getfield 9, 3) := by decide +kernel
theorem dB_byteAt_4 : decode cB_byteAt 4 = .ok (.iload_n 1, 1) := by decide +kernel
theorem dB_byteAt_5 : decode cB_byteAt 5 = .ok (.sipush 4095, 3) := by decide +kernel
theorem dB_byteAt_8 : decode cB_byteAt 8 = .ok (.iand, 1) := by decide +kernel
theorem dB_byteAt_9 : decode cB_byteAt 9 = .ok (.iaload, 1) := by decide +kernel
theorem dB_byteAt_10 : decode cB_byteAt 10 = .ok (.ireturn, 1) := by decide +kernel
theorem dB_place_0 : decode cB_place 0 = .ok (.aload_n 0, 1) := by decide +kernel
theorem dB_place_1 : decode cB_place 1 = .ok (.getfield 9, 3) := by decide +kernel
theorem dB_place_4 : decode cB_place 4 = .ok (.iload_n 1, 1) := by decide +kernel
theorem dB_place_5 : decode cB_place 5 = .ok (.sipush 4095, 3) := by decide +kernel
theorem dB_place_8 : decode cB_place 8 = .ok (.iand, 1) := by decide +kernel
theorem dB_place_9 : decode cB_place 9 = .ok (.iload_n 2, 1) := by decide +kernel
theorem dB_place_10 : decode cB_place 10 = .ok (.sipush 255, 3) := by decide +kernel
theorem dB_place_13 : decode cB_place 13 = .ok (.iand, 1) := by decide +kernel
theorem dB_place_14 : decode cB_place 14 = .ok (.iastore, 1) := by decide +kernel
theorem dB_place_15 : decode cB_place 15 = .ok (.return_, 1) := by decide +kernel
theorem dB_frames_0 : decode cB_frames 0 = .ok (.aload_n 0, 1) := by decide +kernel
theorem dB_frames_1 : decode cB_frames 1 = .ok (.getfield 30, 3) := by decide +kernel
theorem dB_frames_4 : decode cB_frames 4 = .ok (.bipush 12, 2) := by decide +kernel
theorem dB_frames_6 : decode cB_frames 6 = .ok (.ishr, 1) := by decide +kernel
theorem dB_frames_7 : decode cB_frames 7 = .ok (.ireturn, 1) := by decide +kernel
theorem dB_tickOfFrame_0 : decode cB_tickOfFrame 0 = .ok (.aload_n 0, 1) := by decide +kernel
theorem dB_tickOfFrame_1 : decode cB_tickOfFrame 1 = .ok (.getfield 30, 3) := by decide +kernel
theorem dB_tickOfFrame_4 : decode cB_tickOfFrame 4 = .ok (.sipush 4095, 3) := by decide +kernel
theorem dB_tickOfFrame_7 : decode cB_tickOfFrame 7 = .ok (.iand, 1) := by decide +kernel
theorem dB_tickOfFrame_8 : decode cB_tickOfFrame 8 = .ok (.ireturn, 1) := by decide +kernel
theorem dB_pass_0 : decode cB_pass 0 = .ok (.aload_n 0, 1) := by decide +kernel
theorem dB_pass_1 : decode cB_pass 1 = .ok (.getfield 30, 3) := by decide +kernel
theorem dB_pass_4 : decode cB_pass 4 = .ok (.bipush 6, 2) := by decide +kernel
theorem dB_pass_6 : decode cB_pass 6 = .ok (.ishr, 1) := by decide +kernel
theorem dB_pass_7 : decode cB_pass 7 = .ok (.istore_n 2, 1) := by decide +kernel
theorem dB_pass_8 : decode cB_pass 8 = .ok (.aload_n 0, 1) := by decide +kernel
theorem dB_pass_9 : decode cB_pass 9 = .ok (.dup, 1) := by decide +kernel
theorem dB_pass_10 : decode cB_pass 10 = .ok (.getfield 30, 3) := by decide +kernel
theorem dB_pass_13 : decode cB_pass 13 = .ok (.iload_n 1, 1) := by decide +kernel
theorem dB_pass_14 : decode cB_pass 14 = .ok (.iadd, 1) := by decide +kernel
theorem dB_pass_15 : decode cB_pass 15 = .ok (.putfield 30, 3) := by decide +kernel
theorem dB_pass_18 : decode cB_pass 18 = .ok (.aload_n 0, 1) := by decide +kernel
theorem dB_pass_19 : decode cB_pass 19 = .ok (.getfield 30, 3) := by decide +kernel
theorem dB_pass_22 : decode cB_pass 22 = .ok (.bipush 6, 2) := by decide +kernel
theorem dB_pass_24 : decode cB_pass 24 = .ok (.ishr, 1) := by decide +kernel
theorem dB_pass_25 : decode cB_pass 25 = .ok (.iload_n 2, 1) := by decide +kernel
theorem dB_pass_26 : decode cB_pass 26 = .ok (.if_icmp .eq 22, 3) := by decide +kernel
theorem dB_pass_29 : decode cB_pass 29 = .ok (.aload_n 0, 1) := by decide +kernel
theorem dB_pass_30 : decode cB_pass 30 = .ok (.getfield 13, 3) := by decide +kernel
theorem dB_pass_33 : decode cB_pass 33 = .ok (.aload_n 0, 1) := by decide +kernel
theorem dB_pass_34 : decode cB_pass 34 = .ok (.getfield 30, 3) := by decide +kernel
theorem dB_pass_37 : decode cB_pass 37 = .ok (.bipush 6, 2) := by decide +kernel
theorem dB_pass_39 : decode cB_pass 39 = .ok (.ishr, 1) := by decide +kernel
theorem dB_pass_40 : decode cB_pass 40 = .ok (.bipush 63, 2) := by decide +kernel
theorem dB_pass_42 : decode cB_pass 42 = .ok (.iand, 1) := by decide +kernel
theorem dB_pass_43 : decode cB_pass 43 = .ok (.aload_n 0, 1) := by decide +kernel
theorem dB_pass_44 : decode cB_pass 44 = .ok (.getfield 34, 3) := by decide +kernel
theorem dB_pass_47 : decode cB_pass 47 = .ok (.iastore, 1) := by decide +kernel
theorem dB_pass_48 : decode cB_pass 48 = .ok (.return_, 1) := by decide +kernel
theorem dB_fetchAt_0 : decode cB_fetchAt 0 = .ok (.aload_n 0, 1) := by decide +kernel
theorem dB_fetchAt_1 : decode cB_fetchAt 1 = .ok (.aload_n 0, 1) := by decide +kernel
theorem dB_fetchAt_2 : decode cB_fetchAt 2 = .ok (.iload_n 1, 1) := by decide +kernel
theorem dB_fetchAt_3 : decode cB_fetchAt 3 = .ok (.invokestatic 37, 3) := by decide +kernel
theorem dB_fetchAt_6 : decode cB_fetchAt 6 = .ok (.invokevirtual 41, 3) := by decide +kernel
theorem dB_fetchAt_9 : decode cB_fetchAt 9 = .ok (.iconst 4, 1) := by decide +kernel
theorem dB_fetchAt_10 : decode cB_fetchAt 10 = .ok (.iadd, 1) := by decide +kernel
theorem dB_fetchAt_11 : decode cB_fetchAt 11 = .ok (.invokevirtual 45, 3) := by decide +kernel
theorem dB_fetchAt_14 : decode cB_fetchAt 14 = .ok (.aload_n 0, 1) := by decide +kernel
theorem dB_fetchAt_15 : decode cB_fetchAt 15 = .ok (.iload_n 1, 1) := by decide +kernel
theorem dB_fetchAt_16 : decode cB_fetchAt 16 = .ok (.invokevirtual 49, 3) := by decide +kernel
theorem dB_fetchAt_19 : decode cB_fetchAt 19 = .ok (.ireturn, 1) := by decide +kernel
theorem dB_read_0 : decode cB_read 0 = .ok (.aload_n 0, 1) := by decide +kernel
theorem dB_read_1 : decode cB_read 1 = .ok (.aload_n 0, 1) := by decide +kernel
theorem dB_read_2 : decode cB_read 2 = .ok (.iload_n 1, 1) := by decide +kernel
theorem dB_read_3 : decode cB_read 3 = .ok (.invokestatic 37, 3) := by decide +kernel
theorem dB_read_6 : decode cB_read 6 = .ok (.invokevirtual 41, 3) := by decide +kernel
theorem dB_read_9 : decode cB_read 9 = .ok (.iconst 3, 1) := by decide +kernel
theorem dB_read_10 : decode cB_read 10 = .ok (.iadd, 1) := by decide +kernel
theorem dB_read_11 : decode cB_read 11 = .ok (.invokevirtual 45, 3) := by decide +kernel
theorem dB_read_14 : decode cB_read 14 = .ok (.aload_n 0, 1) := by decide +kernel
theorem dB_read_15 : decode cB_read 15 = .ok (.iload_n 1, 1) := by decide +kernel
theorem dB_read_16 : decode cB_read 16 = .ok (.invokevirtual 49, 3) := by decide +kernel
theorem dB_read_19 : decode cB_read 19 = .ok (.ireturn, 1) := by decide +kernel
theorem dB_write_0 : decode cB_write 0 = .ok (.aload_n 0, 1) := by decide +kernel
theorem dB_write_1 : decode cB_write 1 = .ok (.aload_n 0, 1) := by decide +kernel
theorem dB_write_2 : decode cB_write 2 = .ok (.iload_n 1, 1) := by decide +kernel
theorem dB_write_3 : decode cB_write 3 = .ok (.invokestatic 37, 3) := by decide +kernel
theorem dB_write_6 : decode cB_write 6 = .ok (.invokevirtual 41, 3) := by decide +kernel
theorem dB_write_9 : decode cB_write 9 = .ok (.iconst 3, 1) := by decide +kernel
theorem dB_write_10 : decode cB_write 10 = .ok (.iadd, 1) := by decide +kernel
theorem dB_write_11 : decode cB_write 11 = .ok (.invokevirtual 45, 3) := by decide +kernel
theorem dB_write_14 : decode cB_write 14 = .ok (.iload_n 1, 1) := by decide +kernel
theorem dB_write_15 : decode cB_write 15 = .ok (.sipush 4095, 3) := by decide +kernel
theorem dB_write_18 : decode cB_write 18 = .ok (.iand, 1) := by decide +kernel
theorem dB_write_19 : decode cB_write 19 = .ok (.sipush 1024, 3) := by decide +kernel
theorem dB_write_22 : decode cB_write 22 = .ok (.if_icmp .lt 9, 3) := by decide +kernel
theorem dB_write_25 : decode cB_write 25 = .ok (.aload_n 0, 1) := by decide +kernel
theorem dB_write_26 : decode cB_write 26 = .ok (.iload_n 1, 1) := by decide +kernel
theorem dB_write_27 : decode cB_write 27 = .ok (.iload_n 2, 1) := by decide +kernel
theorem dB_write_28 : decode cB_write 28 = .ok (.invokevirtual 53, 3) := by decide +kernel
theorem dB_write_31 : decode cB_write 31 = .ok (.return_, 1) := by decide +kernel
theorem dB_readPort_0 : decode cB_readPort 0 = .ok (.iload_n 1, 1) := by decide +kernel
theorem dB_readPort_1 : decode cB_readPort 1 = .ok (.iconst 1, 1) := by decide +kernel
theorem dB_readPort_2 : decode cB_readPort 2 = .ok (.iand, 1) := by decide +kernel
theorem dB_readPort_3 : decode cB_readPort 3 = .ok (.iconst 1, 1) := by decide +kernel
theorem dB_readPort_4 : decode cB_readPort 4 = .ok (.if_icmp .ne 12, 3) := by decide +kernel
theorem dB_readPort_7 : decode cB_readPort 7 = .ok (.aload_n 0, 1) := by decide +kernel
theorem dB_readPort_8 : decode cB_readPort 8 = .ok (.iconst 4, 1) := by decide +kernel
theorem dB_readPort_9 : decode cB_readPort 9 = .ok (.invokevirtual 45, 3) := by decide +kernel
theorem dB_readPort_12 : decode cB_readPort 12 = .ok (.sipush 255, 3) := by decide +kernel
theorem dB_readPort_15 : decode cB_readPort 15 = .ok (.ireturn, 1) := by decide +kernel
theorem dB_readPort_16 : decode cB_readPort 16 = .ok (.aload_n 0, 1) := by decide +kernel
theorem dB_readPort_17 : decode cB_readPort 17 = .ok (.aload_n 0, 1) := by decide +kernel
theorem dB_readPort_18 : decode cB_readPort 18 = .ok (.iconst 1, 1) := by decide +kernel
theorem dB_readPort_19 : decode cB_readPort 19 = .ok (.invokevirtual 41, 3) := by decide +kernel
theorem dB_readPort_22 : decode cB_readPort 22 = .ok (.invokevirtual 45, 3) := by decide +kernel
theorem dB_readPort_25 : decode cB_readPort 25 = .ok (.aload_n 0, 1) := by decide +kernel
theorem dB_readPort_26 : decode cB_readPort 26 = .ok (.getfield 26, 3) := by decide +kernel
theorem dB_readPort_29 : decode cB_readPort 29 = .ok (.aload_n 0, 1) := by decide +kernel
theorem dB_readPort_30 : decode cB_readPort 30 = .ok (.getfield 30, 3) := by decide +kernel
theorem dB_readPort_33 : decode cB_readPort 33 = .ok (.invokevirtual 57, 3) := by decide +kernel
theorem dB_readPort_36 : decode cB_readPort 36 = .ok (.sipush 160, 3) := by decide +kernel
theorem dB_readPort_39 : decode cB_readPort 39 = .ok (.aload_n 0, 1) := by decide +kernel
theorem dB_readPort_40 : decode cB_readPort 40 = .ok (.getfield 26, 3) := by decide +kernel
theorem dB_readPort_43 : decode cB_readPort 43 = .ok (.invokevirtual 60, 3) := by decide +kernel
theorem dB_readPort_46 : decode cB_readPort 46 = .ok (.bipush 6, 2) := by decide +kernel
theorem dB_readPort_48 : decode cB_readPort 48 = .ok (.ishl, 1) := by decide +kernel
theorem dB_readPort_49 : decode cB_readPort 49 = .ok (.ior, 1) := by decide +kernel
theorem dB_readPort_50 : decode cB_readPort 50 = .ok (.aload_n 0, 1) := by decide +kernel
theorem dB_readPort_51 : decode cB_readPort 51 = .ok (.getfield 19, 3) := by decide +kernel
theorem dB_readPort_54 : decode cB_readPort 54 = .ok (.iload_n 1, 1) := by decide +kernel
theorem dB_readPort_55 : decode cB_readPort 55 = .ok (.invokevirtual 64, 3) := by decide +kernel
theorem dB_readPort_58 : decode cB_readPort 58 = .ok (.ior, 1) := by decide +kernel
theorem dB_readPort_59 : decode cB_readPort 59 = .ok (.istore_n 2, 1) := by decide +kernel
theorem dB_readPort_60 : decode cB_readPort 60 = .ok (.aload_n 0, 1) := by decide +kernel
theorem dB_readPort_61 : decode cB_readPort 61 = .ok (.iconst 4, 1) := by decide +kernel
theorem dB_readPort_62 : decode cB_readPort 62 = .ok (.invokevirtual 45, 3) := by decide +kernel
theorem dB_readPort_65 : decode cB_readPort 65 = .ok (.iload_n 2, 1) := by decide +kernel
theorem dB_readPort_66 : decode cB_readPort 66 = .ok (.ireturn, 1) := by decide +kernel
theorem dB_writePort_0 : decode cB_writePort 0 = .ok (.iload_n 1, 1) := by decide +kernel
theorem dB_writePort_1 : decode cB_writePort 1 = .ok (.iconst 1, 1) := by decide +kernel
theorem dB_writePort_2 : decode cB_writePort 2 = .ok (.iand, 1) := by decide +kernel
theorem dB_writePort_3 : decode cB_writePort 3 = .ok (.iconst 1, 1) := by decide +kernel
theorem dB_writePort_4 : decode cB_writePort 4 = .ok (.if_icmp .ne 9, 3) := by decide +kernel
theorem dB_writePort_7 : decode cB_writePort 7 = .ok (.aload_n 0, 1) := by decide +kernel
theorem dB_writePort_8 : decode cB_writePort 8 = .ok (.iconst 4, 1) := by decide +kernel
theorem dB_writePort_9 : decode cB_writePort 9 = .ok (.invokevirtual 45, 3) := by decide +kernel
theorem dB_writePort_12 : decode cB_writePort 12 = .ok (.return_, 1) := by decide +kernel
theorem dB_writePort_13 : decode cB_writePort 13 = .ok (.aload_n 0, 1) := by decide +kernel
theorem dB_writePort_14 : decode cB_writePort 14 = .ok (.aload_n 0, 1) := by decide +kernel
theorem dB_writePort_15 : decode cB_writePort 15 = .ok (.iconst 1, 1) := by decide +kernel
theorem dB_writePort_16 : decode cB_writePort 16 = .ok (.invokevirtual 41, 3) := by decide +kernel
theorem dB_writePort_19 : decode cB_writePort 19 = .ok (.iconst 4, 1) := by decide +kernel
theorem dB_writePort_20 : decode cB_writePort 20 = .ok (.iadd, 1) := by decide +kernel
theorem dB_writePort_21 : decode cB_writePort 21 = .ok (.iconst 1, 1) := by decide +kernel
theorem dB_writePort_22 : decode cB_writePort 22 = .ok (.isub, 1) := by decide +kernel
theorem dB_writePort_23 : decode cB_writePort 23 = .ok (.invokevirtual 45, 3) := by decide +kernel
theorem dB_writePort_26 : decode cB_writePort 26 = .ok (.aload_n 0, 1) := by decide +kernel
theorem dB_writePort_27 : decode cB_writePort 27 = .ok (.iload_n 2, 1) := by decide +kernel
theorem dB_writePort_28 : decode cB_writePort 28 = .ok (.bipush 7, 2) := by decide +kernel
theorem dB_writePort_30 : decode cB_writePort 30 = .ok (.iand, 1) := by decide +kernel
theorem dB_writePort_31 : decode cB_writePort 31 = .ok (.putfield 34, 3) := by decide +kernel
theorem dB_writePort_34 : decode cB_writePort 34 = .ok (.iload_n 2, 1) := by decide +kernel
theorem dB_writePort_35 : decode cB_writePort 35 = .ok (.iconst 4, 1) := by decide +kernel
theorem dB_writePort_36 : decode cB_writePort 36 = .ok (.ishr, 1) := by decide +kernel
theorem dB_writePort_37 : decode cB_writePort 37 = .ok (.iconst 1, 1) := by decide +kernel
theorem dB_writePort_38 : decode cB_writePort 38 = .ok (.iand, 1) := by decide +kernel
theorem dB_writePort_39 : decode cB_writePort 39 = .ok (.istore_n 3, 1) := by decide +kernel
theorem dB_writePort_40 : decode cB_writePort 40 = .ok (.iload_n 3, 1) := by decide +kernel
theorem dB_writePort_41 : decode cB_writePort 41 = .ok (.aload_n 0, 1) := by decide +kernel
theorem dB_writePort_42 : decode cB_writePort 42 = .ok (.getfield 67, 3) := by decide +kernel
theorem dB_writePort_45 : decode cB_writePort 45 = .ok (.if_icmp .eq 13, 3) := by decide +kernel
theorem dB_writePort_48 : decode cB_writePort 48 = .ok (.aload_n 0, 1) := by decide +kernel
theorem dB_writePort_49 : decode cB_writePort 49 = .ok (.dup, 1) := by decide +kernel
theorem dB_writePort_50 : decode cB_writePort 50 = .ok (.getfield 70, 3) := by decide +kernel
theorem dB_writePort_53 : decode cB_writePort 53 = .ok (.iconst 1, 1) := by decide +kernel
theorem dB_writePort_54 : decode cB_writePort 54 = .ok (.iadd, 1) := by decide +kernel
theorem dB_writePort_55 : decode cB_writePort 55 = .ok (.putfield 70, 3) := by decide +kernel
theorem dB_writePort_58 : decode cB_writePort 58 = .ok (.aload_n 0, 1) := by decide +kernel
theorem dB_writePort_59 : decode cB_writePort 59 = .ok (.iload_n 3, 1) := by decide +kernel
theorem dB_writePort_60 : decode cB_writePort 60 = .ok (.putfield 67, 3) := by decide +kernel
theorem dB_writePort_63 : decode cB_writePort 63 = .ok (.aload_n 0, 1) := by decide +kernel
theorem dB_writePort_64 : decode cB_writePort 64 = .ok (.iconst 1, 1) := by decide +kernel
theorem dB_writePort_65 : decode cB_writePort 65 = .ok (.invokevirtual 45, 3) := by decide +kernel
theorem dB_writePort_68 : decode cB_writePort 68 = .ok (.return_, 1) := by decide +kernel
theorem dB_isShared_0 : decode cB_isShared 0 = .ok (.iload_n 0, 1) := by decide +kernel
theorem dB_isShared_1 : decode cB_isShared 1 = .ok (.sipush 3072, 3) := by decide +kernel
theorem dB_isShared_4 : decode cB_isShared 4 = .ok (.iand, 1) := by decide +kernel
theorem dB_isShared_5 : decode cB_isShared 5 = .ok (.sipush 1024, 3) := by decide +kernel
theorem dB_isShared_8 : decode cB_isShared 8 = .ok (.if_icmp .ne 7, 3) := by decide +kernel
theorem dB_isShared_11 : decode cB_isShared 11 = .ok (.iconst 1, 1) := by decide +kernel
theorem dB_isShared_12 : decode cB_isShared 12 = .ok (.goto 4, 3) := by decide +kernel
theorem dB_isShared_15 : decode cB_isShared 15 = .ok (.iconst 0, 1) := by decide +kernel
theorem dB_isShared_16 : decode cB_isShared 16 = .ok (.ireturn, 1) := by decide +kernel
theorem dB_delay_0 : decode cB_delay 0 = .ok (.aload_n 0, 1) := by decide +kernel
theorem dB_delay_1 : decode cB_delay 1 = .ok (.getfield 30, 3) := by decide +kernel
theorem dB_delay_4 : decode cB_delay 4 = .ok (.bipush 6, 2) := by decide +kernel
theorem dB_delay_6 : decode cB_delay 6 = .ok (.ishr, 1) := by decide +kernel
theorem dB_delay_7 : decode cB_delay 7 = .ok (.bipush 63, 2) := by decide +kernel
theorem dB_delay_9 : decode cB_delay 9 = .ok (.iand, 1) := by decide +kernel
theorem dB_delay_10 : decode cB_delay 10 = .ok (.istore_n 2, 1) := by decide +kernel
theorem dB_delay_11 : decode cB_delay 11 = .ok (.iload_n 1, 1) := by decide +kernel
theorem dB_delay_12 : decode cB_delay 12 = .ok (.ifCond .eq 31, 3) := by decide +kernel
theorem dB_delay_15 : decode cB_delay 15 = .ok (.iload_n 2, 1) := by decide +kernel
theorem dB_delay_16 : decode cB_delay 16 = .ok (.bipush 16, 2) := by decide +kernel
theorem dB_delay_18 : decode cB_delay 18 = .ok (.if_icmp .lt 25, 3) := by decide +kernel
theorem dB_delay_21 : decode cB_delay 21 = .ok (.iload_n 2, 1) := by decide +kernel
theorem dB_delay_22 : decode cB_delay 22 = .ok (.bipush 47, 2) := by decide +kernel
theorem dB_delay_24 : decode cB_delay 24 = .ok (.if_icmp .gt 19, 3) := by decide +kernel
theorem dB_delay_27 : decode cB_delay 27 = .ok (.aload_n 0, 1) := by decide +kernel
theorem dB_delay_28 : decode cB_delay 28 = .ok (.getfield 30, 3) := by decide +kernel
theorem dB_delay_31 : decode cB_delay 31 = .ok (.bipush 63, 2) := by decide +kernel
theorem dB_delay_33 : decode cB_delay 33 = .ok (.iand, 1) := by decide +kernel
theorem dB_delay_34 : decode cB_delay 34 = .ok (.bipush 32, 2) := by decide +kernel
theorem dB_delay_36 : decode cB_delay 36 = .ok (.if_icmp .ge 7, 3) := by decide +kernel
theorem dB_delay_39 : decode cB_delay 39 = .ok (.iconst 1, 1) := by decide +kernel
theorem dB_delay_40 : decode cB_delay 40 = .ok (.goto 4, 3) := by decide +kernel
theorem dB_delay_43 : decode cB_delay 43 = .ok (.iconst 0, 1) := by decide +kernel
theorem dB_delay_44 : decode cB_delay 44 = .ok (.istore_n 3, 1) := by decide +kernel
theorem dB_delay_45 : decode cB_delay 45 = .ok (.iload_n 3, 1) := by decide +kernel
theorem dB_delay_46 : decode cB_delay 46 = .ok (.ifCond .eq 28, 3) := by decide +kernel
theorem dB_delay_49 : decode cB_delay 49 = .ok (.aload_n 0, 1) := by decide +kernel
theorem dB_delay_50 : decode cB_delay 50 = .ok (.getfield 30, 3) := by decide +kernel
theorem dB_delay_53 : decode cB_delay 53 = .ok (.bipush 7, 2) := by decide +kernel
theorem dB_delay_55 : decode cB_delay 55 = .ok (.iand, 1) := by decide +kernel
theorem dB_delay_56 : decode cB_delay 56 = .ok (.bipush 6, 2) := by decide +kernel
theorem dB_delay_58 : decode cB_delay 58 = .ok (.if_icmp .ge 16, 3) := by decide +kernel
theorem dB_delay_61 : decode cB_delay 61 = .ok (.bipush 6, 2) := by decide +kernel
theorem dB_delay_63 : decode cB_delay 63 = .ok (.aload_n 0, 1) := by decide +kernel
theorem dB_delay_64 : decode cB_delay 64 = .ok (.getfield 30, 3) := by decide +kernel
theorem dB_delay_67 : decode cB_delay 67 = .ok (.bipush 7, 2) := by decide +kernel
theorem dB_delay_69 : decode cB_delay 69 = .ok (.iand, 1) := by decide +kernel
theorem dB_delay_70 : decode cB_delay 70 = .ok (.isub, 1) := by decide +kernel
theorem dB_delay_71 : decode cB_delay 71 = .ok (.goto 4, 3) := by decide +kernel
theorem dB_delay_74 : decode cB_delay 74 = .ok (.iconst 0, 1) := by decide +kernel
theorem dB_delay_75 : decode cB_delay 75 = .ok (.ireturn, 1) := by decide +kernel
theorem dK_init_0 : decode cK_init 0 = .ok (.aload_n 0, 1) := by decide +kernel
theorem dK_init_1 : decode cK_init 1 = .ok (.invokespecial 1, 3) := by decide +kernel
theorem dK_init_4 : decode cK_init 4 = .ok (.aload_n 0, 1) := by decide +kernel
theorem dK_init_5 : decode cK_init 5 = .ok (.bipush 8, 2) := by decide +kernel
theorem dK_init_7 : decode cK_init 7 = .ok (.newarray .int, 2) := by decide +kernel
theorem dK_init_9 : decode cK_init 9 = .ok (.putfield 9, 3) := by decide +kernel
theorem dK_init_12 : decode cK_init 12 = .ok (.return_, 1) := by decide +kernel
theorem dK_move_0 : decode cK_move 0 = .ok (.iload_n 1, 1) := by decide +kernel
theorem dK_move_1 : decode cK_move 1 = .ok (.ifCond .lt 18, 3) := by decide +kernel
theorem dK_move_4 : decode cK_move 4 = .ok (.iload_n 1, 1) := by decide +kernel
theorem dK_move_5 : decode cK_move 5 = .ok (.bipush 8, 2) := by decide +kernel
theorem dK_move_7 : decode cK_move 7 = .ok (.if_icmp .ge 12, 3) := by decide +kernel
theorem dK_move_10 : decode cK_move 10 = .ok (.iload_n 2, 1) := by decide +kernel
theorem dK_move_11 : decode cK_move 11 = .ok (.ifCond .lt 8, 3) := by decide +kernel
theorem dK_move_14 : decode cK_move 14 = .ok (.iload_n 2, 1) := by decide +kernel
theorem dK_move_15 : decode cK_move 15 = .ok (.iconst 5, 1) := by decide +kernel
theorem dK_move_16 : decode cK_move 16 = .ok (.if_icmp .lt 5, 3) := by decide +kernel
theorem dK_move_19 : decode cK_move 19 = .ok (.iconst 0, 1) := by decide +kernel
theorem dK_move_20 : decode cK_move 20 = .ok (.ireturn, 1) := by decide +kernel
theorem dK_move_21 : decode cK_move 21 = .ok (.iconst 1, 1) := by decide +kernel
theorem dK_move_22 : decode cK_move 22 = .ok (.iload_n 2, 1) := by decide +kernel
theorem dK_move_23 : decode cK_move 23 = .ok (.ishl, 1) := by decide +kernel
theorem dK_move_24 : decode cK_move 24 = .ok (.istore 4, 2) := by decide +kernel
theorem dK_move_26 : decode cK_move 26 = .ok (.aload_n 0, 1) := by decide +kernel
theorem dK_move_27 : decode cK_move 27 = .ok (.getfield 9, 3) := by decide +kernel
theorem dK_move_30 : decode cK_move 30 = .ok (.iload_n 1, 1) := by decide +kernel
theorem dK_move_31 : decode cK_move 31 = .ok (.iload_n 3, 1) := by decide +kernel
theorem dK_move_32 : decode cK_move 32 = .ok (.ifCond .eq 15, 3) := by decide +kernel
theorem dK_move_35 : decode cK_move 35 = .ok (.aload_n 0, 1) := by decide +kernel
theorem dK_move_36 : decode cK_move 36 = .ok (.getfield 9, 3) := by decide +kernel
theorem dK_move_39 : decode cK_move 39 = .ok (.iload_n 1, 1) := by decide +kernel
theorem dK_move_40 : decode cK_move 40 = .ok (.iaload, 1) := by decide +kernel
theorem dK_move_41 : decode cK_move 41 = .ok (.iload 4, 2) := by decide +kernel
theorem dK_move_43 : decode cK_move 43 = .ok (.ior, 1) := by decide +kernel
theorem dK_move_44 : decode cK_move 44 = .ok (.goto 14, 3) := by decide +kernel
theorem dK_move_47 : decode cK_move 47 = .ok (.aload_n 0, 1) := by decide +kernel
theorem dK_move_48 : decode cK_move 48 = .ok (.getfield 9, 3) := by decide +kernel
theorem dK_move_51 : decode cK_move 51 = .ok (.iload_n 1, 1) := by decide +kernel
theorem dK_move_52 : decode cK_move 52 = .ok (.iaload, 1) := by decide +kernel
theorem dK_move_53 : decode cK_move 53 = .ok (.iload 4, 2) := by decide +kernel
theorem dK_move_55 : decode cK_move 55 = .ok (.iconst (-1), 1) := by decide +kernel
theorem dK_move_56 : decode cK_move 56 = .ok (.ixor, 1) := by decide +kernel
theorem dK_move_57 : decode cK_move 57 = .ok (.iand, 1) := by decide +kernel
theorem dK_move_58 : decode cK_move 58 = .ok (.iastore, 1) := by decide +kernel
theorem dK_move_59 : decode cK_move 59 = .ok (.iconst 1, 1) := by decide +kernel
theorem dK_move_60 : decode cK_move 60 = .ok (.ireturn, 1) := by decide +kernel
theorem dK_upIn_0 : decode cK_upIn 0 = .ok (.iconst 0, 1) := by decide +kernel
theorem dK_upIn_1 : decode cK_upIn 1 = .ok (.istore_n 2, 1) := by decide +kernel
theorem dK_upIn_2 : decode cK_upIn 2 = .ok (.iconst 0, 1) := by decide +kernel
theorem dK_upIn_3 : decode cK_upIn 3 = .ok (.istore_n 3, 1) := by decide +kernel
theorem dK_upIn_4 : decode cK_upIn 4 = .ok (.iload_n 3, 1) := by decide +kernel
theorem dK_upIn_5 : decode cK_upIn 5 = .ok (.bipush 8, 2) := by decide +kernel
theorem dK_upIn_7 : decode cK_upIn 7 = .ok (.if_icmp .ge 28, 3) := by decide +kernel
theorem dK_upIn_10 : decode cK_upIn 10 = .ok (.iload_n 1, 1) := by decide +kernel
theorem dK_upIn_11 : decode cK_upIn 11 = .ok (.sipush 256, 3) := by decide +kernel
theorem dK_upIn_14 : decode cK_upIn 14 = .ok (.iload_n 3, 1) := by decide +kernel
theorem dK_upIn_15 : decode cK_upIn 15 = .ok (.ishl, 1) := by decide +kernel
theorem dK_upIn_16 : decode cK_upIn 16 = .ok (.iand, 1) := by decide +kernel
theorem dK_upIn_17 : decode cK_upIn 17 = .ok (.ifCond .ne 12, 3) := by decide +kernel
theorem dK_upIn_20 : decode cK_upIn 20 = .ok (.iload_n 2, 1) := by decide +kernel
end
section
theorem dK_upIn_21 : decode cK_upIn 21 = .ok (.aload_n 0, 1) := by decide +kernel
theorem dK_upIn_22 : decode cK_upIn 22 = .ok (.getfield 9, 3) := by decide +kernel
theorem dK_upIn_25 : decode cK_upIn 25 = .ok (.iload_n 3, 1) := by decide +kernel
theorem dK_upIn_26 : decode cK_upIn 26 = .ok (.iaload, 1) := by decide +kernel
theorem dK_upIn_27 : decode cK_upIn 27 = .ok (.ior, 1) := by decide +kernel
theorem dK_upIn_28 : decode cK_upIn 28 = .ok (.istore_n 2, 1) := by decide +kernel
theorem dK_upIn_29 : decode cK_upIn 29 = .ok (.iinc 3 1, 3) := by decide +kernel
theorem dK_upIn_32 : decode cK_upIn 32 = .ok (.goto (-28), 3) := by decide +kernel
theorem dK_upIn_35 : decode cK_upIn 35 = .ok (.bipush 31, 2) := by decide +kernel
theorem dK_upIn_37 : decode cK_upIn 37 = .ok (.iload_n 2, 1) := by decide +kernel
theorem dK_upIn_38 : decode cK_upIn 38 = .ok (.iconst (-1), 1) := by decide +kernel
theorem dK_upIn_39 : decode cK_upIn 39 = .ok (.ixor, 1) := by decide +kernel
theorem dK_upIn_40 : decode cK_upIn 40 = .ok (.iand, 1) := by decide +kernel
theorem dK_upIn_41 : decode cK_upIn 41 = .ok (.ireturn, 1) := by decide +kernel
theorem dP_init_0 : decode cP_init 0 = .ok (.aload_n 0, 1) := by decide +kernel
theorem dP_init_1 : decode cP_init 1 = .ok (.invokespecial 1, 3) := by decide +kernel
theorem dP_init_4 : decode cP_init 4 = .ok (.aload_n 0, 1) := by decide +kernel
theorem dP_init_5 : decode cP_init 5 = .ok (.new 7, 3) := by decide +kernel
theorem dP_init_8 : decode cP_init 8 = .ok (.dup, 1) := by decide +kernel
theorem dP_init_9 : decode cP_init 9 = .ok (.invokespecial 9, 3) := by decide +kernel
theorem dP_init_12 : decode cP_init 12 = .ok (.putfield 10, 3) := by decide +kernel
theorem dP_init_15 : decode cP_init 15 = .ok (.aload_n 0, 1) := by decide +kernel
theorem dP_init_16 : decode cP_init 16 = .ok (.aload_n 0, 1) := by decide +kernel
theorem dP_init_17 : decode cP_init 17 = .ok (.getfield 10, 3) := by decide +kernel
theorem dP_init_20 : decode cP_init 20 = .ok (.getfield 16, 3) := by decide +kernel
theorem dP_init_23 : decode cP_init 23 = .ok (.putfield 20, 3) := by decide +kernel
theorem dP_init_26 : decode cP_init 26 = .ok (.aload_n 0, 1) := by decide +kernel
theorem dP_init_27 : decode cP_init 27 = .ok (.aload_n 1, 1) := by decide +kernel
theorem dP_init_28 : decode cP_init 28 = .ok (.putfield 21, 3) := by decide +kernel
theorem dP_init_31 : decode cP_init 31 = .ok (.return_, 1) := by decide +kernel
theorem dP_next_0 : decode cP_next 0 = .ok (.aload_n 0, 1) := by decide +kernel
theorem dP_next_1 : decode cP_next 1 = .ok (.getfield 25, 3) := by decide +kernel
theorem dP_next_4 : decode cP_next 4 = .ok (.ifCond .ne 18, 3) := by decide +kernel
theorem dP_next_7 : decode cP_next 7 = .ok (.aload_n 0, 1) := by decide +kernel
theorem dP_next_8 : decode cP_next 8 = .ok (.getfield 20, 3) := by decide +kernel
theorem dP_next_11 : decode cP_next 11 = .ok (.bipush 22, 2) := by decide +kernel
theorem dP_next_13 : decode cP_next 13 = .ok (.iaload, 1) := by decide +kernel
theorem dP_next_14 : decode cP_next 14 = .ok (.iconst 1, 1) := by decide +kernel
theorem dP_next_15 : decode cP_next 15 = .ok (.if_icmp .ne 7, 3) := by decide +kernel
theorem dP_next_18 : decode cP_next 18 = .ok (.iconst 1, 1) := by decide +kernel
theorem dP_next_19 : decode cP_next 19 = .ok (.goto 4, 3) := by decide +kernel
theorem dP_next_22 : decode cP_next 22 = .ok (.iconst 0, 1) := by decide +kernel
theorem dP_next_23 : decode cP_next 23 = .ok (.istore_n 1, 1) := by decide +kernel
theorem dP_next_24 : decode cP_next 24 = .ok (.aload_n 0, 1) := by decide +kernel
theorem dP_next_25 : decode cP_next 25 = .ok (.iconst 0, 1) := by decide +kernel
theorem dP_next_26 : decode cP_next 26 = .ok (.putfield 25, 3) := by decide +kernel
theorem dP_next_29 : decode cP_next 29 = .ok (.aload_n 0, 1) := by decide +kernel
theorem dP_next_30 : decode cP_next 30 = .ok (.getfield 10, 3) := by decide +kernel
theorem dP_next_33 : decode cP_next 33 = .ok (.bipush 6, 2) := by decide +kernel
theorem dP_next_35 : decode cP_next 35 = .ok (.putfield 29, 3) := by decide +kernel
theorem dP_next_38 : decode cP_next 38 = .ok (.iload_n 1, 1) := by decide +kernel
theorem dP_next_39 : decode cP_next 39 = .ok (.ifCond .eq 20, 3) := by decide +kernel
theorem dP_next_42 : decode cP_next 42 = .ok (.aload_n 0, 1) := by decide +kernel
theorem dP_next_43 : decode cP_next 43 = .ok (.getfield 21, 3) := by decide +kernel
theorem dP_next_46 : decode cP_next 46 = .ok (.invokevirtual 33, 3) := by decide +kernel
theorem dP_next_49 : decode cP_next 49 = .ok (.bipush 32, 2) := by decide +kernel
theorem dP_next_51 : decode cP_next 51 = .ok (.if_icmp .ge 8, 3) := by decide +kernel
theorem dP_next_54 : decode cP_next 54 = .ok (.aload_n 0, 1) := by decide +kernel
theorem dP_next_55 : decode cP_next 55 = .ok (.invokevirtual 39, 3) := by decide +kernel
theorem dP_next_58 : decode cP_next 58 = .ok (.return_, 1) := by decide +kernel
theorem dP_next_59 : decode cP_next 59 = .ok (.aload_n 0, 1) := by decide +kernel
theorem dP_next_60 : decode cP_next 60 = .ok (.getfield 20, 3) := by decide +kernel
theorem dP_next_63 : decode cP_next 63 = .ok (.bipush 25, 2) := by decide +kernel
theorem dP_next_65 : decode cP_next 65 = .ok (.iaload, 1) := by decide +kernel
theorem dP_next_66 : decode cP_next 66 = .ok (.iconst 1, 1) := by decide +kernel
theorem dP_next_67 : decode cP_next 67 = .ok (.if_icmp .ne 23, 3) := by decide +kernel
theorem dP_next_70 : decode cP_next 70 = .ok (.aload_n 0, 1) := by decide +kernel
theorem dP_next_71 : decode cP_next 71 = .ok (.getfield 21, 3) := by decide +kernel
theorem dP_next_74 : decode cP_next 74 = .ok (.aload_n 0, 1) := by decide +kernel
theorem dP_next_75 : decode cP_next 75 = .ok (.getfield 20, 3) := by decide +kernel
theorem dP_next_78 : decode cP_next 78 = .ok (.bipush 21, 2) := by decide +kernel
theorem dP_next_80 : decode cP_next 80 = .ok (.iaload, 1) := by decide +kernel
theorem dP_next_81 : decode cP_next 81 = .ok (.invokevirtual 42, 3) := by decide +kernel
theorem dP_next_84 : decode cP_next 84 = .ok (.pop, 1) := by decide +kernel
theorem dP_next_85 : decode cP_next 85 = .ok (.aload_n 0, 1) := by decide +kernel
theorem dP_next_86 : decode cP_next 86 = .ok (.invokevirtual 46, 3) := by decide +kernel
theorem dP_next_89 : decode cP_next 89 = .ok (.return_, 1) := by decide +kernel
theorem dP_next_90 : decode cP_next 90 = .ok (.aload_n 0, 1) := by decide +kernel
theorem dP_next_91 : decode cP_next 91 = .ok (.invokevirtual 49, 3) := by decide +kernel
theorem dP_next_94 : decode cP_next 94 = .ok (.istore_n 2, 1) := by decide +kernel
theorem dP_next_95 : decode cP_next 95 = .ok (.iload_n 2, 1) := by decide +kernel
theorem dP_next_96 : decode cP_next 96 = .ok (.invokestatic 52, 3) := by decide +kernel
theorem dP_next_99 : decode cP_next 99 = .ok (.ifCond .eq 4, 3) := by decide +kernel
theorem dP_next_102 : decode cP_next 102 = .ok (.return_, 1) := by decide +kernel
theorem dP_next_103 : decode cP_next 103 = .ok (.iload_n 2, 1) := by decide +kernel
theorem dP_next_104 : decode cP_next 104 = .ok (.invokestatic 56, 3) := by decide +kernel
theorem dP_next_107 : decode cP_next 107 = .ok (.ifCond .eq 7, 3) := by decide +kernel
theorem dP_next_110 : decode cP_next 110 = .ok (.aload_n 0, 1) := by decide +kernel
theorem dP_next_111 : decode cP_next 111 = .ok (.invokevirtual 59, 3) := by decide +kernel
theorem dP_next_114 : decode cP_next 114 = .ok (.iload_n 2, 1) := by decide +kernel
theorem dP_next_115 : decode cP_next 115 = .ok (.iconst 3, 1) := by decide +kernel
theorem dP_next_116 : decode cP_next 116 = .ok (.ishr, 1) := by decide +kernel
theorem dP_next_117 : decode cP_next 117 = .ok (.bipush 7, 2) := by decide +kernel
theorem dP_next_119 : decode cP_next 119 = .ok (.iand, 1) := by decide +kernel
theorem dP_next_120 : decode cP_next 120 = .ok (.istore_n 3, 1) := by decide +kernel
theorem dP_next_121 : decode cP_next 121 = .ok (.iload_n 2, 1) := by decide +kernel
theorem dP_next_122 : decode cP_next 122 = .ok (.bipush 7, 2) := by decide +kernel
theorem dP_next_124 : decode cP_next 124 = .ok (.iand, 1) := by decide +kernel
theorem dP_next_125 : decode cP_next 125 = .ok (.istore 4, 2) := by decide +kernel
theorem dP_next_127 : decode cP_next 127 = .ok (.iload_n 2, 1) := by decide +kernel
theorem dP_next_128 : decode cP_next 128 = .ok (.sipush 203, 3) := by decide +kernel
theorem dP_next_131 : decode cP_next 131 = .ok (.if_icmp .ne 10, 3) := by decide +kernel
theorem dP_next_134 : decode cP_next 134 = .ok (.aload_n 0, 1) := by decide +kernel
theorem dP_next_135 : decode cP_next 135 = .ok (.invokevirtual 62, 3) := by decide +kernel
theorem dP_next_138 : decode cP_next 138 = .ok (.goto 154, 3) := by decide +kernel
theorem dP_next_141 : decode cP_next 141 = .ok (.iload_n 2, 1) := by decide +kernel
theorem dP_next_142 : decode cP_next 142 = .ok (.sipush 237, 3) := by decide +kernel
theorem dP_next_145 : decode cP_next 145 = .ok (.if_icmp .ne 23, 3) := by decide +kernel
theorem dP_next_148 : decode cP_next 148 = .ok (.aload_n 0, 1) := by decide +kernel
theorem dP_next_149 : decode cP_next 149 = .ok (.getfield 10, 3) := by decide +kernel
theorem dP_next_152 : decode cP_next 152 = .ok (.bipush 6, 2) := by decide +kernel
theorem dP_next_154 : decode cP_next 154 = .ok (.putfield 29, 3) := by decide +kernel
theorem dP_next_157 : decode cP_next 157 = .ok (.aload_n 0, 1) := by decide +kernel
theorem dP_next_158 : decode cP_next 158 = .ok (.aload_n 0, 1) := by decide +kernel
theorem dP_next_159 : decode cP_next 159 = .ok (.invokevirtual 65, 3) := by decide +kernel
theorem dP_next_162 : decode cP_next 162 = .ok (.invokevirtual 68, 3) := by decide +kernel
theorem dP_next_165 : decode cP_next 165 = .ok (.goto 127, 3) := by decide +kernel
theorem dP_next_168 : decode cP_next 168 = .ok (.iload_n 2, 1) := by decide +kernel
theorem dP_next_169 : decode cP_next 169 = .ok (.bipush 118, 2) := by decide +kernel
theorem dP_next_171 : decode cP_next 171 = .ok (.if_icmp .ne 14, 3) := by decide +kernel
theorem dP_next_174 : decode cP_next 174 = .ok (.aload_n 0, 1) := by decide +kernel
theorem dP_next_175 : decode cP_next 175 = .ok (.getfield 20, 3) := by decide +kernel
theorem dP_next_178 : decode cP_next 178 = .ok (.bipush 25, 2) := by decide +kernel
theorem dP_next_180 : decode cP_next 180 = .ok (.iconst 1, 1) := by decide +kernel
theorem dP_next_181 : decode cP_next 181 = .ok (.iastore, 1) := by decide +kernel
theorem dP_next_182 : decode cP_next 182 = .ok (.goto 110, 3) := by decide +kernel
theorem dP_next_185 : decode cP_next 185 = .ok (.iload_n 2, 1) := by decide +kernel
theorem dP_next_186 : decode cP_next 186 = .ok (.bipush 64, 2) := by decide +kernel
theorem dP_next_188 : decode cP_next 188 = .ok (.if_icmp .ge 13, 3) := by decide +kernel
theorem dP_next_191 : decode cP_next 191 = .ok (.aload_n 0, 1) := by decide +kernel
theorem dP_next_192 : decode cP_next 192 = .ok (.iload_n 3, 1) := by decide +kernel
theorem dP_next_193 : decode cP_next 193 = .ok (.iload 4, 2) := by decide +kernel
theorem dP_next_195 : decode cP_next 195 = .ok (.invokevirtual 72, 3) := by decide +kernel
theorem dP_next_198 : decode cP_next 198 = .ok (.goto 94, 3) := by decide +kernel
theorem dP_next_201 : decode cP_next 201 = .ok (.iload_n 2, 1) := by decide +kernel
theorem dP_next_202 : decode cP_next 202 = .ok (.sipush 128, 3) := by decide +kernel
theorem dP_next_205 : decode cP_next 205 = .ok (.if_icmp .ge 17, 3) := by decide +kernel
theorem dP_next_208 : decode cP_next 208 = .ok (.aload_n 0, 1) := by decide +kernel
theorem dP_next_209 : decode cP_next 209 = .ok (.iload_n 3, 1) := by decide +kernel
theorem dP_next_210 : decode cP_next 210 = .ok (.aload_n 0, 1) := by decide +kernel
theorem dP_next_211 : decode cP_next 211 = .ok (.iload 4, 2) := by decide +kernel
theorem dP_next_213 : decode cP_next 213 = .ok (.invokevirtual 76, 3) := by decide +kernel
theorem dP_next_216 : decode cP_next 216 = .ok (.invokevirtual 79, 3) := by decide +kernel
theorem dP_next_219 : decode cP_next 219 = .ok (.goto 73, 3) := by decide +kernel
theorem dP_next_222 : decode cP_next 222 = .ok (.iload_n 2, 1) := by decide +kernel
theorem dP_next_223 : decode cP_next 223 = .ok (.sipush 192, 3) := by decide +kernel
theorem dP_next_226 : decode cP_next 226 = .ok (.if_icmp .ge 17, 3) := by decide +kernel
theorem dP_next_229 : decode cP_next 229 = .ok (.aload_n 0, 1) := by decide +kernel
theorem dP_next_230 : decode cP_next 230 = .ok (.iload_n 3, 1) := by decide +kernel
theorem dP_next_231 : decode cP_next 231 = .ok (.aload_n 0, 1) := by decide +kernel
theorem dP_next_232 : decode cP_next 232 = .ok (.iload 4, 2) := by decide +kernel
theorem dP_next_234 : decode cP_next 234 = .ok (.invokevirtual 76, 3) := by decide +kernel
theorem dP_next_237 : decode cP_next 237 = .ok (.invokevirtual 82, 3) := by decide +kernel
theorem dP_next_240 : decode cP_next 240 = .ok (.goto 52, 3) := by decide +kernel
theorem dP_next_243 : decode cP_next 243 = .ok (.iload 4, 2) := by decide +kernel
theorem dP_next_245 : decode cP_next 245 = .ok (.iconst 1, 1) := by decide +kernel
theorem dP_next_246 : decode cP_next 246 = .ok (.if_icmp .ne 11, 3) := by decide +kernel
theorem dP_next_249 : decode cP_next 249 = .ok (.aload_n 0, 1) := by decide +kernel
theorem dP_next_250 : decode cP_next 250 = .ok (.iload_n 3, 1) := by decide +kernel
theorem dP_next_251 : decode cP_next 251 = .ok (.invokevirtual 85, 3) := by decide +kernel
theorem dP_next_254 : decode cP_next 254 = .ok (.goto 38, 3) := by decide +kernel
theorem dP_next_257 : decode cP_next 257 = .ok (.iload 4, 2) := by decide +kernel
theorem dP_next_259 : decode cP_next 259 = .ok (.iconst 3, 1) := by decide +kernel
theorem dP_next_260 : decode cP_next 260 = .ok (.if_icmp .ne 11, 3) := by decide +kernel
theorem dP_next_263 : decode cP_next 263 = .ok (.aload_n 0, 1) := by decide +kernel
theorem dP_next_264 : decode cP_next 264 = .ok (.iload_n 3, 1) := by decide +kernel
theorem dP_next_265 : decode cP_next 265 = .ok (.invokevirtual 88, 3) := by decide +kernel
theorem dP_next_268 : decode cP_next 268 = .ok (.goto 24, 3) := by decide +kernel
theorem dP_next_271 : decode cP_next 271 = .ok (.iload 4, 2) := by decide +kernel
theorem dP_next_273 : decode cP_next 273 = .ok (.iconst 5, 1) := by decide +kernel
theorem dP_next_274 : decode cP_next 274 = .ok (.if_icmp .ne 11, 3) := by decide +kernel
theorem dP_next_277 : decode cP_next 277 = .ok (.aload_n 0, 1) := by decide +kernel
theorem dP_next_278 : decode cP_next 278 = .ok (.iload_n 3, 1) := by decide +kernel
theorem dP_next_279 : decode cP_next 279 = .ok (.invokevirtual 91, 3) := by decide +kernel
theorem dP_next_282 : decode cP_next 282 = .ok (.goto 10, 3) := by decide +kernel
theorem dP_next_285 : decode cP_next 285 = .ok (.aload_n 0, 1) := by decide +kernel
theorem dP_next_286 : decode cP_next 286 = .ok (.iload_n 3, 1) := by decide +kernel
theorem dP_next_287 : decode cP_next 287 = .ok (.iload 4, 2) := by decide +kernel
theorem dP_next_289 : decode cP_next 289 = .ok (.invokevirtual 94, 3) := by decide +kernel
theorem dP_next_292 : decode cP_next 292 = .ok (.return_, 1) := by decide +kernel
theorem dP_takeInterrupt_0 : decode cP_takeInterrupt 0 = .ok (.aload_n 0, 1) := by decide +kernel
theorem dP_takeInterrupt_1 : decode cP_takeInterrupt 1 = .ok (.getfield 20, 3) := by decide +kernel
theorem dP_takeInterrupt_4 : decode cP_takeInterrupt 4 = .ok (.bipush 25, 2) := by decide +kernel
theorem dP_takeInterrupt_6 : decode cP_takeInterrupt 6 = .ok (.iconst 0, 1) := by decide +kernel
theorem dP_takeInterrupt_7 : decode cP_takeInterrupt 7 = .ok (.iastore, 1) := by decide +kernel
theorem dP_takeInterrupt_8 : decode cP_takeInterrupt 8 = .ok (.aload_n 0, 1) := by decide +kernel
theorem dP_takeInterrupt_9 : decode cP_takeInterrupt 9 = .ok (.getfield 20, 3) := by decide +kernel
theorem dP_takeInterrupt_12 : decode cP_takeInterrupt 12 = .ok (.bipush 22, 2) := by decide +kernel
theorem dP_takeInterrupt_14 : decode cP_takeInterrupt 14 = .ok (.iconst 0, 1) := by decide +kernel
theorem dP_takeInterrupt_15 : decode cP_takeInterrupt 15 = .ok (.iastore, 1) := by decide +kernel
theorem dP_takeInterrupt_16 : decode cP_takeInterrupt 16 = .ok (.aload_n 0, 1) := by decide +kernel
theorem dP_takeInterrupt_17 : decode cP_takeInterrupt 17 = .ok (.getfield 20, 3) := by decide +kernel
theorem dP_takeInterrupt_20 : decode cP_takeInterrupt 20 = .ok (.bipush 23, 2) := by decide +kernel
theorem dP_takeInterrupt_22 : decode cP_takeInterrupt 22 = .ok (.iconst 0, 1) := by decide +kernel
theorem dP_takeInterrupt_23 : decode cP_takeInterrupt 23 = .ok (.iastore, 1) := by decide +kernel
theorem dP_takeInterrupt_24 : decode cP_takeInterrupt 24 = .ok (.aload_n 0, 1) := by decide +kernel
theorem dP_takeInterrupt_25 : decode cP_takeInterrupt 25 = .ok (.invokevirtual 46, 3) := by decide +kernel
theorem dP_takeInterrupt_28 : decode cP_takeInterrupt 28 = .ok (.aload_n 0, 1) := by decide +kernel
theorem dP_takeInterrupt_29 : decode cP_takeInterrupt 29 = .ok (.getfield 21, 3) := by decide +kernel
theorem dP_takeInterrupt_32 : decode cP_takeInterrupt 32 = .ok (.iconst 4, 1) := by decide +kernel
theorem dP_takeInterrupt_33 : decode cP_takeInterrupt 33 = .ok (.invokevirtual 97, 3) := by decide +kernel
theorem dP_takeInterrupt_36 : decode cP_takeInterrupt 36 = .ok (.aload_n 0, 1) := by decide +kernel
theorem dP_takeInterrupt_37 : decode cP_takeInterrupt 37 = .ok (.aload_n 0, 1) := by decide +kernel
theorem dP_takeInterrupt_38 : decode cP_takeInterrupt 38 = .ok (.getfield 20, 3) := by decide +kernel
theorem dP_takeInterrupt_41 : decode cP_takeInterrupt 41 = .ok (.bipush 21, 2) := by decide +kernel
theorem dP_takeInterrupt_43 : decode cP_takeInterrupt 43 = .ok (.iaload, 1) := by decide +kernel
theorem dP_takeInterrupt_44 : decode cP_takeInterrupt 44 = .ok (.invokevirtual 100, 3) := by decide +kernel
theorem dP_takeInterrupt_47 : decode cP_takeInterrupt 47 = .ok (.aload_n 0, 1) := by decide +kernel
theorem dP_takeInterrupt_48 : decode cP_takeInterrupt 48 = .ok (.getfield 20, 3) := by decide +kernel
theorem dP_takeInterrupt_51 : decode cP_takeInterrupt 51 = .ok (.bipush 21, 2) := by decide +kernel
theorem dP_takeInterrupt_53 : decode cP_takeInterrupt 53 = .ok (.aload_n 0, 1) := by decide +kernel
theorem dP_takeInterrupt_54 : decode cP_takeInterrupt 54 = .ok (.getfield 20, 3) := by decide +kernel
theorem dP_takeInterrupt_57 : decode cP_takeInterrupt 57 = .ok (.bipush 24, 2) := by decide +kernel
theorem dP_takeInterrupt_59 : decode cP_takeInterrupt 59 = .ok (.iaload, 1) := by decide +kernel
theorem dP_takeInterrupt_60 : decode cP_takeInterrupt 60 = .ok (.iconst 2, 1) := by decide +kernel
theorem dP_takeInterrupt_61 : decode cP_takeInterrupt 61 = .ok (.if_icmp .ne 24, 3) := by decide +kernel
theorem dP_takeInterrupt_64 : decode cP_takeInterrupt 64 = .ok (.aload_n 0, 1) := by decide +kernel
theorem dP_takeInterrupt_65 : decode cP_takeInterrupt 65 = .ok (.aload_n 0, 1) := by decide +kernel
theorem dP_takeInterrupt_66 : decode cP_takeInterrupt 66 = .ok (.getfield 20, 3) := by decide +kernel
theorem dP_takeInterrupt_69 : decode cP_takeInterrupt 69 = .ok (.bipush 16, 2) := by decide +kernel
theorem dP_takeInterrupt_71 : decode cP_takeInterrupt 71 = .ok (.iaload, 1) := by decide +kernel
theorem dP_takeInterrupt_72 : decode cP_takeInterrupt 72 = .ok (.bipush 8, 2) := by decide +kernel
theorem dP_takeInterrupt_74 : decode cP_takeInterrupt 74 = .ok (.ishl, 1) := by decide +kernel
theorem dP_takeInterrupt_75 : decode cP_takeInterrupt 75 = .ok (.sipush 255, 3) := by decide +kernel
theorem dP_takeInterrupt_78 : decode cP_takeInterrupt 78 = .ok (.ior, 1) := by decide +kernel
theorem dP_takeInterrupt_79 : decode cP_takeInterrupt 79 = .ok (.invokevirtual 103, 3) := by decide +kernel
theorem dP_takeInterrupt_82 : decode cP_takeInterrupt 82 = .ok (.goto 5, 3) := by decide +kernel
theorem dP_takeInterrupt_85 : decode cP_takeInterrupt 85 = .ok (.bipush 56, 2) := by decide +kernel
theorem dP_takeInterrupt_87 : decode cP_takeInterrupt 87 = .ok (.iastore, 1) := by decide +kernel
theorem dP_takeInterrupt_88 : decode cP_takeInterrupt 88 = .ok (.return_, 1) := by decide +kernel
theorem dP_refresh_0 : decode cP_refresh 0 = .ok (.aload_n 0, 1) := by decide +kernel
theorem dP_refresh_1 : decode cP_refresh 1 = .ok (.getfield 20, 3) := by decide +kernel
theorem dP_refresh_4 : decode cP_refresh 4 = .ok (.bipush 17, 2) := by decide +kernel
theorem dP_refresh_6 : decode cP_refresh 6 = .ok (.iaload, 1) := by decide +kernel
theorem dP_refresh_7 : decode cP_refresh 7 = .ok (.istore_n 1, 1) := by decide +kernel
theorem dP_refresh_8 : decode cP_refresh 8 = .ok (.aload_n 0, 1) := by decide +kernel
theorem dP_refresh_9 : decode cP_refresh 9 = .ok (.getfield 20, 3) := by decide +kernel
theorem dP_refresh_12 : decode cP_refresh 12 = .ok (.bipush 17, 2) := by decide +kernel
theorem dP_refresh_14 : decode cP_refresh 14 = .ok (.iload_n 1, 1) := by decide +kernel
theorem dP_refresh_15 : decode cP_refresh 15 = .ok (.sipush 128, 3) := by decide +kernel
theorem dP_refresh_18 : decode cP_refresh 18 = .ok (.iand, 1) := by decide +kernel
theorem dP_refresh_19 : decode cP_refresh 19 = .ok (.iload_n 1, 1) := by decide +kernel
theorem dP_refresh_20 : decode cP_refresh 20 = .ok (.iconst 1, 1) := by decide +kernel
theorem dP_refresh_21 : decode cP_refresh 21 = .ok (.iadd, 1) := by decide +kernel
theorem dP_refresh_22 : decode cP_refresh 22 = .ok (.bipush 127, 2) := by decide +kernel
theorem dP_refresh_24 : decode cP_refresh 24 = .ok (.iand, 1) := by decide +kernel
theorem dP_refresh_25 : decode cP_refresh 25 = .ok (.ior, 1) := by decide +kernel
theorem dP_refresh_26 : decode cP_refresh 26 = .ok (.iastore, 1) := by decide +kernel
theorem dP_refresh_27 : decode cP_refresh 27 = .ok (.return_, 1) := by decide +kernel
theorem dP_fetch_0 : decode cP_fetch 0 = .ok (.aload_n 0, 1) := by decide +kernel
theorem dP_fetch_1 : decode cP_fetch 1 = .ok (.getfield 21, 3) := by decide +kernel
theorem dP_fetch_4 : decode cP_fetch 4 = .ok (.aload_n 0, 1) := by decide +kernel
theorem dP_fetch_5 : decode cP_fetch 5 = .ok (.getfield 20, 3) := by decide +kernel
theorem dP_fetch_8 : decode cP_fetch 8 = .ok (.bipush 21, 2) := by decide +kernel
theorem dP_fetch_10 : decode cP_fetch 10 = .ok (.iaload, 1) := by decide +kernel
theorem dP_fetch_11 : decode cP_fetch 11 = .ok (.invokevirtual 42, 3) := by decide +kernel
theorem dP_fetch_14 : decode cP_fetch 14 = .ok (.istore_n 1, 1) := by decide +kernel
theorem dP_fetch_15 : decode cP_fetch 15 = .ok (.aload_n 0, 1) := by decide +kernel
theorem dP_fetch_16 : decode cP_fetch 16 = .ok (.iconst 1, 1) := by decide +kernel
theorem dP_fetch_17 : decode cP_fetch 17 = .ok (.invokevirtual 106, 3) := by decide +kernel
theorem dP_fetch_20 : decode cP_fetch 20 = .ok (.aload_n 0, 1) := by decide +kernel
theorem dP_fetch_21 : decode cP_fetch 21 = .ok (.invokevirtual 46, 3) := by decide +kernel
theorem dP_fetch_24 : decode cP_fetch 24 = .ok (.iload_n 1, 1) := by decide +kernel
theorem dP_fetch_25 : decode cP_fetch 25 = .ok (.ireturn, 1) := by decide +kernel
theorem dP_fetchBehindPrefixes_0 : decode cP_fetchBehindPrefixes 0 = .ok (.aload_n 0, 1) := by decide +kernel
theorem dP_fetchBehindPrefixes_1 : decode cP_fetchBehindPrefixes 1 = .ok (.invokevirtual 65, 3) := by decide +kernel
theorem dP_fetchBehindPrefixes_4 : decode cP_fetchBehindPrefixes 4 = .ok (.istore_n 1, 1) := by decide +kernel
theorem dP_fetchBehindPrefixes_5 : decode cP_fetchBehindPrefixes 5 = .ok (.iconst 0, 1) := by decide +kernel
theorem dP_fetchBehindPrefixes_6 : decode cP_fetchBehindPrefixes 6 = .ok (.istore_n 2, 1) := by decide +kernel
theorem dP_fetchBehindPrefixes_7 : decode cP_fetchBehindPrefixes 7 = .ok (.iload_n 2, 1) := by decide +kernel
theorem dP_fetchBehindPrefixes_8 : decode cP_fetchBehindPrefixes 8 = .ok (.iconst 3, 1) := by decide +kernel
theorem dP_fetchBehindPrefixes_9 : decode cP_fetchBehindPrefixes 9 = .ok (.if_icmp .ge 42, 3) := by decide +kernel
theorem dP_fetchBehindPrefixes_12 : decode cP_fetchBehindPrefixes 12 = .ok (.iload_n 1, 1) := by decide +kernel
theorem dP_fetchBehindPrefixes_13 : decode cP_fetchBehindPrefixes 13 = .ok (.invokestatic 52, 3) := by decide +kernel
theorem dP_fetchBehindPrefixes_16 : decode cP_fetchBehindPrefixes 16 = .ok (.ifCond .eq 35, 3) := by decide +kernel
theorem dP_fetchBehindPrefixes_19 : decode cP_fetchBehindPrefixes 19 = .ok (.aload_n 0, 1) := by decide +kernel
theorem dP_fetchBehindPrefixes_20 : decode cP_fetchBehindPrefixes 20 = .ok (.getfield 10, 3) := by decide +kernel
theorem dP_fetchBehindPrefixes_23 : decode cP_fetchBehindPrefixes 23 = .ok (.iload_n 1, 1) := by decide +kernel
theorem dP_fetchBehindPrefixes_24 : decode cP_fetchBehindPrefixes 24 = .ok (.sipush 221, 3) := by decide +kernel
theorem dP_fetchBehindPrefixes_27 : decode cP_fetchBehindPrefixes 27 = .ok (.if_icmp .ne 8, 3) := by decide +kernel
theorem dP_fetchBehindPrefixes_30 : decode cP_fetchBehindPrefixes 30 = .ok (.bipush 18, 2) := by decide +kernel
theorem dP_fetchBehindPrefixes_32 : decode cP_fetchBehindPrefixes 32 = .ok (.goto 5, 3) := by decide +kernel
theorem dP_fetchBehindPrefixes_35 : decode cP_fetchBehindPrefixes 35 = .ok (.bipush 19, 2) := by decide +kernel
theorem dP_fetchBehindPrefixes_37 : decode cP_fetchBehindPrefixes 37 = .ok (.putfield 29, 3) := by decide +kernel
theorem dP_fetchBehindPrefixes_40 : decode cP_fetchBehindPrefixes 40 = .ok (.aload_n 0, 1) := by decide +kernel
theorem dP_fetchBehindPrefixes_41 : decode cP_fetchBehindPrefixes 41 = .ok (.invokevirtual 65, 3) := by decide +kernel
theorem dP_fetchBehindPrefixes_44 : decode cP_fetchBehindPrefixes 44 = .ok (.istore_n 1, 1) := by decide +kernel
theorem dP_fetchBehindPrefixes_45 : decode cP_fetchBehindPrefixes 45 = .ok (.iinc 2 1, 3) := by decide +kernel
theorem dP_fetchBehindPrefixes_48 : decode cP_fetchBehindPrefixes 48 = .ok (.goto (-41), 3) := by decide +kernel
theorem dP_fetchBehindPrefixes_51 : decode cP_fetchBehindPrefixes 51 = .ok (.iload_n 1, 1) := by decide +kernel
theorem dP_fetchBehindPrefixes_52 : decode cP_fetchBehindPrefixes 52 = .ok (.ireturn, 1) := by decide +kernel
theorem dP_isPrefix_0 : decode cP_isPrefix 0 = .ok (.iload_n 0, 1) := by decide +kernel
theorem dP_isPrefix_1 : decode cP_isPrefix 1 = .ok (.sipush 221, 3) := by decide +kernel
theorem dP_isPrefix_4 : decode cP_isPrefix 4 = .ok (.if_icmp .eq 10, 3) := by decide +kernel
theorem dP_isPrefix_7 : decode cP_isPrefix 7 = .ok (.iload_n 0, 1) := by decide +kernel
theorem dP_isPrefix_8 : decode cP_isPrefix 8 = .ok (.sipush 253, 3) := by decide +kernel
theorem dP_isPrefix_11 : decode cP_isPrefix 11 = .ok (.if_icmp .ne 7, 3) := by decide +kernel
theorem dP_isPrefix_14 : decode cP_isPrefix 14 = .ok (.iconst 1, 1) := by decide +kernel
theorem dP_isPrefix_15 : decode cP_isPrefix 15 = .ok (.goto 4, 3) := by decide +kernel
theorem dP_isPrefix_18 : decode cP_isPrefix 18 = .ok (.iconst 0, 1) := by decide +kernel
theorem dP_isPrefix_19 : decode cP_isPrefix 19 = .ok (.ireturn, 1) := by decide +kernel
theorem dP_hasM_0 : decode cP_hasM 0 = .ok (.iload_n 0, 1) := by decide +kernel
theorem dP_hasM_1 : decode cP_hasM 1 = .ok (.iconst 3, 1) := by decide +kernel
theorem dP_hasM_2 : decode cP_hasM 2 = .ok (.ishr, 1) := by decide +kernel
theorem dP_hasM_3 : decode cP_hasM 3 = .ok (.bipush 7, 2) := by decide +kernel
theorem dP_hasM_5 : decode cP_hasM 5 = .ok (.iand, 1) := by decide +kernel
theorem dP_hasM_6 : decode cP_hasM 6 = .ok (.istore_n 1, 1) := by decide +kernel
theorem dP_hasM_7 : decode cP_hasM 7 = .ok (.iload_n 0, 1) := by decide +kernel
theorem dP_hasM_8 : decode cP_hasM 8 = .ok (.bipush 7, 2) := by decide +kernel
theorem dP_hasM_10 : decode cP_hasM 10 = .ok (.iand, 1) := by decide +kernel
theorem dP_hasM_11 : decode cP_hasM 11 = .ok (.istore_n 2, 1) := by decide +kernel
theorem dP_hasM_12 : decode cP_hasM 12 = .ok (.iload_n 0, 1) := by decide +kernel
theorem dP_hasM_13 : decode cP_hasM 13 = .ok (.bipush 6, 2) := by decide +kernel
theorem dP_hasM_15 : decode cP_hasM 15 = .ok (.ishr, 1) := by decide +kernel
theorem dP_hasM_16 : decode cP_hasM 16 = .ok (.tableswitch 87 0 2 #[28, 51, 75], 28) := by decide +kernel
theorem dP_hasM_44 : decode cP_hasM 44 = .ok (.iload_n 1, 1) := by decide +kernel
theorem dP_hasM_45 : decode cP_hasM 45 = .ok (.bipush 6, 2) := by decide +kernel
theorem dP_hasM_47 : decode cP_hasM 47 = .ok (.if_icmp .ne 18, 3) := by decide +kernel
theorem dP_hasM_50 : decode cP_hasM 50 = .ok (.iload_n 2, 1) := by decide +kernel
theorem dP_hasM_51 : decode cP_hasM 51 = .ok (.iconst 4, 1) := by decide +kernel
theorem dP_hasM_52 : decode cP_hasM 52 = .ok (.if_icmp .lt 13, 3) := by decide +kernel
theorem dP_hasM_55 : decode cP_hasM 55 = .ok (.iload_n 2, 1) := by decide +kernel
theorem dP_hasM_56 : decode cP_hasM 56 = .ok (.bipush 6, 2) := by decide +kernel
theorem dP_hasM_58 : decode cP_hasM 58 = .ok (.if_icmp .gt 7, 3) := by decide +kernel
theorem dP_hasM_61 : decode cP_hasM 61 = .ok (.iconst 1, 1) := by decide +kernel
theorem dP_hasM_62 : decode cP_hasM 62 = .ok (.goto 4, 3) := by decide +kernel
theorem dP_hasM_65 : decode cP_hasM 65 = .ok (.iconst 0, 1) := by decide +kernel
theorem dP_hasM_66 : decode cP_hasM 66 = .ok (.ireturn, 1) := by decide +kernel
theorem dP_hasM_67 : decode cP_hasM 67 = .ok (.iload_n 1, 1) := by decide +kernel
theorem dP_hasM_68 : decode cP_hasM 68 = .ok (.bipush 6, 2) := by decide +kernel
theorem dP_hasM_70 : decode cP_hasM 70 = .ok (.if_icmp .eq 9, 3) := by decide +kernel
theorem dP_hasM_73 : decode cP_hasM 73 = .ok (.iload_n 2, 1) := by decide +kernel
theorem dP_hasM_74 : decode cP_hasM 74 = .ok (.bipush 6, 2) := by decide +kernel
theorem dP_hasM_76 : decode cP_hasM 76 = .ok (.if_icmp .ne 13, 3) := by decide +kernel
theorem dP_hasM_79 : decode cP_hasM 79 = .ok (.iload_n 0, 1) := by decide +kernel
theorem dP_hasM_80 : decode cP_hasM 80 = .ok (.bipush 118, 2) := by decide +kernel
theorem dP_hasM_82 : decode cP_hasM 82 = .ok (.if_icmp .eq 7, 3) := by decide +kernel
theorem dP_hasM_85 : decode cP_hasM 85 = .ok (.iconst 1, 1) := by decide +kernel
theorem dP_hasM_86 : decode cP_hasM 86 = .ok (.goto 4, 3) := by decide +kernel
theorem dP_hasM_89 : decode cP_hasM 89 = .ok (.iconst 0, 1) := by decide +kernel
theorem dP_hasM_90 : decode cP_hasM 90 = .ok (.ireturn, 1) := by decide +kernel
theorem dP_hasM_91 : decode cP_hasM 91 = .ok (.iload_n 2, 1) := by decide +kernel
theorem dP_hasM_92 : decode cP_hasM 92 = .ok (.bipush 6, 2) := by decide +kernel
theorem dP_hasM_94 : decode cP_hasM 94 = .ok (.if_icmp .ne 7, 3) := by decide +kernel
theorem dP_hasM_97 : decode cP_hasM 97 = .ok (.iconst 1, 1) := by decide +kernel
theorem dP_hasM_98 : decode cP_hasM 98 = .ok (.goto 4, 3) := by decide +kernel
theorem dP_hasM_101 : decode cP_hasM 101 = .ok (.iconst 0, 1) := by decide +kernel
theorem dP_hasM_102 : decode cP_hasM 102 = .ok (.ireturn, 1) := by decide +kernel
theorem dP_hasM_103 : decode cP_hasM 103 = .ok (.iconst 0, 1) := by decide +kernel
theorem dP_hasM_104 : decode cP_hasM 104 = .ok (.ireturn, 1) := by decide +kernel
theorem dP_findM_0 : decode cP_findM 0 = .ok (.aload_n 0, 1) := by decide +kernel
theorem dP_findM_1 : decode cP_findM 1 = .ok (.aload_n 0, 1) := by decide +kernel
theorem dP_findM_2 : decode cP_findM 2 = .ok (.getfield 10, 3) := by decide +kernel
theorem dP_findM_5 : decode cP_findM 5 = .ok (.invokevirtual 109, 3) := by decide +kernel
theorem dP_findM_8 : decode cP_findM 8 = .ok (.putfield 112, 3) := by decide +kernel
theorem dP_findM_11 : decode cP_findM 11 = .ok (.aload_n 0, 1) := by decide +kernel
theorem dP_findM_12 : decode cP_findM 12 = .ok (.getfield 10, 3) := by decide +kernel
theorem dP_findM_15 : decode cP_findM 15 = .ok (.getfield 29, 3) := by decide +kernel
theorem dP_findM_18 : decode cP_findM 18 = .ok (.bipush 6, 2) := by decide +kernel
theorem dP_findM_20 : decode cP_findM 20 = .ok (.if_icmp .eq 29, 3) := by decide +kernel
theorem dP_findM_23 : decode cP_findM 23 = .ok (.aload_n 0, 1) := by decide +kernel
theorem dP_findM_24 : decode cP_findM 24 = .ok (.aload_n 0, 1) := by decide +kernel
theorem dP_findM_25 : decode cP_findM 25 = .ok (.getfield 112, 3) := by decide +kernel
theorem dP_findM_28 : decode cP_findM 28 = .ok (.aload_n 0, 1) := by decide +kernel
theorem dP_findM_29 : decode cP_findM 29 = .ok (.invokevirtual 115, 3) := by decide +kernel
theorem dP_findM_32 : decode cP_findM 32 = .ok (.i2b, 1) := by decide +kernel
theorem dP_findM_33 : decode cP_findM 33 = .ok (.iadd, 1) := by decide +kernel
theorem dP_findM_34 : decode cP_findM 34 = .ok (.ldc 118, 2) := by decide +kernel
theorem dP_findM_36 : decode cP_findM 36 = .ok (.iand, 1) := by decide +kernel
theorem dP_findM_37 : decode cP_findM 37 = .ok (.putfield 112, 3) := by decide +kernel
theorem dP_findM_40 : decode cP_findM 40 = .ok (.aload_n 0, 1) := by decide +kernel
theorem dP_findM_41 : decode cP_findM 41 = .ok (.getfield 10, 3) := by decide +kernel
theorem dP_findM_44 : decode cP_findM 44 = .ok (.bipush 6, 2) := by decide +kernel
theorem dP_findM_46 : decode cP_findM 46 = .ok (.putfield 29, 3) := by decide +kernel
theorem dP_findM_49 : decode cP_findM 49 = .ok (.return_, 1) := by decide +kernel
theorem dP_movePc_0 : decode cP_movePc 0 = .ok (.aload_n 0, 1) := by decide +kernel
theorem dP_movePc_1 : decode cP_movePc 1 = .ok (.getfield 20, 3) := by decide +kernel
theorem dP_movePc_4 : decode cP_movePc 4 = .ok (.bipush 21, 2) := by decide +kernel
theorem dP_movePc_6 : decode cP_movePc 6 = .ok (.aload_n 0, 1) := by decide +kernel
theorem dP_movePc_7 : decode cP_movePc 7 = .ok (.getfield 20, 3) := by decide +kernel
theorem dP_movePc_10 : decode cP_movePc 10 = .ok (.bipush 21, 2) := by decide +kernel
theorem dP_movePc_12 : decode cP_movePc 12 = .ok (.iaload, 1) := by decide +kernel
theorem dP_movePc_13 : decode cP_movePc 13 = .ok (.iload_n 1, 1) := by decide +kernel
theorem dP_movePc_14 : decode cP_movePc 14 = .ok (.iadd, 1) := by decide +kernel
theorem dP_movePc_15 : decode cP_movePc 15 = .ok (.ldc 118, 2) := by decide +kernel
theorem dP_movePc_17 : decode cP_movePc 17 = .ok (.iand, 1) := by decide +kernel
theorem dP_movePc_18 : decode cP_movePc 18 = .ok (.iastore, 1) := by decide +kernel
theorem dP_movePc_19 : decode cP_movePc 19 = .ok (.return_, 1) := by decide +kernel
theorem dP_nextByte_0 : decode cP_nextByte 0 = .ok (.aload_n 0, 1) := by decide +kernel
theorem dP_nextByte_1 : decode cP_nextByte 1 = .ok (.getfield 21, 3) := by decide +kernel
theorem dP_nextByte_4 : decode cP_nextByte 4 = .ok (.aload_n 0, 1) := by decide +kernel
theorem dP_nextByte_5 : decode cP_nextByte 5 = .ok (.getfield 20, 3) := by decide +kernel
theorem dP_nextByte_8 : decode cP_nextByte 8 = .ok (.bipush 21, 2) := by decide +kernel
theorem dP_nextByte_10 : decode cP_nextByte 10 = .ok (.iaload, 1) := by decide +kernel
theorem dP_nextByte_11 : decode cP_nextByte 11 = .ok (.invokevirtual 119, 3) := by decide +kernel
theorem dP_nextByte_14 : decode cP_nextByte 14 = .ok (.istore_n 1, 1) := by decide +kernel
theorem dP_nextByte_15 : decode cP_nextByte 15 = .ok (.aload_n 0, 1) := by decide +kernel
theorem dP_nextByte_16 : decode cP_nextByte 16 = .ok (.iconst 1, 1) := by decide +kernel
theorem dP_nextByte_17 : decode cP_nextByte 17 = .ok (.invokevirtual 106, 3) := by decide +kernel
theorem dP_nextByte_20 : decode cP_nextByte 20 = .ok (.iload_n 1, 1) := by decide +kernel
theorem dP_nextByte_21 : decode cP_nextByte 21 = .ok (.ireturn, 1) := by decide +kernel
theorem dP_nextWord_0 : decode cP_nextWord 0 = .ok (.aload_n 0, 1) := by decide +kernel
theorem dP_nextWord_1 : decode cP_nextWord 1 = .ok (.getfield 21, 3) := by decide +kernel
theorem dP_nextWord_4 : decode cP_nextWord 4 = .ok (.aload_n 0, 1) := by decide +kernel
theorem dP_nextWord_5 : decode cP_nextWord 5 = .ok (.getfield 20, 3) := by decide +kernel
theorem dP_nextWord_8 : decode cP_nextWord 8 = .ok (.bipush 21, 2) := by decide +kernel
theorem dP_nextWord_10 : decode cP_nextWord 10 = .ok (.iaload, 1) := by decide +kernel
theorem dP_nextWord_11 : decode cP_nextWord 11 = .ok (.invokevirtual 119, 3) := by decide +kernel
theorem dP_nextWord_14 : decode cP_nextWord 14 = .ok (.istore_n 1, 1) := by decide +kernel
theorem dP_nextWord_15 : decode cP_nextWord 15 = .ok (.aload_n 0, 1) := by decide +kernel
theorem dP_nextWord_16 : decode cP_nextWord 16 = .ok (.getfield 21, 3) := by decide +kernel
theorem dP_nextWord_19 : decode cP_nextWord 19 = .ok (.aload_n 0, 1) := by decide +kernel
theorem dP_nextWord_20 : decode cP_nextWord 20 = .ok (.getfield 20, 3) := by decide +kernel
theorem dP_nextWord_23 : decode cP_nextWord 23 = .ok (.bipush 21, 2) := by decide +kernel
theorem dP_nextWord_25 : decode cP_nextWord 25 = .ok (.iaload, 1) := by decide +kernel
theorem dP_nextWord_26 : decode cP_nextWord 26 = .ok (.iconst 1, 1) := by decide +kernel
theorem dP_nextWord_27 : decode cP_nextWord 27 = .ok (.iadd, 1) := by decide +kernel
theorem dP_nextWord_28 : decode cP_nextWord 28 = .ok (.invokevirtual 119, 3) := by decide +kernel
theorem dP_nextWord_31 : decode cP_nextWord 31 = .ok (.istore_n 2, 1) := by decide +kernel
theorem dP_nextWord_32 : decode cP_nextWord 32 = .ok (.aload_n 0, 1) := by decide +kernel
theorem dP_nextWord_33 : decode cP_nextWord 33 = .ok (.iconst 2, 1) := by decide +kernel
theorem dP_nextWord_34 : decode cP_nextWord 34 = .ok (.invokevirtual 106, 3) := by decide +kernel
theorem dP_nextWord_37 : decode cP_nextWord 37 = .ok (.iload_n 2, 1) := by decide +kernel
theorem dP_nextWord_38 : decode cP_nextWord 38 = .ok (.bipush 8, 2) := by decide +kernel
theorem dP_nextWord_40 : decode cP_nextWord 40 = .ok (.ishl, 1) := by decide +kernel
theorem dP_nextWord_41 : decode cP_nextWord 41 = .ok (.iload_n 1, 1) := by decide +kernel
theorem dP_nextWord_42 : decode cP_nextWord 42 = .ok (.ior, 1) := by decide +kernel
theorem dP_nextWord_43 : decode cP_nextWord 43 = .ok (.ireturn, 1) := by decide +kernel
theorem dP_readWord_0 : decode cP_readWord 0 = .ok (.aload_n 0, 1) := by decide +kernel
theorem dP_readWord_1 : decode cP_readWord 1 = .ok (.getfield 21, 3) := by decide +kernel
theorem dP_readWord_4 : decode cP_readWord 4 = .ok (.iload_n 1, 1) := by decide +kernel
theorem dP_readWord_5 : decode cP_readWord 5 = .ok (.invokevirtual 119, 3) := by decide +kernel
theorem dP_readWord_8 : decode cP_readWord 8 = .ok (.istore_n 2, 1) := by decide +kernel
theorem dP_readWord_9 : decode cP_readWord 9 = .ok (.iload_n 2, 1) := by decide +kernel
theorem dP_readWord_10 : decode cP_readWord 10 = .ok (.aload_n 0, 1) := by decide +kernel
theorem dP_readWord_11 : decode cP_readWord 11 = .ok (.getfield 21, 3) := by decide +kernel
theorem dP_readWord_14 : decode cP_readWord 14 = .ok (.iload_n 1, 1) := by decide +kernel
theorem dP_readWord_15 : decode cP_readWord 15 = .ok (.iconst 1, 1) := by decide +kernel
theorem dP_readWord_16 : decode cP_readWord 16 = .ok (.iadd, 1) := by decide +kernel
theorem dP_readWord_17 : decode cP_readWord 17 = .ok (.invokevirtual 119, 3) := by decide +kernel
theorem dP_readWord_20 : decode cP_readWord 20 = .ok (.bipush 8, 2) := by decide +kernel
theorem dP_readWord_22 : decode cP_readWord 22 = .ok (.ishl, 1) := by decide +kernel
theorem dP_readWord_23 : decode cP_readWord 23 = .ok (.ior, 1) := by decide +kernel
theorem dP_readWord_24 : decode cP_readWord 24 = .ok (.ireturn, 1) := by decide +kernel
theorem dP_writeWord_0 : decode cP_writeWord 0 = .ok (.aload_n 0, 1) := by decide +kernel
theorem dP_writeWord_1 : decode cP_writeWord 1 = .ok (.getfield 21, 3) := by decide +kernel
theorem dP_writeWord_4 : decode cP_writeWord 4 = .ok (.iload_n 1, 1) := by decide +kernel
theorem dP_writeWord_5 : decode cP_writeWord 5 = .ok (.iload_n 2, 1) := by decide +kernel
theorem dP_writeWord_6 : decode cP_writeWord 6 = .ok (.invokevirtual 122, 3) := by decide +kernel
theorem dP_writeWord_9 : decode cP_writeWord 9 = .ok (.aload_n 0, 1) := by decide +kernel
theorem dP_writeWord_10 : decode cP_writeWord 10 = .ok (.getfield 21, 3) := by decide +kernel
theorem dP_writeWord_13 : decode cP_writeWord 13 = .ok (.iload_n 1, 1) := by decide +kernel
theorem dP_writeWord_14 : decode cP_writeWord 14 = .ok (.iconst 1, 1) := by decide +kernel
theorem dP_writeWord_15 : decode cP_writeWord 15 = .ok (.iadd, 1) := by decide +kernel
theorem dP_writeWord_16 : decode cP_writeWord 16 = .ok (.iload_n 2, 1) := by decide +kernel
theorem dP_writeWord_17 : decode cP_writeWord 17 = .ok (.bipush 8, 2) := by decide +kernel
theorem dP_writeWord_19 : decode cP_writeWord 19 = .ok (.ishr, 1) := by decide +kernel
theorem dP_writeWord_20 : decode cP_writeWord 20 = .ok (.invokevirtual 122, 3) := by decide +kernel
theorem dP_writeWord_23 : decode cP_writeWord 23 = .ok (.return_, 1) := by decide +kernel
theorem dP_operand_0 : decode cP_operand 0 = .ok (.iload_n 1, 1) := by decide +kernel
theorem dP_operand_1 : decode cP_operand 1 = .ok (.bipush 6, 2) := by decide +kernel
theorem dP_operand_3 : decode cP_operand 3 = .ok (.if_icmp .ne 17, 3) := by decide +kernel
theorem dP_operand_6 : decode cP_operand 6 = .ok (.aload_n 0, 1) := by decide +kernel
theorem dP_operand_7 : decode cP_operand 7 = .ok (.getfield 21, 3) := by decide +kernel
theorem dP_operand_10 : decode cP_operand 10 = .ok (.aload_n 0, 1) := by decide +kernel
theorem dP_operand_11 : decode cP_operand 11 = .ok (.getfield 112, 3) := by decide +kernel
theorem dP_operand_14 : decode cP_operand 14 = .ok (.invokevirtual 119, 3) := by decide +kernel
theorem dP_operand_17 : decode cP_operand 17 = .ok (.goto 11, 3) := by decide +kernel
theorem dP_operand_20 : decode cP_operand 20 = .ok (.aload_n 0, 1) := by decide +kernel
theorem dP_operand_21 : decode cP_operand 21 = .ok (.getfield 10, 3) := by decide +kernel
theorem dP_operand_24 : decode cP_operand 24 = .ok (.iload_n 1, 1) := by decide +kernel
theorem dP_operand_25 : decode cP_operand 25 = .ok (.invokevirtual 125, 3) := by decide +kernel
theorem dP_operand_28 : decode cP_operand 28 = .ok (.ireturn, 1) := by decide +kernel
theorem dP_setOperand_0 : decode cP_setOperand 0 = .ok (.iload_n 1, 1) := by decide +kernel
theorem dP_setOperand_1 : decode cP_setOperand 1 = .ok (.bipush 6, 2) := by decide +kernel
theorem dP_setOperand_3 : decode cP_setOperand 3 = .ok (.if_icmp .ne 18, 3) := by decide +kernel
theorem dP_setOperand_6 : decode cP_setOperand 6 = .ok (.aload_n 0, 1) := by decide +kernel
theorem dP_setOperand_7 : decode cP_setOperand 7 = .ok (.getfield 21, 3) := by decide +kernel
theorem dP_setOperand_10 : decode cP_setOperand 10 = .ok (.aload_n 0, 1) := by decide +kernel
theorem dP_setOperand_11 : decode cP_setOperand 11 = .ok (.getfield 112, 3) := by decide +kernel
theorem dP_setOperand_14 : decode cP_setOperand 14 = .ok (.iload_n 2, 1) := by decide +kernel
theorem dP_setOperand_15 : decode cP_setOperand 15 = .ok (.invokevirtual 122, 3) := by decide +kernel
theorem dP_setOperand_18 : decode cP_setOperand 18 = .ok (.goto 12, 3) := by decide +kernel
theorem dP_setOperand_21 : decode cP_setOperand 21 = .ok (.aload_n 0, 1) := by decide +kernel
theorem dP_setOperand_22 : decode cP_setOperand 22 = .ok (.getfield 10, 3) := by decide +kernel
theorem dP_setOperand_25 : decode cP_setOperand 25 = .ok (.iload_n 1, 1) := by decide +kernel
theorem dP_setOperand_26 : decode cP_setOperand 26 = .ok (.iload_n 2, 1) := by decide +kernel
theorem dP_setOperand_27 : decode cP_setOperand 27 = .ok (.invokevirtual 128, 3) := by decide +kernel
theorem dP_setOperand_30 : decode cP_setOperand 30 = .ok (.return_, 1) := by decide +kernel
theorem dP_push_0 : decode cP_push 0 = .ok (.aload_n 0, 1) := by decide +kernel
theorem dP_push_1 : decode cP_push 1 = .ok (.getfield 20, 3) := by decide +kernel
theorem dP_push_4 : decode cP_push 4 = .ok (.bipush 20, 2) := by decide +kernel
theorem dP_push_6 : decode cP_push 6 = .ok (.aload_n 0, 1) := by decide +kernel
theorem dP_push_7 : decode cP_push 7 = .ok (.getfield 20, 3) := by decide +kernel
theorem dP_push_10 : decode cP_push 10 = .ok (.bipush 20, 2) := by decide +kernel
theorem dP_push_12 : decode cP_push 12 = .ok (.iaload, 1) := by decide +kernel
theorem dP_push_13 : decode cP_push 13 = .ok (.iconst 1, 1) := by decide +kernel
theorem dP_push_14 : decode cP_push 14 = .ok (.isub, 1) := by decide +kernel
theorem dP_push_15 : decode cP_push 15 = .ok (.ldc 118, 2) := by decide +kernel
theorem dP_push_17 : decode cP_push 17 = .ok (.iand, 1) := by decide +kernel
theorem dP_push_18 : decode cP_push 18 = .ok (.iastore, 1) := by decide +kernel
theorem dP_push_19 : decode cP_push 19 = .ok (.aload_n 0, 1) := by decide +kernel
theorem dP_push_20 : decode cP_push 20 = .ok (.getfield 21, 3) := by decide +kernel
theorem dP_push_23 : decode cP_push 23 = .ok (.aload_n 0, 1) := by decide +kernel
theorem dP_push_24 : decode cP_push 24 = .ok (.getfield 20, 3) := by decide +kernel
theorem dP_push_27 : decode cP_push 27 = .ok (.bipush 20, 2) := by decide +kernel
theorem dP_push_29 : decode cP_push 29 = .ok (.iaload, 1) := by decide +kernel
theorem dP_push_30 : decode cP_push 30 = .ok (.iload_n 1, 1) := by decide +kernel
theorem dP_push_31 : decode cP_push 31 = .ok (.bipush 8, 2) := by decide +kernel
theorem dP_push_33 : decode cP_push 33 = .ok (.ishr, 1) := by decide +kernel
theorem dP_push_34 : decode cP_push 34 = .ok (.invokevirtual 122, 3) := by decide +kernel
theorem dP_push_37 : decode cP_push 37 = .ok (.aload_n 0, 1) := by decide +kernel
theorem dP_push_38 : decode cP_push 38 = .ok (.getfield 20, 3) := by decide +kernel
theorem dP_push_41 : decode cP_push 41 = .ok (.bipush 20, 2) := by decide +kernel
theorem dP_push_43 : decode cP_push 43 = .ok (.aload_n 0, 1) := by decide +kernel
theorem dP_push_44 : decode cP_push 44 = .ok (.getfield 20, 3) := by decide +kernel
theorem dP_push_47 : decode cP_push 47 = .ok (.bipush 20, 2) := by decide +kernel
theorem dP_push_49 : decode cP_push 49 = .ok (.iaload, 1) := by decide +kernel
theorem dP_push_50 : decode cP_push 50 = .ok (.iconst 1, 1) := by decide +kernel
theorem dP_push_51 : decode cP_push 51 = .ok (.isub, 1) := by decide +kernel
theorem dP_push_52 : decode cP_push 52 = .ok (.ldc 118, 2) := by decide +kernel
theorem dP_push_54 : decode cP_push 54 = .ok (.iand, 1) := by decide +kernel
theorem dP_push_55 : decode cP_push 55 = .ok (.iastore, 1) := by decide +kernel
theorem dP_push_56 : decode cP_push 56 = .ok (.aload_n 0, 1) := by decide +kernel
theorem dP_push_57 : decode cP_push 57 = .ok (.getfield 21, 3) := by decide +kernel
theorem dP_push_60 : decode cP_push 60 = .ok (.aload_n 0, 1) := by decide +kernel
theorem dP_push_61 : decode cP_push 61 = .ok (.getfield 20, 3) := by decide +kernel
theorem dP_push_64 : decode cP_push 64 = .ok (.bipush 20, 2) := by decide +kernel
theorem dP_push_66 : decode cP_push 66 = .ok (.iaload, 1) := by decide +kernel
theorem dP_push_67 : decode cP_push 67 = .ok (.iload_n 1, 1) := by decide +kernel
theorem dP_push_68 : decode cP_push 68 = .ok (.invokevirtual 122, 3) := by decide +kernel
theorem dP_push_71 : decode cP_push 71 = .ok (.return_, 1) := by decide +kernel
theorem dP_pop_0 : decode cP_pop 0 = .ok (.aload_n 0, 1) := by decide +kernel
theorem dP_pop_1 : decode cP_pop 1 = .ok (.aload_n 0, 1) := by decide +kernel
theorem dP_pop_2 : decode cP_pop 2 = .ok (.getfield 20, 3) := by decide +kernel
theorem dP_pop_5 : decode cP_pop 5 = .ok (.bipush 20, 2) := by decide +kernel
theorem dP_pop_7 : decode cP_pop 7 = .ok (.iaload, 1) := by decide +kernel
theorem dP_pop_8 : decode cP_pop 8 = .ok (.invokevirtual 103, 3) := by decide +kernel
theorem dP_pop_11 : decode cP_pop 11 = .ok (.istore_n 1, 1) := by decide +kernel
theorem dP_pop_12 : decode cP_pop 12 = .ok (.aload_n 0, 1) := by decide +kernel
theorem dP_pop_13 : decode cP_pop 13 = .ok (.getfield 20, 3) := by decide +kernel
theorem dP_pop_16 : decode cP_pop 16 = .ok (.bipush 20, 2) := by decide +kernel
theorem dP_pop_18 : decode cP_pop 18 = .ok (.aload_n 0, 1) := by decide +kernel
theorem dP_pop_19 : decode cP_pop 19 = .ok (.getfield 20, 3) := by decide +kernel
theorem dP_pop_22 : decode cP_pop 22 = .ok (.bipush 20, 2) := by decide +kernel
theorem dP_pop_24 : decode cP_pop 24 = .ok (.iaload, 1) := by decide +kernel
theorem dP_pop_25 : decode cP_pop 25 = .ok (.iconst 2, 1) := by decide +kernel
theorem dP_pop_26 : decode cP_pop 26 = .ok (.iadd, 1) := by decide +kernel
theorem dP_pop_27 : decode cP_pop 27 = .ok (.ldc 118, 2) := by decide +kernel
theorem dP_pop_29 : decode cP_pop 29 = .ok (.iand, 1) := by decide +kernel
theorem dP_pop_30 : decode cP_pop 30 = .ok (.iastore, 1) := by decide +kernel
theorem dP_pop_31 : decode cP_pop 31 = .ok (.iload_n 1, 1) := by decide +kernel
theorem dP_pop_32 : decode cP_pop 32 = .ok (.ireturn, 1) := by decide +kernel
theorem dP_call_0 : decode cP_call 0 = .ok (.aload_n 0, 1) := by decide +kernel
theorem dP_call_1 : decode cP_call 1 = .ok (.aload_n 0, 1) := by decide +kernel
theorem dP_call_2 : decode cP_call 2 = .ok (.getfield 20, 3) := by decide +kernel
theorem dP_call_5 : decode cP_call 5 = .ok (.bipush 21, 2) := by decide +kernel
theorem dP_call_7 : decode cP_call 7 = .ok (.iaload, 1) := by decide +kernel
theorem dP_call_8 : decode cP_call 8 = .ok (.invokevirtual 100, 3) := by decide +kernel
theorem dP_call_11 : decode cP_call 11 = .ok (.aload_n 0, 1) := by decide +kernel
theorem dP_call_12 : decode cP_call 12 = .ok (.getfield 20, 3) := by decide +kernel
theorem dP_call_15 : decode cP_call 15 = .ok (.bipush 21, 2) := by decide +kernel
theorem dP_call_17 : decode cP_call 17 = .ok (.iload_n 1, 1) := by decide +kernel
theorem dP_call_18 : decode cP_call 18 = .ok (.iastore, 1) := by decide +kernel
theorem dP_call_19 : decode cP_call 19 = .ok (.return_, 1) := by decide +kernel
theorem dP_condition_0 : decode cP_condition 0 = .ok (.iload_n 1, 1) := by decide +kernel
theorem dP_condition_1 : decode cP_condition 1 = .ok (.iconst 1, 1) := by decide +kernel
theorem dP_condition_2 : decode cP_condition 2 = .ok (.ishr, 1) := by decide +kernel
theorem dP_condition_3 : decode cP_condition 3 = .ok (.tableswitch 41 0 2 #[25, 31, 36], 25) := by decide +kernel
theorem dP_condition_28 : decode cP_condition 28 = .ok (.bipush 64, 2) := by decide +kernel
theorem dP_condition_30 : decode cP_condition 30 = .ok (.istore_n 2, 1) := by decide +kernel
theorem dP_condition_31 : decode cP_condition 31 = .ok (.goto 17, 3) := by decide +kernel
theorem dP_condition_34 : decode cP_condition 34 = .ok (.iconst 1, 1) := by decide +kernel
theorem dP_condition_35 : decode cP_condition 35 = .ok (.istore_n 2, 1) := by decide +kernel
theorem dP_condition_36 : decode cP_condition 36 = .ok (.goto 12, 3) := by decide +kernel
theorem dP_condition_39 : decode cP_condition 39 = .ok (.iconst 4, 1) := by decide +kernel
theorem dP_condition_40 : decode cP_condition 40 = .ok (.istore_n 2, 1) := by decide +kernel
theorem dP_condition_41 : decode cP_condition 41 = .ok (.goto 7, 3) := by decide +kernel
theorem dP_condition_44 : decode cP_condition 44 = .ok (.sipush 128, 3) := by decide +kernel
theorem dP_condition_47 : decode cP_condition 47 = .ok (.istore_n 2, 1) := by decide +kernel
theorem dP_condition_48 : decode cP_condition 48 = .ok (.aload_n 0, 1) := by decide +kernel
theorem dP_condition_49 : decode cP_condition 49 = .ok (.getfield 20, 3) := by decide +kernel
theorem dP_condition_52 : decode cP_condition 52 = .ok (.iconst 1, 1) := by decide +kernel
theorem dP_condition_53 : decode cP_condition 53 = .ok (.iaload, 1) := by decide +kernel
theorem dP_condition_54 : decode cP_condition 54 = .ok (.iload_n 2, 1) := by decide +kernel
theorem dP_condition_55 : decode cP_condition 55 = .ok (.iand, 1) := by decide +kernel
theorem dP_condition_56 : decode cP_condition 56 = .ok (.ifCond .eq 7, 3) := by decide +kernel
theorem dP_condition_59 : decode cP_condition 59 = .ok (.iconst 1, 1) := by decide +kernel
theorem dP_condition_60 : decode cP_condition 60 = .ok (.goto 4, 3) := by decide +kernel
theorem dP_condition_63 : decode cP_condition 63 = .ok (.iconst 0, 1) := by decide +kernel
theorem dP_condition_64 : decode cP_condition 64 = .ok (.iload_n 1, 1) := by decide +kernel
theorem dP_condition_65 : decode cP_condition 65 = .ok (.iconst 1, 1) := by decide +kernel
theorem dP_condition_66 : decode cP_condition 66 = .ok (.iand, 1) := by decide +kernel
theorem dP_condition_67 : decode cP_condition 67 = .ok (.iconst 1, 1) := by decide +kernel
theorem dP_condition_68 : decode cP_condition 68 = .ok (.if_icmp .ne 7, 3) := by decide +kernel
theorem dP_condition_71 : decode cP_condition 71 = .ok (.iconst 1, 1) := by decide +kernel
theorem dP_condition_72 : decode cP_condition 72 = .ok (.goto 4, 3) := by decide +kernel
theorem dP_condition_75 : decode cP_condition 75 = .ok (.iconst 0, 1) := by decide +kernel
theorem dP_condition_76 : decode cP_condition 76 = .ok (.if_icmp .ne 7, 3) := by decide +kernel
theorem dP_condition_79 : decode cP_condition 79 = .ok (.iconst 1, 1) := by decide +kernel
theorem dP_condition_80 : decode cP_condition 80 = .ok (.goto 4, 3) := by decide +kernel
theorem dP_condition_83 : decode cP_condition 83 = .ok (.iconst 0, 1) := by decide +kernel
theorem dP_condition_84 : decode cP_condition 84 = .ok (.ireturn, 1) := by decide +kernel
theorem dP_carry_0 : decode cP_carry 0 = .ok (.aload_n 0, 1) := by decide +kernel
theorem dP_carry_1 : decode cP_carry 1 = .ok (.getfield 20, 3) := by decide +kernel
theorem dP_carry_4 : decode cP_carry 4 = .ok (.iconst 1, 1) := by decide +kernel
theorem dP_carry_5 : decode cP_carry 5 = .ok (.iaload, 1) := by decide +kernel
theorem dP_carry_6 : decode cP_carry 6 = .ok (.iconst 1, 1) := by decide +kernel
theorem dP_carry_7 : decode cP_carry 7 = .ok (.iand, 1) := by decide +kernel
theorem dP_carry_8 : decode cP_carry 8 = .ok (.ireturn, 1) := by decide +kernel
theorem dP_setFlags_0 : decode cP_setFlags 0 = .ok (.aload_n 0, 1) := by decide +kernel
theorem dP_setFlags_1 : decode cP_setFlags 1 = .ok (.getfield 20, 3) := by decide +kernel
theorem dP_setFlags_4 : decode cP_setFlags 4 = .ok (.iconst 1, 1) := by decide +kernel
theorem dP_setFlags_5 : decode cP_setFlags 5 = .ok (.aload_n 0, 1) := by decide +kernel
theorem dP_setFlags_6 : decode cP_setFlags 6 = .ok (.getfield 20, 3) := by decide +kernel
theorem dP_setFlags_9 : decode cP_setFlags 9 = .ok (.iconst 1, 1) := by decide +kernel
theorem dP_setFlags_10 : decode cP_setFlags 10 = .ok (.iaload, 1) := by decide +kernel
theorem dP_setFlags_11 : decode cP_setFlags 11 = .ok (.iload_n 1, 1) := by decide +kernel
theorem dP_setFlags_12 : decode cP_setFlags 12 = .ok (.iand, 1) := by decide +kernel
theorem dP_setFlags_13 : decode cP_setFlags 13 = .ok (.iload_n 2, 1) := by decide +kernel
theorem dP_setFlags_14 : decode cP_setFlags 14 = .ok (.ior, 1) := by decide +kernel
theorem dP_setFlags_15 : decode cP_setFlags 15 = .ok (.iastore, 1) := by decide +kernel
theorem dP_setFlags_16 : decode cP_setFlags 16 = .ok (.return_, 1) := by decide +kernel
theorem dP_doFirst_0 : decode cP_doFirst 0 = .ok (.iload_n 1, 1) := by decide +kernel
theorem dP_doFirst_1 : decode cP_doFirst 1 = .ok (.iconst 1, 1) := by decide +kernel
theorem dP_doFirst_2 : decode cP_doFirst 2 = .ok (.ishr, 1) := by decide +kernel
theorem dP_doFirst_3 : decode cP_doFirst 3 = .ok (.istore_n 3, 1) := by decide +kernel
theorem dP_doFirst_4 : decode cP_doFirst 4 = .ok (.iload_n 1, 1) := by decide +kernel
theorem dP_doFirst_5 : decode cP_doFirst 5 = .ok (.iconst 1, 1) := by decide +kernel
theorem dP_doFirst_6 : decode cP_doFirst 6 = .ok (.iand, 1) := by decide +kernel
theorem dP_doFirst_7 : decode cP_doFirst 7 = .ok (.iconst 1, 1) := by decide +kernel
theorem dP_doFirst_8 : decode cP_doFirst 8 = .ok (.if_icmp .ne 7, 3) := by decide +kernel
theorem dP_doFirst_11 : decode cP_doFirst 11 = .ok (.iconst 1, 1) := by decide +kernel
theorem dP_doFirst_12 : decode cP_doFirst 12 = .ok (.goto 4, 3) := by decide +kernel
theorem dP_doFirst_15 : decode cP_doFirst 15 = .ok (.iconst 0, 1) := by decide +kernel
theorem dP_doFirst_16 : decode cP_doFirst 16 = .ok (.istore 4, 2) := by decide +kernel
theorem dP_doFirst_18 : decode cP_doFirst 18 = .ok (.iload_n 2, 1) := by decide +kernel
theorem dP_doFirst_19 : decode cP_doFirst 19 = .ok (.tableswitch 158 0 6 #[41, 49, 77, 98, 128, 128, 146], 41) := by decide +kernel
theorem dP_doFirst_60 : decode cP_doFirst 60 = .ok (.aload_n 0, 1) := by decide +kernel
theorem dP_doFirst_61 : decode cP_doFirst 61 = .ok (.iload_n 1, 1) := by decide +kernel
theorem dP_doFirst_62 : decode cP_doFirst 62 = .ok (.invokevirtual 133, 3) := by decide +kernel
theorem dP_doFirst_65 : decode cP_doFirst 65 = .ok (.goto 117, 3) := by decide +kernel
theorem dP_doFirst_68 : decode cP_doFirst 68 = .ok (.iload 4, 2) := by decide +kernel
theorem dP_doFirst_70 : decode cP_doFirst 70 = .ok (.ifCond .eq 11, 3) := by decide +kernel
theorem dP_doFirst_73 : decode cP_doFirst 73 = .ok (.aload_n 0, 1) := by decide +kernel
theorem dP_doFirst_74 : decode cP_doFirst 74 = .ok (.iload_n 3, 1) := by decide +kernel
theorem dP_doFirst_75 : decode cP_doFirst 75 = .ok (.invokevirtual 136, 3) := by decide +kernel
theorem dP_doFirst_78 : decode cP_doFirst 78 = .ok (.goto 104, 3) := by decide +kernel
theorem dP_doFirst_81 : decode cP_doFirst 81 = .ok (.aload_n 0, 1) := by decide +kernel
theorem dP_doFirst_82 : decode cP_doFirst 82 = .ok (.getfield 10, 3) := by decide +kernel
theorem dP_doFirst_85 : decode cP_doFirst 85 = .ok (.iload_n 3, 1) := by decide +kernel
theorem dP_doFirst_86 : decode cP_doFirst 86 = .ok (.aload_n 0, 1) := by decide +kernel
theorem dP_doFirst_87 : decode cP_doFirst 87 = .ok (.invokevirtual 139, 3) := by decide +kernel
theorem dP_doFirst_90 : decode cP_doFirst 90 = .ok (.invokevirtual 142, 3) := by decide +kernel
theorem dP_doFirst_93 : decode cP_doFirst 93 = .ok (.goto 89, 3) := by decide +kernel
theorem dP_doFirst_96 : decode cP_doFirst 96 = .ok (.iload 4, 2) := by decide +kernel
theorem dP_doFirst_98 : decode cP_doFirst 98 = .ok (.ifCond .eq 11, 3) := by decide +kernel
theorem dP_doFirst_101 : decode cP_doFirst 101 = .ok (.aload_n 0, 1) := by decide +kernel
theorem dP_doFirst_102 : decode cP_doFirst 102 = .ok (.iload_n 3, 1) := by decide +kernel
theorem dP_doFirst_103 : decode cP_doFirst 103 = .ok (.invokevirtual 145, 3) := by decide +kernel
theorem dP_doFirst_106 : decode cP_doFirst 106 = .ok (.goto 76, 3) := by decide +kernel
theorem dP_doFirst_109 : decode cP_doFirst 109 = .ok (.aload_n 0, 1) := by decide +kernel
theorem dP_doFirst_110 : decode cP_doFirst 110 = .ok (.iload_n 3, 1) := by decide +kernel
theorem dP_doFirst_111 : decode cP_doFirst 111 = .ok (.invokevirtual 148, 3) := by decide +kernel
theorem dP_doFirst_114 : decode cP_doFirst 114 = .ok (.goto 68, 3) := by decide +kernel
theorem dP_doFirst_117 : decode cP_doFirst 117 = .ok (.aload_n 0, 1) := by decide +kernel
theorem dP_doFirst_118 : decode cP_doFirst 118 = .ok (.getfield 10, 3) := by decide +kernel
theorem dP_doFirst_121 : decode cP_doFirst 121 = .ok (.iload_n 3, 1) := by decide +kernel
theorem dP_doFirst_122 : decode cP_doFirst 122 = .ok (.aload_n 0, 1) := by decide +kernel
theorem dP_doFirst_123 : decode cP_doFirst 123 = .ok (.getfield 10, 3) := by decide +kernel
theorem dP_doFirst_126 : decode cP_doFirst 126 = .ok (.iload_n 3, 1) := by decide +kernel
theorem dP_doFirst_127 : decode cP_doFirst 127 = .ok (.invokevirtual 151, 3) := by decide +kernel
theorem dP_doFirst_130 : decode cP_doFirst 130 = .ok (.iload 4, 2) := by decide +kernel
theorem dP_doFirst_132 : decode cP_doFirst 132 = .ok (.ifCond .eq 7, 3) := by decide +kernel
theorem dP_doFirst_135 : decode cP_doFirst 135 = .ok (.iconst (-1), 1) := by decide +kernel
theorem dP_doFirst_136 : decode cP_doFirst 136 = .ok (.goto 4, 3) := by decide +kernel
theorem dP_doFirst_139 : decode cP_doFirst 139 = .ok (.iconst 1, 1) := by decide +kernel
theorem dP_doFirst_140 : decode cP_doFirst 140 = .ok (.iadd, 1) := by decide +kernel
theorem dP_doFirst_141 : decode cP_doFirst 141 = .ok (.invokevirtual 142, 3) := by decide +kernel
theorem dP_doFirst_144 : decode cP_doFirst 144 = .ok (.goto 38, 3) := by decide +kernel
theorem dP_doFirst_147 : decode cP_doFirst 147 = .ok (.aload_n 0, 1) := by decide +kernel
theorem dP_doFirst_148 : decode cP_doFirst 148 = .ok (.iload_n 1, 1) := by decide +kernel
theorem dP_doFirst_149 : decode cP_doFirst 149 = .ok (.iload_n 2, 1) := by decide +kernel
theorem dP_doFirst_150 : decode cP_doFirst 150 = .ok (.iconst 5, 1) := by decide +kernel
theorem dP_doFirst_151 : decode cP_doFirst 151 = .ok (.if_icmp .ne 7, 3) := by decide +kernel
theorem dP_doFirst_154 : decode cP_doFirst 154 = .ok (.iconst 1, 1) := by decide +kernel
theorem dP_doFirst_155 : decode cP_doFirst 155 = .ok (.goto 4, 3) := by decide +kernel
theorem dP_doFirst_158 : decode cP_doFirst 158 = .ok (.iconst 0, 1) := by decide +kernel
theorem dP_doFirst_159 : decode cP_doFirst 159 = .ok (.invokevirtual 154, 3) := by decide +kernel
theorem dP_doFirst_162 : decode cP_doFirst 162 = .ok (.goto 20, 3) := by decide +kernel
theorem dP_doFirst_165 : decode cP_doFirst 165 = .ok (.aload_n 0, 1) := by decide +kernel
theorem dP_doFirst_166 : decode cP_doFirst 166 = .ok (.iload_n 1, 1) := by decide +kernel
theorem dP_doFirst_167 : decode cP_doFirst 167 = .ok (.aload_n 0, 1) := by decide +kernel
theorem dP_doFirst_168 : decode cP_doFirst 168 = .ok (.invokevirtual 115, 3) := by decide +kernel
theorem dP_doFirst_171 : decode cP_doFirst 171 = .ok (.invokevirtual 79, 3) := by decide +kernel
theorem dP_doFirst_174 : decode cP_doFirst 174 = .ok (.goto 8, 3) := by decide +kernel
theorem dP_doFirst_177 : decode cP_doFirst 177 = .ok (.aload_n 0, 1) := by decide +kernel
theorem dP_doFirst_178 : decode cP_doFirst 178 = .ok (.iload_n 1, 1) := by decide +kernel
theorem dP_doFirst_179 : decode cP_doFirst 179 = .ok (.invokevirtual 158, 3) := by decide +kernel
theorem dP_doFirst_182 : decode cP_doFirst 182 = .ok (.return_, 1) := by decide +kernel
theorem dP_moveNear_0 : decode cP_moveNear 0 = .ok (.iload_n 1, 1) := by decide +kernel
theorem dP_moveNear_1 : decode cP_moveNear 1 = .ok (.ifCond .ne 4, 3) := by decide +kernel
theorem dP_moveNear_4 : decode cP_moveNear 4 = .ok (.return_, 1) := by decide +kernel
theorem dP_moveNear_5 : decode cP_moveNear 5 = .ok (.iload_n 1, 1) := by decide +kernel
theorem dP_moveNear_6 : decode cP_moveNear 6 = .ok (.iconst 1, 1) := by decide +kernel
theorem dP_moveNear_7 : decode cP_moveNear 7 = .ok (.if_icmp .ne 13, 3) := by decide +kernel
theorem dP_moveNear_10 : decode cP_moveNear 10 = .ok (.aload_n 0, 1) := by decide +kernel
theorem dP_moveNear_11 : decode cP_moveNear 11 = .ok (.getfield 10, 3) := by decide +kernel
theorem dP_moveNear_14 : decode cP_moveNear 14 = .ok (.iconst 0, 1) := by decide +kernel
theorem dP_moveNear_15 : decode cP_moveNear 15 = .ok (.iconst 1, 1) := by decide +kernel
theorem dP_moveNear_16 : decode cP_moveNear 16 = .ok (.invokevirtual 161, 3) := by decide +kernel
theorem dP_moveNear_19 : decode cP_moveNear 19 = .ok (.return_, 1) := by decide +kernel
theorem dP_moveNear_20 : decode cP_moveNear 20 = .ok (.aload_n 0, 1) := by decide +kernel
theorem dP_moveNear_21 : decode cP_moveNear 21 = .ok (.invokevirtual 115, 3) := by decide +kernel
theorem dP_moveNear_24 : decode cP_moveNear 24 = .ok (.i2b, 1) := by decide +kernel
theorem dP_moveNear_25 : decode cP_moveNear 25 = .ok (.istore_n 2, 1) := by decide +kernel
theorem dP_moveNear_26 : decode cP_moveNear 26 = .ok (.iload_n 1, 1) := by decide +kernel
theorem dP_moveNear_27 : decode cP_moveNear 27 = .ok (.iconst 3, 1) := by decide +kernel
theorem dP_moveNear_28 : decode cP_moveNear 28 = .ok (.if_icmp .eq 18, 3) := by decide +kernel
theorem dP_moveNear_31 : decode cP_moveNear 31 = .ok (.iload_n 1, 1) := by decide +kernel
theorem dP_moveNear_32 : decode cP_moveNear 32 = .ok (.iconst 3, 1) := by decide +kernel
theorem dP_moveNear_33 : decode cP_moveNear 33 = .ok (.if_icmp .le 17, 3) := by decide +kernel
theorem dP_moveNear_36 : decode cP_moveNear 36 = .ok (.aload_n 0, 1) := by decide +kernel
theorem dP_moveNear_37 : decode cP_moveNear 37 = .ok (.iload_n 1, 1) := by decide +kernel
theorem dP_moveNear_38 : decode cP_moveNear 38 = .ok (.iconst 4, 1) := by decide +kernel
theorem dP_moveNear_39 : decode cP_moveNear 39 = .ok (.isub, 1) := by decide +kernel
theorem dP_moveNear_40 : decode cP_moveNear 40 = .ok (.invokevirtual 164, 3) := by decide +kernel
theorem dP_moveNear_43 : decode cP_moveNear 43 = .ok (.ifCond .eq 7, 3) := by decide +kernel
theorem dP_moveNear_46 : decode cP_moveNear 46 = .ok (.iconst 1, 1) := by decide +kernel
theorem dP_moveNear_47 : decode cP_moveNear 47 = .ok (.goto 4, 3) := by decide +kernel
theorem dP_moveNear_50 : decode cP_moveNear 50 = .ok (.iconst 0, 1) := by decide +kernel
theorem dP_moveNear_51 : decode cP_moveNear 51 = .ok (.istore_n 3, 1) := by decide +kernel
theorem dP_moveNear_52 : decode cP_moveNear 52 = .ok (.iload_n 1, 1) := by decide +kernel
theorem dP_moveNear_53 : decode cP_moveNear 53 = .ok (.iconst 2, 1) := by decide +kernel
theorem dP_moveNear_54 : decode cP_moveNear 54 = .ok (.if_icmp .ne 36, 3) := by decide +kernel
theorem dP_moveNear_57 : decode cP_moveNear 57 = .ok (.aload_n 0, 1) := by decide +kernel
theorem dP_moveNear_58 : decode cP_moveNear 58 = .ok (.getfield 20, 3) := by decide +kernel
theorem dP_moveNear_61 : decode cP_moveNear 61 = .ok (.iconst 2, 1) := by decide +kernel
theorem dP_moveNear_62 : decode cP_moveNear 62 = .ok (.aload_n 0, 1) := by decide +kernel
theorem dP_moveNear_63 : decode cP_moveNear 63 = .ok (.getfield 20, 3) := by decide +kernel
theorem dP_moveNear_66 : decode cP_moveNear 66 = .ok (.iconst 2, 1) := by decide +kernel
theorem dP_moveNear_67 : decode cP_moveNear 67 = .ok (.iaload, 1) := by decide +kernel
theorem dP_moveNear_68 : decode cP_moveNear 68 = .ok (.iconst 1, 1) := by decide +kernel
theorem dP_moveNear_69 : decode cP_moveNear 69 = .ok (.isub, 1) := by decide +kernel
theorem dP_moveNear_70 : decode cP_moveNear 70 = .ok (.sipush 255, 3) := by decide +kernel
theorem dP_moveNear_73 : decode cP_moveNear 73 = .ok (.iand, 1) := by decide +kernel
theorem dP_moveNear_74 : decode cP_moveNear 74 = .ok (.iastore, 1) := by decide +kernel
theorem dP_moveNear_75 : decode cP_moveNear 75 = .ok (.aload_n 0, 1) := by decide +kernel
theorem dP_moveNear_76 : decode cP_moveNear 76 = .ok (.getfield 20, 3) := by decide +kernel
theorem dP_moveNear_79 : decode cP_moveNear 79 = .ok (.iconst 2, 1) := by decide +kernel
theorem dP_moveNear_80 : decode cP_moveNear 80 = .ok (.iaload, 1) := by decide +kernel
theorem dP_moveNear_81 : decode cP_moveNear 81 = .ok (.ifCond .eq 7, 3) := by decide +kernel
theorem dP_moveNear_84 : decode cP_moveNear 84 = .ok (.iconst 1, 1) := by decide +kernel
theorem dP_moveNear_85 : decode cP_moveNear 85 = .ok (.goto 4, 3) := by decide +kernel
theorem dP_moveNear_88 : decode cP_moveNear 88 = .ok (.iconst 0, 1) := by decide +kernel
theorem dP_moveNear_89 : decode cP_moveNear 89 = .ok (.istore_n 3, 1) := by decide +kernel
theorem dP_moveNear_90 : decode cP_moveNear 90 = .ok (.iload_n 3, 1) := by decide +kernel
theorem dP_moveNear_91 : decode cP_moveNear 91 = .ok (.ifCond .eq 8, 3) := by decide +kernel
theorem dP_moveNear_94 : decode cP_moveNear 94 = .ok (.aload_n 0, 1) := by decide +kernel
theorem dP_moveNear_95 : decode cP_moveNear 95 = .ok (.iload_n 2, 1) := by decide +kernel
theorem dP_moveNear_96 : decode cP_moveNear 96 = .ok (.invokevirtual 106, 3) := by decide +kernel
theorem dP_moveNear_99 : decode cP_moveNear 99 = .ok (.return_, 1) := by decide +kernel
theorem dP_addPair_0 : decode cP_addPair 0 = .ok (.aload_n 0, 1) := by decide +kernel
theorem dP_addPair_1 : decode cP_addPair 1 = .ok (.getfield 10, 3) := by decide +kernel
theorem dP_addPair_4 : decode cP_addPair 4 = .ok (.invokevirtual 109, 3) := by decide +kernel
theorem dP_addPair_7 : decode cP_addPair 7 = .ok (.aload_n 0, 1) := by decide +kernel
theorem dP_addPair_8 : decode cP_addPair 8 = .ok (.getfield 10, 3) := by decide +kernel
theorem dP_addPair_11 : decode cP_addPair 11 = .ok (.iload_n 1, 1) := by decide +kernel
theorem dP_addPair_12 : decode cP_addPair 12 = .ok (.invokevirtual 151, 3) := by decide +kernel
theorem dP_addPair_15 : decode cP_addPair 15 = .ok (.iconst 0, 1) := by decide +kernel
theorem dP_addPair_16 : decode cP_addPair 16 = .ok (.invokestatic 167, 3) := by decide +kernel
theorem dP_addPair_19 : decode cP_addPair 19 = .ok (.istore_n 2, 1) := by decide +kernel
theorem dP_addPair_20 : decode cP_addPair 20 = .ok (.aload_n 0, 1) := by decide +kernel
theorem dP_addPair_21 : decode cP_addPair 21 = .ok (.getfield 10, 3) := by decide +kernel
theorem dP_addPair_24 : decode cP_addPair 24 = .ok (.iload_n 2, 1) := by decide +kernel
theorem dP_addPair_25 : decode cP_addPair 25 = .ok (.bipush 8, 2) := by decide +kernel
theorem dP_addPair_27 : decode cP_addPair 27 = .ok (.ishr, 1) := by decide +kernel
theorem dP_addPair_28 : decode cP_addPair 28 = .ok (.invokevirtual 171, 3) := by decide +kernel
theorem dP_addPair_31 : decode cP_addPair 31 = .ok (.sipush 196, 3) := by decide +kernel
theorem dP_addPair_34 : decode cP_addPair 34 = .ok (.istore_n 3, 1) := by decide +kernel
theorem dP_addPair_35 : decode cP_addPair 35 = .ok (.aload_n 0, 1) := by decide +kernel
theorem dP_addPair_36 : decode cP_addPair 36 = .ok (.iload_n 3, 1) := by decide +kernel
theorem dP_addPair_37 : decode cP_addPair 37 = .ok (.iload_n 2, 1) := by decide +kernel
theorem dP_addPair_38 : decode cP_addPair 38 = .ok (.sipush 255, 3) := by decide +kernel
theorem dP_addPair_41 : decode cP_addPair 41 = .ok (.iand, 1) := by decide +kernel
theorem dP_addPair_42 : decode cP_addPair 42 = .ok (.iload_n 3, 1) := by decide +kernel
theorem dP_addPair_43 : decode cP_addPair 43 = .ok (.iconst (-1), 1) := by decide +kernel
theorem dP_addPair_44 : decode cP_addPair 44 = .ok (.ixor, 1) := by decide +kernel
theorem dP_addPair_45 : decode cP_addPair 45 = .ok (.iand, 1) := by decide +kernel
theorem dP_addPair_46 : decode cP_addPair 46 = .ok (.invokevirtual 174, 3) := by decide +kernel
theorem dP_addPair_49 : decode cP_addPair 49 = .ok (.return_, 1) := by decide +kernel
theorem dP_putAt_0 : decode cP_putAt 0 = .ok (.iload_n 1, 1) := by decide +kernel
theorem dP_putAt_1 : decode cP_putAt 1 = .ok (.iconst 2, 1) := by decide +kernel
theorem dP_putAt_2 : decode cP_putAt 2 = .ok (.if_icmp .ge 25, 3) := by decide +kernel
theorem dP_putAt_5 : decode cP_putAt 5 = .ok (.aload_n 0, 1) := by decide +kernel
theorem dP_putAt_6 : decode cP_putAt 6 = .ok (.getfield 21, 3) := by decide +kernel
theorem dP_putAt_9 : decode cP_putAt 9 = .ok (.aload_n 0, 1) := by decide +kernel
theorem dP_putAt_10 : decode cP_putAt 10 = .ok (.getfield 10, 3) := by decide +kernel
theorem dP_putAt_13 : decode cP_putAt 13 = .ok (.iload_n 1, 1) := by decide +kernel
theorem dP_putAt_14 : decode cP_putAt 14 = .ok (.invokevirtual 151, 3) := by decide +kernel
theorem dP_putAt_17 : decode cP_putAt 17 = .ok (.aload_n 0, 1) := by decide +kernel
theorem dP_putAt_18 : decode cP_putAt 18 = .ok (.getfield 20, 3) := by decide +kernel
theorem dP_putAt_21 : decode cP_putAt 21 = .ok (.iconst 0, 1) := by decide +kernel
theorem dP_putAt_22 : decode cP_putAt 22 = .ok (.iaload, 1) := by decide +kernel
theorem dP_putAt_23 : decode cP_putAt 23 = .ok (.invokevirtual 122, 3) := by decide +kernel
theorem dP_putAt_26 : decode cP_putAt 26 = .ok (.return_, 1) := by decide +kernel
theorem dP_putAt_27 : decode cP_putAt 27 = .ok (.aload_n 0, 1) := by decide +kernel
theorem dP_putAt_28 : decode cP_putAt 28 = .ok (.invokevirtual 139, 3) := by decide +kernel
theorem dP_putAt_31 : decode cP_putAt 31 = .ok (.istore_n 2, 1) := by decide +kernel
theorem dP_putAt_32 : decode cP_putAt 32 = .ok (.iload_n 1, 1) := by decide +kernel
theorem dP_putAt_33 : decode cP_putAt 33 = .ok (.iconst 2, 1) := by decide +kernel
theorem dP_putAt_34 : decode cP_putAt 34 = .ok (.if_icmp .ne 18, 3) := by decide +kernel
theorem dP_putAt_37 : decode cP_putAt 37 = .ok (.aload_n 0, 1) := by decide +kernel
theorem dP_putAt_38 : decode cP_putAt 38 = .ok (.iload_n 2, 1) := by decide +kernel
theorem dP_putAt_39 : decode cP_putAt 39 = .ok (.aload_n 0, 1) := by decide +kernel
theorem dP_putAt_40 : decode cP_putAt 40 = .ok (.getfield 10, 3) := by decide +kernel
theorem dP_putAt_43 : decode cP_putAt 43 = .ok (.invokevirtual 109, 3) := by decide +kernel
theorem dP_putAt_46 : decode cP_putAt 46 = .ok (.invokevirtual 177, 3) := by decide +kernel
theorem dP_putAt_49 : decode cP_putAt 49 = .ok (.goto 17, 3) := by decide +kernel
theorem dP_putAt_52 : decode cP_putAt 52 = .ok (.aload_n 0, 1) := by decide +kernel
theorem dP_putAt_53 : decode cP_putAt 53 = .ok (.getfield 21, 3) := by decide +kernel
theorem dP_putAt_56 : decode cP_putAt 56 = .ok (.iload_n 2, 1) := by decide +kernel
theorem dP_putAt_57 : decode cP_putAt 57 = .ok (.aload_n 0, 1) := by decide +kernel
theorem dP_putAt_58 : decode cP_putAt 58 = .ok (.getfield 20, 3) := by decide +kernel
theorem dP_putAt_61 : decode cP_putAt 61 = .ok (.iconst 0, 1) := by decide +kernel
theorem dP_putAt_62 : decode cP_putAt 62 = .ok (.iaload, 1) := by decide +kernel
theorem dP_putAt_63 : decode cP_putAt 63 = .ok (.invokevirtual 122, 3) := by decide +kernel
theorem dP_putAt_66 : decode cP_putAt 66 = .ok (.return_, 1) := by decide +kernel
theorem dP_takeFrom_0 : decode cP_takeFrom 0 = .ok (.iload_n 1, 1) := by decide +kernel
theorem dP_takeFrom_1 : decode cP_takeFrom 1 = .ok (.iconst 2, 1) := by decide +kernel
theorem dP_takeFrom_2 : decode cP_takeFrom 2 = .ok (.if_icmp .ne 19, 3) := by decide +kernel
theorem dP_takeFrom_5 : decode cP_takeFrom 5 = .ok (.aload_n 0, 1) := by decide +kernel
theorem dP_takeFrom_6 : decode cP_takeFrom 6 = .ok (.getfield 10, 3) := by decide +kernel
theorem dP_takeFrom_9 : decode cP_takeFrom 9 = .ok (.aload_n 0, 1) := by decide +kernel
theorem dP_takeFrom_10 : decode cP_takeFrom 10 = .ok (.aload_n 0, 1) := by decide +kernel
theorem dP_takeFrom_11 : decode cP_takeFrom 11 = .ok (.invokevirtual 139, 3) := by decide +kernel
theorem dP_takeFrom_14 : decode cP_takeFrom 14 = .ok (.invokevirtual 103, 3) := by decide +kernel
theorem dP_takeFrom_17 : decode cP_takeFrom 17 = .ok (.invokevirtual 171, 3) := by decide +kernel
theorem dP_takeFrom_20 : decode cP_takeFrom 20 = .ok (.return_, 1) := by decide +kernel
theorem dP_takeFrom_21 : decode cP_takeFrom 21 = .ok (.iload_n 1, 1) := by decide +kernel
theorem dP_takeFrom_22 : decode cP_takeFrom 22 = .ok (.iconst 2, 1) := by decide +kernel
theorem dP_takeFrom_23 : decode cP_takeFrom 23 = .ok (.if_icmp .ge 14, 3) := by decide +kernel
theorem dP_takeFrom_26 : decode cP_takeFrom 26 = .ok (.aload_n 0, 1) := by decide +kernel
theorem dP_takeFrom_27 : decode cP_takeFrom 27 = .ok (.getfield 10, 3) := by decide +kernel
theorem dP_takeFrom_30 : decode cP_takeFrom 30 = .ok (.iload_n 1, 1) := by decide +kernel
theorem dP_takeFrom_31 : decode cP_takeFrom 31 = .ok (.invokevirtual 151, 3) := by decide +kernel
theorem dP_takeFrom_34 : decode cP_takeFrom 34 = .ok (.goto 7, 3) := by decide +kernel
theorem dP_takeFrom_37 : decode cP_takeFrom 37 = .ok (.aload_n 0, 1) := by decide +kernel
theorem dP_takeFrom_38 : decode cP_takeFrom 38 = .ok (.invokevirtual 139, 3) := by decide +kernel
theorem dP_takeFrom_41 : decode cP_takeFrom 41 = .ok (.istore_n 2, 1) := by decide +kernel
theorem dP_takeFrom_42 : decode cP_takeFrom 42 = .ok (.aload_n 0, 1) := by decide +kernel
theorem dP_takeFrom_43 : decode cP_takeFrom 43 = .ok (.getfield 20, 3) := by decide +kernel
theorem dP_takeFrom_46 : decode cP_takeFrom 46 = .ok (.iconst 0, 1) := by decide +kernel
theorem dP_takeFrom_47 : decode cP_takeFrom 47 = .ok (.aload_n 0, 1) := by decide +kernel
theorem dP_takeFrom_48 : decode cP_takeFrom 48 = .ok (.getfield 21, 3) := by decide +kernel
theorem dP_takeFrom_51 : decode cP_takeFrom 51 = .ok (.iload_n 2, 1) := by decide +kernel
theorem dP_takeFrom_52 : decode cP_takeFrom 52 = .ok (.invokevirtual 119, 3) := by decide +kernel
theorem dP_takeFrom_55 : decode cP_takeFrom 55 = .ok (.iastore, 1) := by decide +kernel
theorem dP_takeFrom_56 : decode cP_takeFrom 56 = .ok (.return_, 1) := by decide +kernel
theorem dP_count_0 : decode cP_count 0 = .ok (.aload_n 0, 1) := by decide +kernel
theorem dP_count_1 : decode cP_count 1 = .ok (.iload_n 1, 1) := by decide +kernel
theorem dP_count_2 : decode cP_count 2 = .ok (.invokevirtual 76, 3) := by decide +kernel
theorem dP_count_5 : decode cP_count 5 = .ok (.istore_n 3, 1) := by decide +kernel
theorem dP_count_6 : decode cP_count 6 = .ok (.iload_n 2, 1) := by decide +kernel
theorem dP_count_7 : decode cP_count 7 = .ok (.ifCond .eq 12, 3) := by decide +kernel
theorem dP_count_10 : decode cP_count 10 = .ok (.iload_n 3, 1) := by decide +kernel
theorem dP_count_11 : decode cP_count 11 = .ok (.iconst 1, 1) := by decide +kernel
theorem dP_count_12 : decode cP_count 12 = .ok (.iconst 0, 1) := by decide +kernel
theorem dP_count_13 : decode cP_count 13 = .ok (.invokestatic 180, 3) := by decide +kernel
theorem dP_count_16 : decode cP_count 16 = .ok (.goto 9, 3) := by decide +kernel
theorem dP_count_19 : decode cP_count 19 = .ok (.iload_n 3, 1) := by decide +kernel
theorem dP_count_20 : decode cP_count 20 = .ok (.iconst 1, 1) := by decide +kernel
theorem dP_count_21 : decode cP_count 21 = .ok (.iconst 0, 1) := by decide +kernel
theorem dP_count_22 : decode cP_count 22 = .ok (.invokestatic 183, 3) := by decide +kernel
theorem dP_count_25 : decode cP_count 25 = .ok (.istore 4, 2) := by decide +kernel
theorem dP_count_27 : decode cP_count 27 = .ok (.aload_n 0, 1) := by decide +kernel
theorem dP_count_28 : decode cP_count 28 = .ok (.iconst 1, 1) := by decide +kernel
theorem dP_count_29 : decode cP_count 29 = .ok (.iload 4, 2) := by decide +kernel
theorem dP_count_31 : decode cP_count 31 = .ok (.sipush 255, 3) := by decide +kernel
theorem dP_count_34 : decode cP_count 34 = .ok (.iand, 1) := by decide +kernel
theorem dP_count_35 : decode cP_count 35 = .ok (.bipush (-2), 2) := by decide +kernel
theorem dP_count_37 : decode cP_count 37 = .ok (.iand, 1) := by decide +kernel
theorem dP_count_38 : decode cP_count 38 = .ok (.invokevirtual 174, 3) := by decide +kernel
theorem dP_count_41 : decode cP_count 41 = .ok (.aload_n 0, 1) := by decide +kernel
theorem dP_count_42 : decode cP_count 42 = .ok (.iload_n 1, 1) := by decide +kernel
theorem dP_count_43 : decode cP_count 43 = .ok (.iload 4, 2) := by decide +kernel
theorem dP_count_45 : decode cP_count 45 = .ok (.bipush 8, 2) := by decide +kernel
theorem dP_count_47 : decode cP_count 47 = .ok (.ishr, 1) := by decide +kernel
theorem dP_count_48 : decode cP_count 48 = .ok (.invokevirtual 79, 3) := by decide +kernel
theorem dP_count_51 : decode cP_count 51 = .ok (.return_, 1) := by decide +kernel
theorem dP_changeA_0 : decode cP_changeA 0 = .ok (.aload_n 0, 1) := by decide +kernel
theorem dP_changeA_1 : decode cP_changeA 1 = .ok (.getfield 20, 3) := by decide +kernel
theorem dP_changeA_4 : decode cP_changeA 4 = .ok (.iconst 0, 1) := by decide +kernel
theorem dP_changeA_5 : decode cP_changeA 5 = .ok (.iaload, 1) := by decide +kernel
theorem dP_changeA_6 : decode cP_changeA 6 = .ok (.istore_n 2, 1) := by decide +kernel
theorem dP_changeA_7 : decode cP_changeA 7 = .ok (.sipush 196, 3) := by decide +kernel
theorem dP_changeA_10 : decode cP_changeA 10 = .ok (.istore_n 3, 1) := by decide +kernel
theorem dP_changeA_11 : decode cP_changeA 11 = .ok (.iload_n 1, 1) := by decide +kernel
theorem dP_changeA_12 : decode cP_changeA 12 = .ok (.tableswitch 128 4 7 #[32, 53, 87, 101], 32) := by decide +kernel
theorem dP_changeA_44 : decode cP_changeA 44 = .ok (.aload_n 0, 1) := by decide +kernel
theorem dP_changeA_45 : decode cP_changeA 45 = .ok (.getfield 10, 3) := by decide +kernel
theorem dP_changeA_48 : decode cP_changeA 48 = .ok (.iconst 0, 1) := by decide +kernel
theorem dP_changeA_49 : decode cP_changeA 49 = .ok (.iload_n 2, 1) := by decide +kernel
theorem dP_changeA_50 : decode cP_changeA 50 = .ok (.aload_n 0, 1) := by decide +kernel
theorem dP_changeA_51 : decode cP_changeA 51 = .ok (.getfield 20, 3) := by decide +kernel
theorem dP_changeA_54 : decode cP_changeA 54 = .ok (.iconst 1, 1) := by decide +kernel
theorem dP_changeA_55 : decode cP_changeA 55 = .ok (.iaload, 1) := by decide +kernel
theorem dP_changeA_56 : decode cP_changeA 56 = .ok (.invokestatic 186, 3) := by decide +kernel
theorem dP_changeA_59 : decode cP_changeA 59 = .ok (.invokevirtual 190, 3) := by decide +kernel
theorem dP_changeA_62 : decode cP_changeA 62 = .ok (.goto 115, 3) := by decide +kernel
theorem dP_changeA_65 : decode cP_changeA 65 = .ok (.aload_n 0, 1) := by decide +kernel
theorem dP_changeA_66 : decode cP_changeA 66 = .ok (.getfield 20, 3) := by decide +kernel
theorem dP_changeA_69 : decode cP_changeA 69 = .ok (.iconst 0, 1) := by decide +kernel
theorem dP_changeA_70 : decode cP_changeA 70 = .ok (.iload_n 2, 1) := by decide +kernel
theorem dP_changeA_71 : decode cP_changeA 71 = .ok (.sipush 255, 3) := by decide +kernel
theorem dP_changeA_74 : decode cP_changeA 74 = .ok (.ixor, 1) := by decide +kernel
theorem dP_changeA_75 : decode cP_changeA 75 = .ok (.iastore, 1) := by decide +kernel
theorem dP_changeA_76 : decode cP_changeA 76 = .ok (.aload_n 0, 1) := by decide +kernel
theorem dP_changeA_77 : decode cP_changeA 77 = .ok (.iload_n 3, 1) := by decide +kernel
theorem dP_changeA_78 : decode cP_changeA 78 = .ok (.iconst 1, 1) := by decide +kernel
theorem dP_changeA_79 : decode cP_changeA 79 = .ok (.ior, 1) := by decide +kernel
theorem dP_changeA_80 : decode cP_changeA 80 = .ok (.iload_n 2, 1) := by decide +kernel
theorem dP_changeA_81 : decode cP_changeA 81 = .ok (.sipush 255, 3) := by decide +kernel
theorem dP_changeA_84 : decode cP_changeA 84 = .ok (.ixor, 1) := by decide +kernel
theorem dP_changeA_85 : decode cP_changeA 85 = .ok (.bipush 40, 2) := by decide +kernel
theorem dP_changeA_87 : decode cP_changeA 87 = .ok (.iand, 1) := by decide +kernel
theorem dP_changeA_88 : decode cP_changeA 88 = .ok (.bipush 16, 2) := by decide +kernel
theorem dP_changeA_90 : decode cP_changeA 90 = .ok (.ior, 1) := by decide +kernel
theorem dP_changeA_91 : decode cP_changeA 91 = .ok (.iconst 2, 1) := by decide +kernel
theorem dP_changeA_92 : decode cP_changeA 92 = .ok (.ior, 1) := by decide +kernel
theorem dP_changeA_93 : decode cP_changeA 93 = .ok (.invokevirtual 174, 3) := by decide +kernel
theorem dP_changeA_96 : decode cP_changeA 96 = .ok (.goto 81, 3) := by decide +kernel
theorem dP_changeA_99 : decode cP_changeA 99 = .ok (.aload_n 0, 1) := by decide +kernel
theorem dP_changeA_100 : decode cP_changeA 100 = .ok (.iload_n 3, 1) := by decide +kernel
theorem dP_changeA_101 : decode cP_changeA 101 = .ok (.iload_n 2, 1) := by decide +kernel
theorem dP_changeA_102 : decode cP_changeA 102 = .ok (.bipush 40, 2) := by decide +kernel
theorem dP_changeA_104 : decode cP_changeA 104 = .ok (.iand, 1) := by decide +kernel
theorem dP_changeA_105 : decode cP_changeA 105 = .ok (.iconst 1, 1) := by decide +kernel
theorem dP_changeA_106 : decode cP_changeA 106 = .ok (.ior, 1) := by decide +kernel
theorem dP_changeA_107 : decode cP_changeA 107 = .ok (.invokevirtual 174, 3) := by decide +kernel
theorem dP_changeA_110 : decode cP_changeA 110 = .ok (.goto 67, 3) := by decide +kernel
theorem dP_changeA_113 : decode cP_changeA 113 = .ok (.aload_n 0, 1) := by decide +kernel
theorem dP_changeA_114 : decode cP_changeA 114 = .ok (.iload_n 3, 1) := by decide +kernel
theorem dP_changeA_115 : decode cP_changeA 115 = .ok (.iload_n 2, 1) := by decide +kernel
theorem dP_changeA_116 : decode cP_changeA 116 = .ok (.bipush 40, 2) := by decide +kernel
theorem dP_changeA_118 : decode cP_changeA 118 = .ok (.iand, 1) := by decide +kernel
theorem dP_changeA_119 : decode cP_changeA 119 = .ok (.aload_n 0, 1) := by decide +kernel
theorem dP_changeA_120 : decode cP_changeA 120 = .ok (.invokevirtual 193, 3) := by decide +kernel
theorem dP_changeA_123 : decode cP_changeA 123 = .ok (.iconst 1, 1) := by decide +kernel
theorem dP_changeA_124 : decode cP_changeA 124 = .ok (.if_icmp .ne 8, 3) := by decide +kernel
theorem dP_changeA_127 : decode cP_changeA 127 = .ok (.bipush 16, 2) := by decide +kernel
theorem dP_changeA_129 : decode cP_changeA 129 = .ok (.goto 4, 3) := by decide +kernel
theorem dP_changeA_132 : decode cP_changeA 132 = .ok (.iconst 1, 1) := by decide +kernel
theorem dP_changeA_133 : decode cP_changeA 133 = .ok (.ior, 1) := by decide +kernel
theorem dP_changeA_134 : decode cP_changeA 134 = .ok (.invokevirtual 174, 3) := by decide +kernel
theorem dP_changeA_137 : decode cP_changeA 137 = .ok (.goto 40, 3) := by decide +kernel
theorem dP_changeA_140 : decode cP_changeA 140 = .ok (.iload_n 1, 1) := by decide +kernel
theorem dP_changeA_141 : decode cP_changeA 141 = .ok (.iload_n 2, 1) := by decide +kernel
theorem dP_changeA_142 : decode cP_changeA 142 = .ok (.aload_n 0, 1) := by decide +kernel
theorem dP_changeA_143 : decode cP_changeA 143 = .ok (.invokevirtual 193, 3) := by decide +kernel
theorem dP_changeA_146 : decode cP_changeA 146 = .ok (.invokestatic 196, 3) := by decide +kernel
theorem dP_changeA_149 : decode cP_changeA 149 = .ok (.istore 4, 2) := by decide +kernel
theorem dP_changeA_151 : decode cP_changeA 151 = .ok (.aload_n 0, 1) := by decide +kernel
theorem dP_changeA_152 : decode cP_changeA 152 = .ok (.getfield 20, 3) := by decide +kernel
theorem dP_changeA_155 : decode cP_changeA 155 = .ok (.iconst 0, 1) := by decide +kernel
theorem dP_changeA_156 : decode cP_changeA 156 = .ok (.iload 4, 2) := by decide +kernel
theorem dP_changeA_158 : decode cP_changeA 158 = .ok (.bipush 8, 2) := by decide +kernel
theorem dP_changeA_160 : decode cP_changeA 160 = .ok (.ishr, 1) := by decide +kernel
theorem dP_changeA_161 : decode cP_changeA 161 = .ok (.iastore, 1) := by decide +kernel
theorem dP_changeA_162 : decode cP_changeA 162 = .ok (.aload_n 0, 1) := by decide +kernel
theorem dP_changeA_163 : decode cP_changeA 163 = .ok (.iload_n 3, 1) := by decide +kernel
theorem dP_changeA_164 : decode cP_changeA 164 = .ok (.iload 4, 2) := by decide +kernel
theorem dP_changeA_166 : decode cP_changeA 166 = .ok (.sipush 255, 3) := by decide +kernel
theorem dP_changeA_169 : decode cP_changeA 169 = .ok (.iand, 1) := by decide +kernel
theorem dP_changeA_170 : decode cP_changeA 170 = .ok (.iload_n 3, 1) := by decide +kernel
theorem dP_changeA_171 : decode cP_changeA 171 = .ok (.iconst (-1), 1) := by decide +kernel
theorem dP_changeA_172 : decode cP_changeA 172 = .ok (.ixor, 1) := by decide +kernel
theorem dP_changeA_173 : decode cP_changeA 173 = .ok (.iand, 1) := by decide +kernel
theorem dP_changeA_174 : decode cP_changeA 174 = .ok (.invokevirtual 174, 3) := by decide +kernel
theorem dP_changeA_177 : decode cP_changeA 177 = .ok (.return_, 1) := by decide +kernel
theorem dP_operate_0 : decode cP_operate 0 = .ok (.aload_n 0, 1) := by decide +kernel
theorem dP_operate_1 : decode cP_operate 1 = .ok (.getfield 20, 3) := by decide +kernel
theorem dP_operate_4 : decode cP_operate 4 = .ok (.iconst 0, 1) := by decide +kernel
theorem dP_operate_5 : decode cP_operate 5 = .ok (.iaload, 1) := by decide +kernel
theorem dP_operate_6 : decode cP_operate 6 = .ok (.istore_n 3, 1) := by decide +kernel
theorem dP_operate_7 : decode cP_operate 7 = .ok (.iload_n 1, 1) := by decide +kernel
theorem dP_operate_8 : decode cP_operate 8 = .ok (.tableswitch 130 0 6 #[44, 55, 69, 80, 94, 108, 119], 44) := by decide +kernel
theorem dP_operate_52 : decode cP_operate 52 = .ok (.iload_n 3, 1) := by decide +kernel
theorem dP_operate_53 : decode cP_operate 53 = .ok (.iload_n 2, 1) := by decide +kernel
theorem dP_operate_54 : decode cP_operate 54 = .ok (.iconst 0, 1) := by decide +kernel
theorem dP_operate_55 : decode cP_operate 55 = .ok (.invokestatic 183, 3) := by decide +kernel
theorem dP_operate_58 : decode cP_operate 58 = .ok (.istore 4, 2) := by decide +kernel
theorem dP_operate_60 : decode cP_operate 60 = .ok (.goto 85, 3) := by decide +kernel
theorem dP_operate_63 : decode cP_operate 63 = .ok (.iload_n 3, 1) := by decide +kernel
theorem dP_operate_64 : decode cP_operate 64 = .ok (.iload_n 2, 1) := by decide +kernel
theorem dP_operate_65 : decode cP_operate 65 = .ok (.aload_n 0, 1) := by decide +kernel
theorem dP_operate_66 : decode cP_operate 66 = .ok (.invokevirtual 193, 3) := by decide +kernel
theorem dP_operate_69 : decode cP_operate 69 = .ok (.invokestatic 183, 3) := by decide +kernel
theorem dP_operate_72 : decode cP_operate 72 = .ok (.istore 4, 2) := by decide +kernel
theorem dP_operate_74 : decode cP_operate 74 = .ok (.goto 71, 3) := by decide +kernel
theorem dP_operate_77 : decode cP_operate 77 = .ok (.iload_n 3, 1) := by decide +kernel
theorem dP_operate_78 : decode cP_operate 78 = .ok (.iload_n 2, 1) := by decide +kernel
theorem dP_operate_79 : decode cP_operate 79 = .ok (.iconst 0, 1) := by decide +kernel
theorem dP_operate_80 : decode cP_operate 80 = .ok (.invokestatic 180, 3) := by decide +kernel
theorem dP_operate_83 : decode cP_operate 83 = .ok (.istore 4, 2) := by decide +kernel
theorem dP_operate_85 : decode cP_operate 85 = .ok (.goto 60, 3) := by decide +kernel
theorem dP_operate_88 : decode cP_operate 88 = .ok (.iload_n 3, 1) := by decide +kernel
theorem dP_operate_89 : decode cP_operate 89 = .ok (.iload_n 2, 1) := by decide +kernel
theorem dP_operate_90 : decode cP_operate 90 = .ok (.aload_n 0, 1) := by decide +kernel
theorem dP_operate_91 : decode cP_operate 91 = .ok (.invokevirtual 193, 3) := by decide +kernel
theorem dP_operate_94 : decode cP_operate 94 = .ok (.invokestatic 180, 3) := by decide +kernel
theorem dP_operate_97 : decode cP_operate 97 = .ok (.istore 4, 2) := by decide +kernel
theorem dP_operate_99 : decode cP_operate 99 = .ok (.goto 46, 3) := by decide +kernel
theorem dP_operate_102 : decode cP_operate 102 = .ok (.iload_n 3, 1) := by decide +kernel
theorem dP_operate_103 : decode cP_operate 103 = .ok (.iload_n 2, 1) := by decide +kernel
theorem dP_operate_104 : decode cP_operate 104 = .ok (.iand, 1) := by decide +kernel
theorem dP_operate_105 : decode cP_operate 105 = .ok (.invokestatic 199, 3) := by decide +kernel
theorem dP_operate_108 : decode cP_operate 108 = .ok (.bipush 16, 2) := by decide +kernel
theorem dP_operate_110 : decode cP_operate 110 = .ok (.ior, 1) := by decide +kernel
theorem dP_operate_111 : decode cP_operate 111 = .ok (.istore 4, 2) := by decide +kernel
theorem dP_operate_113 : decode cP_operate 113 = .ok (.goto 32, 3) := by decide +kernel
theorem dP_operate_116 : decode cP_operate 116 = .ok (.iload_n 3, 1) := by decide +kernel
theorem dP_operate_117 : decode cP_operate 117 = .ok (.iload_n 2, 1) := by decide +kernel
theorem dP_operate_118 : decode cP_operate 118 = .ok (.ixor, 1) := by decide +kernel
theorem dP_operate_119 : decode cP_operate 119 = .ok (.invokestatic 199, 3) := by decide +kernel
theorem dP_operate_122 : decode cP_operate 122 = .ok (.istore 4, 2) := by decide +kernel
theorem dP_operate_124 : decode cP_operate 124 = .ok (.goto 21, 3) := by decide +kernel
theorem dP_operate_127 : decode cP_operate 127 = .ok (.iload_n 3, 1) := by decide +kernel
theorem dP_operate_128 : decode cP_operate 128 = .ok (.iload_n 2, 1) := by decide +kernel
theorem dP_operate_129 : decode cP_operate 129 = .ok (.ior, 1) := by decide +kernel
theorem dP_operate_130 : decode cP_operate 130 = .ok (.invokestatic 199, 3) := by decide +kernel
theorem dP_operate_133 : decode cP_operate 133 = .ok (.istore 4, 2) := by decide +kernel
theorem dP_operate_135 : decode cP_operate 135 = .ok (.goto 10, 3) := by decide +kernel
theorem dP_operate_138 : decode cP_operate 138 = .ok (.iload_n 3, 1) := by decide +kernel
theorem dP_operate_139 : decode cP_operate 139 = .ok (.iload_n 2, 1) := by decide +kernel
theorem dP_operate_140 : decode cP_operate 140 = .ok (.invokestatic 202, 3) := by decide +kernel
theorem dP_operate_143 : decode cP_operate 143 = .ok (.istore 4, 2) := by decide +kernel
theorem dP_operate_145 : decode cP_operate 145 = .ok (.aload_n 0, 1) := by decide +kernel
theorem dP_operate_146 : decode cP_operate 146 = .ok (.getfield 10, 3) := by decide +kernel
theorem dP_operate_149 : decode cP_operate 149 = .ok (.iconst 0, 1) := by decide +kernel
theorem dP_operate_150 : decode cP_operate 150 = .ok (.iload 4, 2) := by decide +kernel
theorem dP_operate_152 : decode cP_operate 152 = .ok (.invokevirtual 190, 3) := by decide +kernel
theorem dP_operate_155 : decode cP_operate 155 = .ok (.return_, 1) := by decide +kernel
theorem dP_doLast_0 : decode cP_doLast 0 = .ok (.iload_n 2, 1) := by decide +kernel
theorem dP_doLast_1 : decode cP_doLast 1 = .ok (.iconst 2, 1) := by decide +kernel
theorem dP_doLast_2 : decode cP_doLast 2 = .ok (.if_icmp .eq 8, 3) := by decide +kernel
theorem dP_doLast_5 : decode cP_doLast 5 = .ok (.iload_n 2, 1) := by decide +kernel
theorem dP_doLast_6 : decode cP_doLast 6 = .ok (.iconst 4, 1) := by decide +kernel
theorem dP_doLast_7 : decode cP_doLast 7 = .ok (.if_icmp .ne 10, 3) := by decide +kernel
theorem dP_doLast_10 : decode cP_doLast 10 = .ok (.aload_n 0, 1) := by decide +kernel
theorem dP_doLast_11 : decode cP_doLast 11 = .ok (.invokevirtual 139, 3) := by decide +kernel
theorem dP_doLast_14 : decode cP_doLast 14 = .ok (.goto 4, 3) := by decide +kernel
theorem dP_doLast_17 : decode cP_doLast 17 = .ok (.iconst 0, 1) := by decide +kernel
theorem dP_doLast_18 : decode cP_doLast 18 = .ok (.istore_n 3, 1) := by decide +kernel
theorem dP_doLast_19 : decode cP_doLast 19 = .ok (.iload_n 2, 1) := by decide +kernel
theorem dP_doLast_20 : decode cP_doLast 20 = .ok (.tableswitch 113 0 6 #[44, 113, 66, 113, 85, 113, 101], 44) := by decide +kernel
theorem dP_doLast_64 : decode cP_doLast 64 = .ok (.aload_n 0, 1) := by decide +kernel
theorem dP_doLast_65 : decode cP_doLast 65 = .ok (.iload_n 1, 1) := by decide +kernel
theorem dP_doLast_66 : decode cP_doLast 66 = .ok (.invokevirtual 164, 3) := by decide +kernel
theorem dP_doLast_69 : decode cP_doLast 69 = .ok (.ifCond .eq 72, 3) := by decide +kernel
theorem dP_doLast_72 : decode cP_doLast 72 = .ok (.aload_n 0, 1) := by decide +kernel
theorem dP_doLast_73 : decode cP_doLast 73 = .ok (.getfield 20, 3) := by decide +kernel
theorem dP_doLast_76 : decode cP_doLast 76 = .ok (.bipush 21, 2) := by decide +kernel
theorem dP_doLast_78 : decode cP_doLast 78 = .ok (.aload_n 0, 1) := by decide +kernel
theorem dP_doLast_79 : decode cP_doLast 79 = .ok (.invokevirtual 205, 3) := by decide +kernel
theorem dP_doLast_82 : decode cP_doLast 82 = .ok (.iastore, 1) := by decide +kernel
theorem dP_doLast_83 : decode cP_doLast 83 = .ok (.goto 58, 3) := by decide +kernel
theorem dP_doLast_86 : decode cP_doLast 86 = .ok (.aload_n 0, 1) := by decide +kernel
theorem dP_doLast_87 : decode cP_doLast 87 = .ok (.iload_n 1, 1) := by decide +kernel
theorem dP_doLast_88 : decode cP_doLast 88 = .ok (.invokevirtual 164, 3) := by decide +kernel
theorem dP_doLast_91 : decode cP_doLast 91 = .ok (.ifCond .eq 50, 3) := by decide +kernel
theorem dP_doLast_94 : decode cP_doLast 94 = .ok (.aload_n 0, 1) := by decide +kernel
theorem dP_doLast_95 : decode cP_doLast 95 = .ok (.getfield 20, 3) := by decide +kernel
theorem dP_doLast_98 : decode cP_doLast 98 = .ok (.bipush 21, 2) := by decide +kernel
theorem dP_doLast_100 : decode cP_doLast 100 = .ok (.iload_n 3, 1) := by decide +kernel
theorem dP_doLast_101 : decode cP_doLast 101 = .ok (.iastore, 1) := by decide +kernel
theorem dP_doLast_102 : decode cP_doLast 102 = .ok (.goto 39, 3) := by decide +kernel
theorem dP_doLast_105 : decode cP_doLast 105 = .ok (.aload_n 0, 1) := by decide +kernel
theorem dP_doLast_106 : decode cP_doLast 106 = .ok (.iload_n 1, 1) := by decide +kernel
theorem dP_doLast_107 : decode cP_doLast 107 = .ok (.invokevirtual 164, 3) := by decide +kernel
theorem dP_doLast_110 : decode cP_doLast 110 = .ok (.ifCond .eq 31, 3) := by decide +kernel
theorem dP_doLast_113 : decode cP_doLast 113 = .ok (.aload_n 0, 1) := by decide +kernel
theorem dP_doLast_114 : decode cP_doLast 114 = .ok (.iload_n 3, 1) := by decide +kernel
theorem dP_doLast_115 : decode cP_doLast 115 = .ok (.invokevirtual 208, 3) := by decide +kernel
theorem dP_doLast_118 : decode cP_doLast 118 = .ok (.goto 23, 3) := by decide +kernel
theorem dP_doLast_121 : decode cP_doLast 121 = .ok (.aload_n 0, 1) := by decide +kernel
theorem dP_doLast_122 : decode cP_doLast 122 = .ok (.iload_n 1, 1) := by decide +kernel
theorem dP_doLast_123 : decode cP_doLast 123 = .ok (.aload_n 0, 1) := by decide +kernel
theorem dP_doLast_124 : decode cP_doLast 124 = .ok (.invokevirtual 115, 3) := by decide +kernel
theorem dP_doLast_127 : decode cP_doLast 127 = .ok (.invokevirtual 82, 3) := by decide +kernel
theorem dP_doLast_130 : decode cP_doLast 130 = .ok (.goto 11, 3) := by decide +kernel
theorem dP_doLast_133 : decode cP_doLast 133 = .ok (.aload_n 0, 1) := by decide +kernel
theorem dP_doLast_134 : decode cP_doLast 134 = .ok (.bipush 8, 2) := by decide +kernel
theorem dP_doLast_136 : decode cP_doLast 136 = .ok (.iload_n 1, 1) := by decide +kernel
theorem dP_doLast_137 : decode cP_doLast 137 = .ok (.imul, 1) := by decide +kernel
theorem dP_doLast_138 : decode cP_doLast 138 = .ok (.invokevirtual 208, 3) := by decide +kernel
theorem dP_doLast_141 : decode cP_doLast 141 = .ok (.return_, 1) := by decide +kernel
theorem dP_popOrGo_0 : decode cP_popOrGo 0 = .ok (.iload_n 1, 1) := by decide +kernel
theorem dP_popOrGo_1 : decode cP_popOrGo 1 = .ok (.tableswitch 119 1 7 #[43, 119, 57, 119, 70, 87, 102], 43) := by decide +kernel
theorem dP_popOrGo_44 : decode cP_popOrGo 44 = .ok (.aload_n 0, 1) := by decide +kernel
theorem dP_popOrGo_45 : decode cP_popOrGo 45 = .ok (.getfield 20, 3) := by decide +kernel
theorem dP_popOrGo_48 : decode cP_popOrGo 48 = .ok (.bipush 21, 2) := by decide +kernel
theorem dP_popOrGo_50 : decode cP_popOrGo 50 = .ok (.aload_n 0, 1) := by decide +kernel
theorem dP_popOrGo_51 : decode cP_popOrGo 51 = .ok (.invokevirtual 205, 3) := by decide +kernel
theorem dP_popOrGo_54 : decode cP_popOrGo 54 = .ok (.iastore, 1) := by decide +kernel
theorem dP_popOrGo_55 : decode cP_popOrGo 55 = .ok (.goto 79, 3) := by decide +kernel
theorem dP_popOrGo_58 : decode cP_popOrGo 58 = .ok (.aload_n 0, 1) := by decide +kernel
theorem dP_popOrGo_59 : decode cP_popOrGo 59 = .ok (.getfield 10, 3) := by decide +kernel
theorem dP_popOrGo_62 : decode cP_popOrGo 62 = .ok (.iconst 2, 1) := by decide +kernel
theorem dP_popOrGo_63 : decode cP_popOrGo 63 = .ok (.bipush 7, 2) := by decide +kernel
theorem dP_popOrGo_65 : decode cP_popOrGo 65 = .ok (.invokevirtual 161, 3) := by decide +kernel
theorem dP_popOrGo_68 : decode cP_popOrGo 68 = .ok (.goto 66, 3) := by decide +kernel
theorem dP_popOrGo_71 : decode cP_popOrGo 71 = .ok (.aload_n 0, 1) := by decide +kernel
theorem dP_popOrGo_72 : decode cP_popOrGo 72 = .ok (.getfield 20, 3) := by decide +kernel
theorem dP_popOrGo_75 : decode cP_popOrGo 75 = .ok (.bipush 21, 2) := by decide +kernel
theorem dP_popOrGo_77 : decode cP_popOrGo 77 = .ok (.aload_n 0, 1) := by decide +kernel
theorem dP_popOrGo_78 : decode cP_popOrGo 78 = .ok (.getfield 10, 3) := by decide +kernel
theorem dP_popOrGo_81 : decode cP_popOrGo 81 = .ok (.invokevirtual 109, 3) := by decide +kernel
theorem dP_popOrGo_84 : decode cP_popOrGo 84 = .ok (.iastore, 1) := by decide +kernel
theorem dP_popOrGo_85 : decode cP_popOrGo 85 = .ok (.goto 49, 3) := by decide +kernel
theorem dP_popOrGo_88 : decode cP_popOrGo 88 = .ok (.aload_n 0, 1) := by decide +kernel
theorem dP_popOrGo_89 : decode cP_popOrGo 89 = .ok (.getfield 10, 3) := by decide +kernel
theorem dP_popOrGo_92 : decode cP_popOrGo 92 = .ok (.iconst 0, 1) := by decide +kernel
theorem dP_popOrGo_93 : decode cP_popOrGo 93 = .ok (.aload_n 0, 1) := by decide +kernel
theorem dP_popOrGo_94 : decode cP_popOrGo 94 = .ok (.invokevirtual 205, 3) := by decide +kernel
theorem dP_popOrGo_97 : decode cP_popOrGo 97 = .ok (.invokevirtual 190, 3) := by decide +kernel
theorem dP_popOrGo_100 : decode cP_popOrGo 100 = .ok (.goto 34, 3) := by decide +kernel
theorem dP_popOrGo_103 : decode cP_popOrGo 103 = .ok (.aload_n 0, 1) := by decide +kernel
theorem dP_popOrGo_104 : decode cP_popOrGo 104 = .ok (.getfield 20, 3) := by decide +kernel
theorem dP_popOrGo_107 : decode cP_popOrGo 107 = .ok (.bipush 20, 2) := by decide +kernel
theorem dP_popOrGo_109 : decode cP_popOrGo 109 = .ok (.aload_n 0, 1) := by decide +kernel
theorem dP_popOrGo_110 : decode cP_popOrGo 110 = .ok (.getfield 10, 3) := by decide +kernel
theorem dP_popOrGo_113 : decode cP_popOrGo 113 = .ok (.invokevirtual 109, 3) := by decide +kernel
theorem dP_popOrGo_116 : decode cP_popOrGo 116 = .ok (.iastore, 1) := by decide +kernel
theorem dP_popOrGo_117 : decode cP_popOrGo 117 = .ok (.goto 17, 3) := by decide +kernel
theorem dP_popOrGo_120 : decode cP_popOrGo 120 = .ok (.aload_n 0, 1) := by decide +kernel
theorem dP_popOrGo_121 : decode cP_popOrGo 121 = .ok (.getfield 10, 3) := by decide +kernel
theorem dP_popOrGo_124 : decode cP_popOrGo 124 = .ok (.iload_n 1, 1) := by decide +kernel
theorem dP_popOrGo_125 : decode cP_popOrGo 125 = .ok (.iconst 1, 1) := by decide +kernel
theorem dP_popOrGo_126 : decode cP_popOrGo 126 = .ok (.ishr, 1) := by decide +kernel
theorem dP_popOrGo_127 : decode cP_popOrGo 127 = .ok (.aload_n 0, 1) := by decide +kernel
theorem dP_popOrGo_128 : decode cP_popOrGo 128 = .ok (.invokevirtual 205, 3) := by decide +kernel
theorem dP_popOrGo_131 : decode cP_popOrGo 131 = .ok (.invokevirtual 142, 3) := by decide +kernel
theorem dP_popOrGo_134 : decode cP_popOrGo 134 = .ok (.return_, 1) := by decide +kernel
theorem dP_pushOrCall_0 : decode cP_pushOrCall 0 = .ok (.iload_n 1, 1) := by decide +kernel
theorem dP_pushOrCall_1 : decode cP_pushOrCall 1 = .ok (.iconst 1, 1) := by decide +kernel
theorem dP_pushOrCall_2 : decode cP_pushOrCall 2 = .ok (.iand, 1) := by decide +kernel
theorem dP_pushOrCall_3 : decode cP_pushOrCall 3 = .ok (.iconst 1, 1) := by decide +kernel
theorem dP_pushOrCall_4 : decode cP_pushOrCall 4 = .ok (.if_icmp .ne 14, 3) := by decide +kernel
theorem dP_pushOrCall_7 : decode cP_pushOrCall 7 = .ok (.aload_n 0, 1) := by decide +kernel
theorem dP_pushOrCall_8 : decode cP_pushOrCall 8 = .ok (.aload_n 0, 1) := by decide +kernel
theorem dP_pushOrCall_9 : decode cP_pushOrCall 9 = .ok (.invokevirtual 139, 3) := by decide +kernel
theorem dP_pushOrCall_12 : decode cP_pushOrCall 12 = .ok (.invokevirtual 208, 3) := by decide +kernel
theorem dP_pushOrCall_15 : decode cP_pushOrCall 15 = .ok (.goto 34, 3) := by decide +kernel
theorem dP_pushOrCall_18 : decode cP_pushOrCall 18 = .ok (.aload_n 0, 1) := by decide +kernel
theorem dP_pushOrCall_19 : decode cP_pushOrCall 19 = .ok (.iload_n 1, 1) := by decide +kernel
theorem dP_pushOrCall_20 : decode cP_pushOrCall 20 = .ok (.bipush 6, 2) := by decide +kernel
theorem dP_pushOrCall_22 : decode cP_pushOrCall 22 = .ok (.if_icmp .ne 14, 3) := by decide +kernel
theorem dP_pushOrCall_25 : decode cP_pushOrCall 25 = .ok (.aload_n 0, 1) := by decide +kernel
theorem dP_pushOrCall_26 : decode cP_pushOrCall 26 = .ok (.getfield 10, 3) := by decide +kernel
theorem dP_pushOrCall_29 : decode cP_pushOrCall 29 = .ok (.iconst 0, 1) := by decide +kernel
theorem dP_pushOrCall_30 : decode cP_pushOrCall 30 = .ok (.invokevirtual 211, 3) := by decide +kernel
theorem dP_pushOrCall_33 : decode cP_pushOrCall 33 = .ok (.goto 13, 3) := by decide +kernel
theorem dP_pushOrCall_36 : decode cP_pushOrCall 36 = .ok (.aload_n 0, 1) := by decide +kernel
theorem dP_pushOrCall_37 : decode cP_pushOrCall 37 = .ok (.getfield 10, 3) := by decide +kernel
theorem dP_pushOrCall_40 : decode cP_pushOrCall 40 = .ok (.iload_n 1, 1) := by decide +kernel
theorem dP_pushOrCall_41 : decode cP_pushOrCall 41 = .ok (.iconst 1, 1) := by decide +kernel
theorem dP_pushOrCall_42 : decode cP_pushOrCall 42 = .ok (.ishr, 1) := by decide +kernel
theorem dP_pushOrCall_43 : decode cP_pushOrCall 43 = .ok (.invokevirtual 151, 3) := by decide +kernel
theorem dP_pushOrCall_46 : decode cP_pushOrCall 46 = .ok (.invokevirtual 100, 3) := by decide +kernel
theorem dP_pushOrCall_49 : decode cP_pushOrCall 49 = .ok (.return_, 1) := by decide +kernel
theorem dP_doMixed_0 : decode cP_doMixed 0 = .ok (.aload_n 0, 1) := by decide +kernel
theorem dP_doMixed_1 : decode cP_doMixed 1 = .ok (.getfield 20, 3) := by decide +kernel
theorem dP_doMixed_4 : decode cP_doMixed 4 = .ok (.iconst 0, 1) := by decide +kernel
theorem dP_doMixed_5 : decode cP_doMixed 5 = .ok (.iaload, 1) := by decide +kernel
theorem dP_doMixed_6 : decode cP_doMixed 6 = .ok (.istore_n 2, 1) := by decide +kernel
theorem dP_doMixed_7 : decode cP_doMixed 7 = .ok (.iload_n 1, 1) := by decide +kernel
theorem dP_doMixed_8 : decode cP_doMixed 8 = .ok (.tableswitch 211 0 7 #[48, 211, 62, 82, 107, 148, 171, 171], 48) := by decide +kernel
theorem dP_doMixed_56 : decode cP_doMixed 56 = .ok (.aload_n 0, 1) := by decide +kernel
theorem dP_doMixed_57 : decode cP_doMixed 57 = .ok (.getfield 20, 3) := by decide +kernel
theorem dP_doMixed_60 : decode cP_doMixed 60 = .ok (.bipush 21, 2) := by decide +kernel
theorem dP_doMixed_62 : decode cP_doMixed 62 = .ok (.aload_n 0, 1) := by decide +kernel
theorem dP_doMixed_63 : decode cP_doMixed 63 = .ok (.invokevirtual 139, 3) := by decide +kernel
theorem dP_doMixed_66 : decode cP_doMixed 66 = .ok (.iastore, 1) := by decide +kernel
theorem dP_doMixed_67 : decode cP_doMixed 67 = .ok (.goto 152, 3) := by decide +kernel
theorem dP_doMixed_70 : decode cP_doMixed 70 = .ok (.aload_n 0, 1) := by decide +kernel
theorem dP_doMixed_71 : decode cP_doMixed 71 = .ok (.getfield 21, 3) := by decide +kernel
theorem dP_doMixed_74 : decode cP_doMixed 74 = .ok (.iload_n 2, 1) := by decide +kernel
theorem dP_doMixed_75 : decode cP_doMixed 75 = .ok (.bipush 8, 2) := by decide +kernel
theorem dP_doMixed_77 : decode cP_doMixed 77 = .ok (.ishl, 1) := by decide +kernel
theorem dP_doMixed_78 : decode cP_doMixed 78 = .ok (.aload_n 0, 1) := by decide +kernel
theorem dP_doMixed_79 : decode cP_doMixed 79 = .ok (.invokevirtual 115, 3) := by decide +kernel
theorem dP_doMixed_82 : decode cP_doMixed 82 = .ok (.ior, 1) := by decide +kernel
theorem dP_doMixed_83 : decode cP_doMixed 83 = .ok (.iload_n 2, 1) := by decide +kernel
theorem dP_doMixed_84 : decode cP_doMixed 84 = .ok (.invokevirtual 214, 3) := by decide +kernel
theorem dP_doMixed_87 : decode cP_doMixed 87 = .ok (.goto 132, 3) := by decide +kernel
theorem dP_doMixed_90 : decode cP_doMixed 90 = .ok (.aload_n 0, 1) := by decide +kernel
theorem dP_doMixed_91 : decode cP_doMixed 91 = .ok (.getfield 20, 3) := by decide +kernel
theorem dP_doMixed_94 : decode cP_doMixed 94 = .ok (.iconst 0, 1) := by decide +kernel
theorem dP_doMixed_95 : decode cP_doMixed 95 = .ok (.aload_n 0, 1) := by decide +kernel
theorem dP_doMixed_96 : decode cP_doMixed 96 = .ok (.getfield 21, 3) := by decide +kernel
theorem dP_doMixed_99 : decode cP_doMixed 99 = .ok (.iload_n 2, 1) := by decide +kernel
theorem dP_doMixed_100 : decode cP_doMixed 100 = .ok (.bipush 8, 2) := by decide +kernel
theorem dP_doMixed_102 : decode cP_doMixed 102 = .ok (.ishl, 1) := by decide +kernel
theorem dP_doMixed_103 : decode cP_doMixed 103 = .ok (.aload_n 0, 1) := by decide +kernel
theorem dP_doMixed_104 : decode cP_doMixed 104 = .ok (.invokevirtual 115, 3) := by decide +kernel
theorem dP_doMixed_107 : decode cP_doMixed 107 = .ok (.ior, 1) := by decide +kernel
theorem dP_doMixed_108 : decode cP_doMixed 108 = .ok (.invokevirtual 217, 3) := by decide +kernel
theorem dP_doMixed_111 : decode cP_doMixed 111 = .ok (.iastore, 1) := by decide +kernel
theorem dP_doMixed_112 : decode cP_doMixed 112 = .ok (.goto 107, 3) := by decide +kernel
theorem dP_doMixed_115 : decode cP_doMixed 115 = .ok (.aload_n 0, 1) := by decide +kernel
theorem dP_doMixed_116 : decode cP_doMixed 116 = .ok (.aload_n 0, 1) := by decide +kernel
theorem dP_doMixed_117 : decode cP_doMixed 117 = .ok (.getfield 20, 3) := by decide +kernel
theorem dP_doMixed_120 : decode cP_doMixed 120 = .ok (.bipush 20, 2) := by decide +kernel
theorem dP_doMixed_122 : decode cP_doMixed 122 = .ok (.iaload, 1) := by decide +kernel
theorem dP_doMixed_123 : decode cP_doMixed 123 = .ok (.invokevirtual 103, 3) := by decide +kernel
theorem dP_doMixed_126 : decode cP_doMixed 126 = .ok (.istore_n 3, 1) := by decide +kernel
theorem dP_doMixed_127 : decode cP_doMixed 127 = .ok (.aload_n 0, 1) := by decide +kernel
theorem dP_doMixed_128 : decode cP_doMixed 128 = .ok (.aload_n 0, 1) := by decide +kernel
theorem dP_doMixed_129 : decode cP_doMixed 129 = .ok (.getfield 20, 3) := by decide +kernel
theorem dP_doMixed_132 : decode cP_doMixed 132 = .ok (.bipush 20, 2) := by decide +kernel
theorem dP_doMixed_134 : decode cP_doMixed 134 = .ok (.iaload, 1) := by decide +kernel
theorem dP_doMixed_135 : decode cP_doMixed 135 = .ok (.aload_n 0, 1) := by decide +kernel
theorem dP_doMixed_136 : decode cP_doMixed 136 = .ok (.getfield 10, 3) := by decide +kernel
theorem dP_doMixed_139 : decode cP_doMixed 139 = .ok (.invokevirtual 109, 3) := by decide +kernel
theorem dP_doMixed_142 : decode cP_doMixed 142 = .ok (.invokevirtual 177, 3) := by decide +kernel
theorem dP_doMixed_145 : decode cP_doMixed 145 = .ok (.aload_n 0, 1) := by decide +kernel
theorem dP_doMixed_146 : decode cP_doMixed 146 = .ok (.getfield 10, 3) := by decide +kernel
theorem dP_doMixed_149 : decode cP_doMixed 149 = .ok (.iload_n 3, 1) := by decide +kernel
theorem dP_doMixed_150 : decode cP_doMixed 150 = .ok (.invokevirtual 171, 3) := by decide +kernel
theorem dP_doMixed_153 : decode cP_doMixed 153 = .ok (.goto 66, 3) := by decide +kernel
theorem dP_doMixed_156 : decode cP_doMixed 156 = .ok (.aload_n 0, 1) := by decide +kernel
theorem dP_doMixed_157 : decode cP_doMixed 157 = .ok (.getfield 10, 3) := by decide +kernel
theorem dP_doMixed_160 : decode cP_doMixed 160 = .ok (.iconst 4, 1) := by decide +kernel
theorem dP_doMixed_161 : decode cP_doMixed 161 = .ok (.bipush 6, 2) := by decide +kernel
theorem dP_doMixed_163 : decode cP_doMixed 163 = .ok (.invokevirtual 220, 3) := by decide +kernel
theorem dP_doMixed_166 : decode cP_doMixed 166 = .ok (.aload_n 0, 1) := by decide +kernel
theorem dP_doMixed_167 : decode cP_doMixed 167 = .ok (.getfield 10, 3) := by decide +kernel
theorem dP_doMixed_170 : decode cP_doMixed 170 = .ok (.iconst 5, 1) := by decide +kernel
theorem dP_doMixed_171 : decode cP_doMixed 171 = .ok (.bipush 7, 2) := by decide +kernel
theorem dP_doMixed_173 : decode cP_doMixed 173 = .ok (.invokevirtual 220, 3) := by decide +kernel
theorem dP_doMixed_176 : decode cP_doMixed 176 = .ok (.goto 43, 3) := by decide +kernel
theorem dP_doMixed_179 : decode cP_doMixed 179 = .ok (.aload_n 0, 1) := by decide +kernel
theorem dP_doMixed_180 : decode cP_doMixed 180 = .ok (.getfield 20, 3) := by decide +kernel
theorem dP_doMixed_183 : decode cP_doMixed 183 = .ok (.bipush 22, 2) := by decide +kernel
theorem dP_doMixed_185 : decode cP_doMixed 185 = .ok (.iload_n 1, 1) := by decide +kernel
theorem dP_doMixed_186 : decode cP_doMixed 186 = .ok (.bipush 6, 2) := by decide +kernel
theorem dP_doMixed_188 : decode cP_doMixed 188 = .ok (.isub, 1) := by decide +kernel
theorem dP_doMixed_189 : decode cP_doMixed 189 = .ok (.iastore, 1) := by decide +kernel
theorem dP_doMixed_190 : decode cP_doMixed 190 = .ok (.aload_n 0, 1) := by decide +kernel
theorem dP_doMixed_191 : decode cP_doMixed 191 = .ok (.getfield 20, 3) := by decide +kernel
theorem dP_doMixed_194 : decode cP_doMixed 194 = .ok (.bipush 23, 2) := by decide +kernel
theorem dP_doMixed_196 : decode cP_doMixed 196 = .ok (.iload_n 1, 1) := by decide +kernel
theorem dP_doMixed_197 : decode cP_doMixed 197 = .ok (.bipush 6, 2) := by decide +kernel
theorem dP_doMixed_199 : decode cP_doMixed 199 = .ok (.isub, 1) := by decide +kernel
theorem dP_doMixed_200 : decode cP_doMixed 200 = .ok (.iastore, 1) := by decide +kernel
theorem dP_doMixed_201 : decode cP_doMixed 201 = .ok (.aload_n 0, 1) := by decide +kernel
theorem dP_doMixed_202 : decode cP_doMixed 202 = .ok (.iload_n 1, 1) := by decide +kernel
theorem dP_doMixed_203 : decode cP_doMixed 203 = .ok (.bipush 7, 2) := by decide +kernel
theorem dP_doMixed_205 : decode cP_doMixed 205 = .ok (.if_icmp .ne 7, 3) := by decide +kernel
theorem dP_doMixed_208 : decode cP_doMixed 208 = .ok (.iconst 1, 1) := by decide +kernel
theorem dP_doMixed_209 : decode cP_doMixed 209 = .ok (.goto 4, 3) := by decide +kernel
theorem dP_doMixed_212 : decode cP_doMixed 212 = .ok (.iconst 0, 1) := by decide +kernel
theorem dP_doMixed_213 : decode cP_doMixed 213 = .ok (.putfield 25, 3) := by decide +kernel
theorem dP_doMixed_216 : decode cP_doMixed 216 = .ok (.goto 3, 3) := by decide +kernel
theorem dP_doMixed_219 : decode cP_doMixed 219 = .ok (.return_, 1) := by decide +kernel
theorem dP_rotate_0 : decode cP_rotate 0 = .ok (.aload_n 0, 1) := by decide +kernel
theorem dP_rotate_1 : decode cP_rotate 1 = .ok (.getfield 10, 3) := by decide +kernel
theorem dP_rotate_4 : decode cP_rotate 4 = .ok (.getfield 29, 3) := by decide +kernel
theorem dP_rotate_7 : decode cP_rotate 7 = .ok (.bipush 6, 2) := by decide +kernel
theorem dP_rotate_9 : decode cP_rotate 9 = .ok (.if_icmp .eq 7, 3) := by decide +kernel
theorem dP_rotate_12 : decode cP_rotate 12 = .ok (.iconst 1, 1) := by decide +kernel
theorem dP_rotate_13 : decode cP_rotate 13 = .ok (.goto 4, 3) := by decide +kernel
theorem dP_rotate_16 : decode cP_rotate 16 = .ok (.iconst 0, 1) := by decide +kernel
theorem dP_rotate_17 : decode cP_rotate 17 = .ok (.istore_n 1, 1) := by decide +kernel
theorem dP_rotate_18 : decode cP_rotate 18 = .ok (.aload_n 0, 1) := by decide +kernel
theorem dP_rotate_19 : decode cP_rotate 19 = .ok (.invokevirtual 59, 3) := by decide +kernel
theorem dP_rotate_22 : decode cP_rotate 22 = .ok (.iload_n 1, 1) := by decide +kernel
theorem dP_rotate_23 : decode cP_rotate 23 = .ok (.ifCond .eq 10, 3) := by decide +kernel
theorem dP_rotate_26 : decode cP_rotate 26 = .ok (.aload_n 0, 1) := by decide +kernel
theorem dP_rotate_27 : decode cP_rotate 27 = .ok (.invokevirtual 115, 3) := by decide +kernel
theorem dP_rotate_30 : decode cP_rotate 30 = .ok (.goto 7, 3) := by decide +kernel
theorem dP_rotate_33 : decode cP_rotate 33 = .ok (.aload_n 0, 1) := by decide +kernel
theorem dP_rotate_34 : decode cP_rotate 34 = .ok (.invokevirtual 65, 3) := by decide +kernel
theorem dP_rotate_37 : decode cP_rotate 37 = .ok (.istore_n 2, 1) := by decide +kernel
theorem dP_rotate_38 : decode cP_rotate 38 = .ok (.iload_n 2, 1) := by decide +kernel
theorem dP_rotate_39 : decode cP_rotate 39 = .ok (.iconst 3, 1) := by decide +kernel
theorem dP_rotate_40 : decode cP_rotate 40 = .ok (.ishr, 1) := by decide +kernel
theorem dP_rotate_41 : decode cP_rotate 41 = .ok (.bipush 7, 2) := by decide +kernel
theorem dP_rotate_43 : decode cP_rotate 43 = .ok (.iand, 1) := by decide +kernel
theorem dP_rotate_44 : decode cP_rotate 44 = .ok (.istore_n 3, 1) := by decide +kernel
theorem dP_rotate_45 : decode cP_rotate 45 = .ok (.iload_n 2, 1) := by decide +kernel
theorem dP_rotate_46 : decode cP_rotate 46 = .ok (.bipush 7, 2) := by decide +kernel
theorem dP_rotate_48 : decode cP_rotate 48 = .ok (.iand, 1) := by decide +kernel
theorem dP_rotate_49 : decode cP_rotate 49 = .ok (.istore 4, 2) := by decide +kernel
theorem dP_rotate_51 : decode cP_rotate 51 = .ok (.aload_n 0, 1) := by decide +kernel
theorem dP_rotate_52 : decode cP_rotate 52 = .ok (.iload_n 1, 1) := by decide +kernel
theorem dP_rotate_53 : decode cP_rotate 53 = .ok (.ifCond .eq 8, 3) := by decide +kernel
theorem dP_rotate_56 : decode cP_rotate 56 = .ok (.bipush 6, 2) := by decide +kernel
theorem dP_rotate_58 : decode cP_rotate 58 = .ok (.goto 5, 3) := by decide +kernel
theorem dP_rotate_61 : decode cP_rotate 61 = .ok (.iload 4, 2) := by decide +kernel
theorem dP_rotate_63 : decode cP_rotate 63 = .ok (.invokevirtual 76, 3) := by decide +kernel
theorem dP_rotate_66 : decode cP_rotate 66 = .ok (.istore 5, 2) := by decide +kernel
theorem dP_rotate_68 : decode cP_rotate 68 = .ok (.iload_n 2, 1) := by decide +kernel
theorem dP_rotate_69 : decode cP_rotate 69 = .ok (.bipush 6, 2) := by decide +kernel
theorem dP_rotate_71 : decode cP_rotate 71 = .ok (.ishr, 1) := by decide +kernel
theorem dP_rotate_72 : decode cP_rotate 72 = .ok (.iconst 1, 1) := by decide +kernel
theorem dP_rotate_73 : decode cP_rotate 73 = .ok (.if_icmp .ne 20, 3) := by decide +kernel
theorem dP_rotate_76 : decode cP_rotate 76 = .ok (.aload_n 0, 1) := by decide +kernel
theorem dP_rotate_77 : decode cP_rotate 77 = .ok (.getfield 20, 3) := by decide +kernel
theorem dP_rotate_80 : decode cP_rotate 80 = .ok (.iconst 1, 1) := by decide +kernel
theorem dP_rotate_81 : decode cP_rotate 81 = .ok (.iload_n 3, 1) := by decide +kernel
theorem dP_rotate_82 : decode cP_rotate 82 = .ok (.iload 5, 2) := by decide +kernel
theorem dP_rotate_84 : decode cP_rotate 84 = .ok (.aload_n 0, 1) := by decide +kernel
theorem dP_rotate_85 : decode cP_rotate 85 = .ok (.invokevirtual 193, 3) := by decide +kernel
theorem dP_rotate_88 : decode cP_rotate 88 = .ok (.invokestatic 223, 3) := by decide +kernel
theorem dP_rotate_91 : decode cP_rotate 91 = .ok (.iastore, 1) := by decide +kernel
theorem dP_rotate_92 : decode cP_rotate 92 = .ok (.return_, 1) := by decide +kernel
theorem dP_rotate_93 : decode cP_rotate 93 = .ok (.aload_n 0, 1) := by decide +kernel
theorem dP_rotate_94 : decode cP_rotate 94 = .ok (.iload_n 2, 1) := by decide +kernel
theorem dP_rotate_95 : decode cP_rotate 95 = .ok (.bipush 6, 2) := by decide +kernel
theorem dP_rotate_97 : decode cP_rotate 97 = .ok (.ishr, 1) := by decide +kernel
theorem dP_rotate_98 : decode cP_rotate 98 = .ok (.iload_n 3, 1) := by decide +kernel
theorem dP_rotate_99 : decode cP_rotate 99 = .ok (.iload 5, 2) := by decide +kernel
theorem dP_rotate_101 : decode cP_rotate 101 = .ok (.invokevirtual 226, 3) := by decide +kernel
theorem dP_rotate_104 : decode cP_rotate 104 = .ok (.istore 6, 2) := by decide +kernel
theorem dP_rotate_106 : decode cP_rotate 106 = .ok (.iload_n 1, 1) := by decide +kernel
theorem dP_rotate_107 : decode cP_rotate 107 = .ok (.ifCond .eq 11, 3) := by decide +kernel
theorem dP_rotate_110 : decode cP_rotate 110 = .ok (.aload_n 0, 1) := by decide +kernel
theorem dP_rotate_111 : decode cP_rotate 111 = .ok (.bipush 6, 2) := by decide +kernel
theorem dP_rotate_113 : decode cP_rotate 113 = .ok (.iload 6, 2) := by decide +kernel
theorem dP_rotate_115 : decode cP_rotate 115 = .ok (.invokevirtual 79, 3) := by decide +kernel
theorem dP_rotate_118 : decode cP_rotate 118 = .ok (.iload_n 1, 1) := by decide +kernel
theorem dP_rotate_119 : decode cP_rotate 119 = .ok (.ifCond .eq 10, 3) := by decide +kernel
theorem dP_rotate_122 : decode cP_rotate 122 = .ok (.iload 4, 2) := by decide +kernel
theorem dP_rotate_124 : decode cP_rotate 124 = .ok (.bipush 6, 2) := by decide +kernel
theorem dP_rotate_126 : decode cP_rotate 126 = .ok (.if_icmp .eq 11, 3) := by decide +kernel
theorem dP_rotate_129 : decode cP_rotate 129 = .ok (.aload_n 0, 1) := by decide +kernel
theorem dP_rotate_130 : decode cP_rotate 130 = .ok (.iload 4, 2) := by decide +kernel
theorem dP_rotate_132 : decode cP_rotate 132 = .ok (.iload 6, 2) := by decide +kernel
theorem dP_rotate_134 : decode cP_rotate 134 = .ok (.invokevirtual 79, 3) := by decide +kernel
theorem dP_rotate_137 : decode cP_rotate 137 = .ok (.return_, 1) := by decide +kernel
theorem dP_changedByte_0 : decode cP_changedByte 0 = .ok (.iload_n 1, 1) := by decide +kernel
theorem dP_changedByte_1 : decode cP_changedByte 1 = .ok (.iconst 2, 1) := by decide +kernel
theorem dP_changedByte_2 : decode cP_changedByte 2 = .ok (.if_icmp .ne 11, 3) := by decide +kernel
theorem dP_changedByte_5 : decode cP_changedByte 5 = .ok (.iload_n 3, 1) := by decide +kernel
theorem dP_changedByte_6 : decode cP_changedByte 6 = .ok (.iconst 1, 1) := by decide +kernel
theorem dP_changedByte_7 : decode cP_changedByte 7 = .ok (.iload_n 2, 1) := by decide +kernel
theorem dP_changedByte_8 : decode cP_changedByte 8 = .ok (.ishl, 1) := by decide +kernel
theorem dP_changedByte_9 : decode cP_changedByte 9 = .ok (.iconst (-1), 1) := by decide +kernel
theorem dP_changedByte_10 : decode cP_changedByte 10 = .ok (.ixor, 1) := by decide +kernel
theorem dP_changedByte_11 : decode cP_changedByte 11 = .ok (.iand, 1) := by decide +kernel
theorem dP_changedByte_12 : decode cP_changedByte 12 = .ok (.ireturn, 1) := by decide +kernel
theorem dP_changedByte_13 : decode cP_changedByte 13 = .ok (.iload_n 1, 1) := by decide +kernel
theorem dP_changedByte_14 : decode cP_changedByte 14 = .ok (.iconst 3, 1) := by decide +kernel
theorem dP_changedByte_15 : decode cP_changedByte 15 = .ok (.if_icmp .ne 9, 3) := by decide +kernel
theorem dP_changedByte_18 : decode cP_changedByte 18 = .ok (.iload_n 3, 1) := by decide +kernel
theorem dP_changedByte_19 : decode cP_changedByte 19 = .ok (.iconst 1, 1) := by decide +kernel
theorem dP_changedByte_20 : decode cP_changedByte 20 = .ok (.iload_n 2, 1) := by decide +kernel
theorem dP_changedByte_21 : decode cP_changedByte 21 = .ok (.ishl, 1) := by decide +kernel
theorem dP_changedByte_22 : decode cP_changedByte 22 = .ok (.ior, 1) := by decide +kernel
theorem dP_changedByte_23 : decode cP_changedByte 23 = .ok (.ireturn, 1) := by decide +kernel
theorem dP_changedByte_24 : decode cP_changedByte 24 = .ok (.iload_n 2, 1) := by decide +kernel
theorem dP_changedByte_25 : decode cP_changedByte 25 = .ok (.iload_n 3, 1) := by decide +kernel
theorem dP_changedByte_26 : decode cP_changedByte 26 = .ok (.aload_n 0, 1) := by decide +kernel
theorem dP_changedByte_27 : decode cP_changedByte 27 = .ok (.invokevirtual 193, 3) := by decide +kernel
theorem dP_changedByte_30 : decode cP_changedByte 30 = .ok (.invokestatic 196, 3) := by decide +kernel
theorem dP_changedByte_33 : decode cP_changedByte 33 = .ok (.istore 4, 2) := by decide +kernel
theorem dP_changedByte_35 : decode cP_changedByte 35 = .ok (.aload_n 0, 1) := by decide +kernel
theorem dP_changedByte_36 : decode cP_changedByte 36 = .ok (.getfield 20, 3) := by decide +kernel
theorem dP_changedByte_39 : decode cP_changedByte 39 = .ok (.iconst 1, 1) := by decide +kernel
theorem dP_changedByte_40 : decode cP_changedByte 40 = .ok (.iload 4, 2) := by decide +kernel
theorem dP_changedByte_42 : decode cP_changedByte 42 = .ok (.sipush 255, 3) := by decide +kernel
theorem dP_changedByte_45 : decode cP_changedByte 45 = .ok (.iand, 1) := by decide +kernel
theorem dP_changedByte_46 : decode cP_changedByte 46 = .ok (.iastore, 1) := by decide +kernel
theorem dP_changedByte_47 : decode cP_changedByte 47 = .ok (.iload 4, 2) := by decide +kernel
theorem dP_changedByte_49 : decode cP_changedByte 49 = .ok (.bipush 8, 2) := by decide +kernel
theorem dP_changedByte_51 : decode cP_changedByte 51 = .ok (.ishr, 1) := by decide +kernel
theorem dP_changedByte_52 : decode cP_changedByte 52 = .ok (.ireturn, 1) := by decide +kernel
theorem dP_more_0 : decode cP_more 0 = .ok (.iload_n 1, 1) := by decide +kernel
theorem dP_more_1 : decode cP_more 1 = .ok (.iconst 3, 1) := by decide +kernel
theorem dP_more_2 : decode cP_more 2 = .ok (.ishr, 1) := by decide +kernel
theorem dP_more_3 : decode cP_more 3 = .ok (.bipush 7, 2) := by decide +kernel
theorem dP_more_5 : decode cP_more 5 = .ok (.iand, 1) := by decide +kernel
theorem dP_more_6 : decode cP_more 6 = .ok (.istore_n 2, 1) := by decide +kernel
theorem dP_more_7 : decode cP_more 7 = .ok (.iload_n 1, 1) := by decide +kernel
theorem dP_more_8 : decode cP_more 8 = .ok (.bipush 7, 2) := by decide +kernel
theorem dP_more_10 : decode cP_more 10 = .ok (.iand, 1) := by decide +kernel
theorem dP_more_11 : decode cP_more 11 = .ok (.istore_n 3, 1) := by decide +kernel
theorem dP_more_12 : decode cP_more 12 = .ok (.iload_n 1, 1) := by decide +kernel
theorem dP_more_13 : decode cP_more 13 = .ok (.bipush 6, 2) := by decide +kernel
theorem dP_more_15 : decode cP_more 15 = .ok (.ishr, 1) := by decide +kernel
theorem dP_more_16 : decode cP_more 16 = .ok (.iconst 2, 1) := by decide +kernel
theorem dP_more_17 : decode cP_more 17 = .ok (.if_icmp .ne 30, 3) := by decide +kernel
theorem dP_more_20 : decode cP_more 20 = .ok (.iload_n 2, 1) := by decide +kernel
theorem dP_more_21 : decode cP_more 21 = .ok (.iconst 4, 1) := by decide +kernel
theorem dP_more_22 : decode cP_more 22 = .ok (.if_icmp .lt 25, 3) := by decide +kernel
theorem dP_more_25 : decode cP_more 25 = .ok (.iload_n 3, 1) := by decide +kernel
theorem dP_more_26 : decode cP_more 26 = .ok (.iconst 2, 1) := by decide +kernel
theorem dP_more_27 : decode cP_more 27 = .ok (.if_icmp .ge 20, 3) := by decide +kernel
end
section
theorem dP_more_30 : decode cP_more 30 = .ok (.iload_n 3, 1) := by decide +kernel
theorem dP_more_31 : decode cP_more 31 = .ok (.ifCond .ne 11, 3) := by decide +kernel
theorem dP_more_34 : decode cP_more 34 = .ok (.aload_n 0, 1) := by decide +kernel
theorem dP_more_35 : decode cP_more 35 = .ok (.iload_n 2, 1) := by decide +kernel
theorem dP_more_36 : decode cP_more 36 = .ok (.invokevirtual 229, 3) := by decide +kernel
theorem dP_more_39 : decode cP_more 39 = .ok (.goto 8, 3) := by decide +kernel
theorem dP_more_42 : decode cP_more 42 = .ok (.aload_n 0, 1) := by decide +kernel
theorem dP_more_43 : decode cP_more 43 = .ok (.iload_n 2, 1) := by decide +kernel
theorem dP_more_44 : decode cP_more 44 = .ok (.invokevirtual 232, 3) := by decide +kernel
theorem dP_more_47 : decode cP_more 47 = .ok (.iload_n 1, 1) := by decide +kernel
theorem dP_more_48 : decode cP_more 48 = .ok (.bipush 6, 2) := by decide +kernel
theorem dP_more_50 : decode cP_more 50 = .ok (.ishr, 1) := by decide +kernel
theorem dP_more_51 : decode cP_more 51 = .ok (.iconst 1, 1) := by decide +kernel
theorem dP_more_52 : decode cP_more 52 = .ok (.if_icmp .eq 4, 3) := by decide +kernel
theorem dP_more_55 : decode cP_more 55 = .ok (.return_, 1) := by decide +kernel
theorem dP_more_56 : decode cP_more 56 = .ok (.iload_n 3, 1) := by decide +kernel
theorem dP_more_57 : decode cP_more 57 = .ok (.tableswitch 172 0 6 #[43, 51, 87, 95, 103, 125, 153], 43) := by decide +kernel
theorem dP_more_100 : decode cP_more 100 = .ok (.aload_n 0, 1) := by decide +kernel
theorem dP_more_101 : decode cP_more 101 = .ok (.iload_n 2, 1) := by decide +kernel
theorem dP_more_102 : decode cP_more 102 = .ok (.invokevirtual 235, 3) := by decide +kernel
theorem dP_more_105 : decode cP_more 105 = .ok (.goto 129, 3) := by decide +kernel
theorem dP_more_108 : decode cP_more 108 = .ok (.aload_n 0, 1) := by decide +kernel
theorem dP_more_109 : decode cP_more 109 = .ok (.getfield 21, 3) := by decide +kernel
theorem dP_more_112 : decode cP_more 112 = .ok (.aload_n 0, 1) := by decide +kernel
theorem dP_more_113 : decode cP_more 113 = .ok (.getfield 10, 3) := by decide +kernel
theorem dP_more_116 : decode cP_more 116 = .ok (.iconst 2, 1) := by decide +kernel
theorem dP_more_117 : decode cP_more 117 = .ok (.invokevirtual 211, 3) := by decide +kernel
theorem dP_more_120 : decode cP_more 120 = .ok (.iload_n 2, 1) := by decide +kernel
theorem dP_more_121 : decode cP_more 121 = .ok (.bipush 6, 2) := by decide +kernel
theorem dP_more_123 : decode cP_more 123 = .ok (.if_icmp .ne 7, 3) := by decide +kernel
theorem dP_more_126 : decode cP_more 126 = .ok (.iconst 0, 1) := by decide +kernel
theorem dP_more_127 : decode cP_more 127 = .ok (.goto 11, 3) := by decide +kernel
theorem dP_more_130 : decode cP_more 130 = .ok (.aload_n 0, 1) := by decide +kernel
theorem dP_more_131 : decode cP_more 131 = .ok (.getfield 10, 3) := by decide +kernel
theorem dP_more_134 : decode cP_more 134 = .ok (.iload_n 2, 1) := by decide +kernel
theorem dP_more_135 : decode cP_more 135 = .ok (.invokevirtual 125, 3) := by decide +kernel
theorem dP_more_138 : decode cP_more 138 = .ok (.invokevirtual 214, 3) := by decide +kernel
theorem dP_more_141 : decode cP_more 141 = .ok (.goto 93, 3) := by decide +kernel
theorem dP_more_144 : decode cP_more 144 = .ok (.aload_n 0, 1) := by decide +kernel
theorem dP_more_145 : decode cP_more 145 = .ok (.iload_n 2, 1) := by decide +kernel
theorem dP_more_146 : decode cP_more 146 = .ok (.invokevirtual 238, 3) := by decide +kernel
theorem dP_more_149 : decode cP_more 149 = .ok (.goto 85, 3) := by decide +kernel
theorem dP_more_152 : decode cP_more 152 = .ok (.aload_n 0, 1) := by decide +kernel
theorem dP_more_153 : decode cP_more 153 = .ok (.iload_n 2, 1) := by decide +kernel
theorem dP_more_154 : decode cP_more 154 = .ok (.invokevirtual 241, 3) := by decide +kernel
theorem dP_more_157 : decode cP_more 157 = .ok (.goto 77, 3) := by decide +kernel
theorem dP_more_160 : decode cP_more 160 = .ok (.aload_n 0, 1) := by decide +kernel
theorem dP_more_161 : decode cP_more 161 = .ok (.getfield 10, 3) := by decide +kernel
theorem dP_more_164 : decode cP_more 164 = .ok (.iconst 0, 1) := by decide +kernel
theorem dP_more_165 : decode cP_more 165 = .ok (.iconst 0, 1) := by decide +kernel
theorem dP_more_166 : decode cP_more 166 = .ok (.aload_n 0, 1) := by decide +kernel
theorem dP_more_167 : decode cP_more 167 = .ok (.getfield 20, 3) := by decide +kernel
theorem dP_more_170 : decode cP_more 170 = .ok (.iconst 0, 1) := by decide +kernel
theorem dP_more_171 : decode cP_more 171 = .ok (.iaload, 1) := by decide +kernel
theorem dP_more_172 : decode cP_more 172 = .ok (.iconst 0, 1) := by decide +kernel
theorem dP_more_173 : decode cP_more 173 = .ok (.invokestatic 180, 3) := by decide +kernel
theorem dP_more_176 : decode cP_more 176 = .ok (.invokevirtual 190, 3) := by decide +kernel
theorem dP_more_179 : decode cP_more 179 = .ok (.goto 55, 3) := by decide +kernel
theorem dP_more_182 : decode cP_more 182 = .ok (.aload_n 0, 1) := by decide +kernel
theorem dP_more_183 : decode cP_more 183 = .ok (.getfield 20, 3) := by decide +kernel
theorem dP_more_186 : decode cP_more 186 = .ok (.bipush 21, 2) := by decide +kernel
theorem dP_more_188 : decode cP_more 188 = .ok (.aload_n 0, 1) := by decide +kernel
theorem dP_more_189 : decode cP_more 189 = .ok (.invokevirtual 205, 3) := by decide +kernel
theorem dP_more_192 : decode cP_more 192 = .ok (.iastore, 1) := by decide +kernel
theorem dP_more_193 : decode cP_more 193 = .ok (.aload_n 0, 1) := by decide +kernel
theorem dP_more_194 : decode cP_more 194 = .ok (.getfield 20, 3) := by decide +kernel
theorem dP_more_197 : decode cP_more 197 = .ok (.bipush 22, 2) := by decide +kernel
theorem dP_more_199 : decode cP_more 199 = .ok (.aload_n 0, 1) := by decide +kernel
theorem dP_more_200 : decode cP_more 200 = .ok (.getfield 20, 3) := by decide +kernel
theorem dP_more_203 : decode cP_more 203 = .ok (.bipush 23, 2) := by decide +kernel
theorem dP_more_205 : decode cP_more 205 = .ok (.iaload, 1) := by decide +kernel
theorem dP_more_206 : decode cP_more 206 = .ok (.iastore, 1) := by decide +kernel
theorem dP_more_207 : decode cP_more 207 = .ok (.goto 27, 3) := by decide +kernel
theorem dP_more_210 : decode cP_more 210 = .ok (.aload_n 0, 1) := by decide +kernel
theorem dP_more_211 : decode cP_more 211 = .ok (.getfield 20, 3) := by decide +kernel
theorem dP_more_214 : decode cP_more 214 = .ok (.bipush 24, 2) := by decide +kernel
theorem dP_more_216 : decode cP_more 216 = .ok (.iconst 0, 1) := by decide +kernel
theorem dP_more_217 : decode cP_more 217 = .ok (.iload_n 2, 1) := by decide +kernel
theorem dP_more_218 : decode cP_more 218 = .ok (.iconst 3, 1) := by decide +kernel
theorem dP_more_219 : decode cP_more 219 = .ok (.iand, 1) := by decide +kernel
theorem dP_more_220 : decode cP_more 220 = .ok (.iconst 1, 1) := by decide +kernel
theorem dP_more_221 : decode cP_more 221 = .ok (.isub, 1) := by decide +kernel
theorem dP_more_222 : decode cP_more 222 = .ok (.invokestatic 244, 3) := by decide +kernel
theorem dP_more_225 : decode cP_more 225 = .ok (.iastore, 1) := by decide +kernel
theorem dP_more_226 : decode cP_more 226 = .ok (.goto 8, 3) := by decide +kernel
theorem dP_more_229 : decode cP_more 229 = .ok (.aload_n 0, 1) := by decide +kernel
theorem dP_more_230 : decode cP_more 230 = .ok (.iload_n 2, 1) := by decide +kernel
theorem dP_more_231 : decode cP_more 231 = .ok (.invokevirtual 249, 3) := by decide +kernel
theorem dP_more_234 : decode cP_more 234 = .ok (.return_, 1) := by decide +kernel
theorem dP_takeFromPort_0 : decode cP_takeFromPort 0 = .ok (.aload_n 0, 1) := by decide +kernel
theorem dP_takeFromPort_1 : decode cP_takeFromPort 1 = .ok (.getfield 21, 3) := by decide +kernel
theorem dP_takeFromPort_4 : decode cP_takeFromPort 4 = .ok (.aload_n 0, 1) := by decide +kernel
theorem dP_takeFromPort_5 : decode cP_takeFromPort 5 = .ok (.getfield 10, 3) := by decide +kernel
theorem dP_takeFromPort_8 : decode cP_takeFromPort 8 = .ok (.iconst 2, 1) := by decide +kernel
theorem dP_takeFromPort_9 : decode cP_takeFromPort 9 = .ok (.invokevirtual 211, 3) := by decide +kernel
theorem dP_takeFromPort_12 : decode cP_takeFromPort 12 = .ok (.invokevirtual 217, 3) := by decide +kernel
theorem dP_takeFromPort_15 : decode cP_takeFromPort 15 = .ok (.istore_n 2, 1) := by decide +kernel
theorem dP_takeFromPort_16 : decode cP_takeFromPort 16 = .ok (.aload_n 0, 1) := by decide +kernel
theorem dP_takeFromPort_17 : decode cP_takeFromPort 17 = .ok (.iconst 1, 1) := by decide +kernel
theorem dP_takeFromPort_18 : decode cP_takeFromPort 18 = .ok (.iload_n 2, 1) := by decide +kernel
theorem dP_takeFromPort_19 : decode cP_takeFromPort 19 = .ok (.invokestatic 252, 3) := by decide +kernel
theorem dP_takeFromPort_22 : decode cP_takeFromPort 22 = .ok (.invokevirtual 174, 3) := by decide +kernel
theorem dP_takeFromPort_25 : decode cP_takeFromPort 25 = .ok (.iload_n 1, 1) := by decide +kernel
theorem dP_takeFromPort_26 : decode cP_takeFromPort 26 = .ok (.bipush 6, 2) := by decide +kernel
theorem dP_takeFromPort_28 : decode cP_takeFromPort 28 = .ok (.if_icmp .eq 12, 3) := by decide +kernel
theorem dP_takeFromPort_31 : decode cP_takeFromPort 31 = .ok (.aload_n 0, 1) := by decide +kernel
theorem dP_takeFromPort_32 : decode cP_takeFromPort 32 = .ok (.getfield 10, 3) := by decide +kernel
theorem dP_takeFromPort_35 : decode cP_takeFromPort 35 = .ok (.iload_n 1, 1) := by decide +kernel
theorem dP_takeFromPort_36 : decode cP_takeFromPort 36 = .ok (.iload_n 2, 1) := by decide +kernel
theorem dP_takeFromPort_37 : decode cP_takeFromPort 37 = .ok (.invokevirtual 128, 3) := by decide +kernel
theorem dP_takeFromPort_40 : decode cP_takeFromPort 40 = .ok (.return_, 1) := by decide +kernel
theorem dP_sumWithCarry_0 : decode cP_sumWithCarry 0 = .ok (.aload_n 0, 1) := by decide +kernel
theorem dP_sumWithCarry_1 : decode cP_sumWithCarry 1 = .ok (.getfield 10, 3) := by decide +kernel
theorem dP_sumWithCarry_4 : decode cP_sumWithCarry 4 = .ok (.iload_n 1, 1) := by decide +kernel
theorem dP_sumWithCarry_5 : decode cP_sumWithCarry 5 = .ok (.iconst 1, 1) := by decide +kernel
theorem dP_sumWithCarry_6 : decode cP_sumWithCarry 6 = .ok (.ishr, 1) := by decide +kernel
theorem dP_sumWithCarry_7 : decode cP_sumWithCarry 7 = .ok (.invokevirtual 151, 3) := by decide +kernel
theorem dP_sumWithCarry_10 : decode cP_sumWithCarry 10 = .ok (.istore_n 2, 1) := by decide +kernel
theorem dP_sumWithCarry_11 : decode cP_sumWithCarry 11 = .ok (.iload_n 1, 1) := by decide +kernel
theorem dP_sumWithCarry_12 : decode cP_sumWithCarry 12 = .ok (.iconst 1, 1) := by decide +kernel
theorem dP_sumWithCarry_13 : decode cP_sumWithCarry 13 = .ok (.iand, 1) := by decide +kernel
theorem dP_sumWithCarry_14 : decode cP_sumWithCarry 14 = .ok (.iconst 1, 1) := by decide +kernel
theorem dP_sumWithCarry_15 : decode cP_sumWithCarry 15 = .ok (.if_icmp .ne 21, 3) := by decide +kernel
theorem dP_sumWithCarry_18 : decode cP_sumWithCarry 18 = .ok (.aload_n 0, 1) := by decide +kernel
theorem dP_sumWithCarry_19 : decode cP_sumWithCarry 19 = .ok (.getfield 10, 3) := by decide +kernel
theorem dP_sumWithCarry_22 : decode cP_sumWithCarry 22 = .ok (.invokevirtual 109, 3) := by decide +kernel
theorem dP_sumWithCarry_25 : decode cP_sumWithCarry 25 = .ok (.iload_n 2, 1) := by decide +kernel
theorem dP_sumWithCarry_26 : decode cP_sumWithCarry 26 = .ok (.aload_n 0, 1) := by decide +kernel
theorem dP_sumWithCarry_27 : decode cP_sumWithCarry 27 = .ok (.invokevirtual 193, 3) := by decide +kernel
theorem dP_sumWithCarry_30 : decode cP_sumWithCarry 30 = .ok (.invokestatic 167, 3) := by decide +kernel
theorem dP_sumWithCarry_33 : decode cP_sumWithCarry 33 = .ok (.goto 18, 3) := by decide +kernel
theorem dP_sumWithCarry_36 : decode cP_sumWithCarry 36 = .ok (.aload_n 0, 1) := by decide +kernel
theorem dP_sumWithCarry_37 : decode cP_sumWithCarry 37 = .ok (.getfield 10, 3) := by decide +kernel
theorem dP_sumWithCarry_40 : decode cP_sumWithCarry 40 = .ok (.invokevirtual 109, 3) := by decide +kernel
theorem dP_sumWithCarry_43 : decode cP_sumWithCarry 43 = .ok (.iload_n 2, 1) := by decide +kernel
theorem dP_sumWithCarry_44 : decode cP_sumWithCarry 44 = .ok (.aload_n 0, 1) := by decide +kernel
theorem dP_sumWithCarry_45 : decode cP_sumWithCarry 45 = .ok (.invokevirtual 193, 3) := by decide +kernel
theorem dP_sumWithCarry_48 : decode cP_sumWithCarry 48 = .ok (.invokestatic 255, 3) := by decide +kernel
theorem dP_sumWithCarry_51 : decode cP_sumWithCarry 51 = .ok (.istore_n 3, 1) := by decide +kernel
theorem dP_sumWithCarry_52 : decode cP_sumWithCarry 52 = .ok (.aload_n 0, 1) := by decide +kernel
theorem dP_sumWithCarry_53 : decode cP_sumWithCarry 53 = .ok (.getfield 20, 3) := by decide +kernel
theorem dP_sumWithCarry_56 : decode cP_sumWithCarry 56 = .ok (.iconst 1, 1) := by decide +kernel
theorem dP_sumWithCarry_57 : decode cP_sumWithCarry 57 = .ok (.iload_n 3, 1) := by decide +kernel
theorem dP_sumWithCarry_58 : decode cP_sumWithCarry 58 = .ok (.sipush 255, 3) := by decide +kernel
theorem dP_sumWithCarry_61 : decode cP_sumWithCarry 61 = .ok (.iand, 1) := by decide +kernel
theorem dP_sumWithCarry_62 : decode cP_sumWithCarry 62 = .ok (.iastore, 1) := by decide +kernel
theorem dP_sumWithCarry_63 : decode cP_sumWithCarry 63 = .ok (.aload_n 0, 1) := by decide +kernel
theorem dP_sumWithCarry_64 : decode cP_sumWithCarry 64 = .ok (.getfield 10, 3) := by decide +kernel
theorem dP_sumWithCarry_67 : decode cP_sumWithCarry 67 = .ok (.iload_n 3, 1) := by decide +kernel
theorem dP_sumWithCarry_68 : decode cP_sumWithCarry 68 = .ok (.bipush 8, 2) := by decide +kernel
theorem dP_sumWithCarry_70 : decode cP_sumWithCarry 70 = .ok (.ishr, 1) := by decide +kernel
theorem dP_sumWithCarry_71 : decode cP_sumWithCarry 71 = .ok (.invokevirtual 171, 3) := by decide +kernel
theorem dP_sumWithCarry_74 : decode cP_sumWithCarry 74 = .ok (.return_, 1) := by decide +kernel
theorem dP_passPair_0 : decode cP_passPair 0 = .ok (.aload_n 0, 1) := by decide +kernel
theorem dP_passPair_1 : decode cP_passPair 1 = .ok (.invokevirtual 139, 3) := by decide +kernel
theorem dP_passPair_4 : decode cP_passPair 4 = .ok (.istore_n 2, 1) := by decide +kernel
theorem dP_passPair_5 : decode cP_passPair 5 = .ok (.iload_n 1, 1) := by decide +kernel
theorem dP_passPair_6 : decode cP_passPair 6 = .ok (.iconst 1, 1) := by decide +kernel
theorem dP_passPair_7 : decode cP_passPair 7 = .ok (.iand, 1) := by decide +kernel
theorem dP_passPair_8 : decode cP_passPair 8 = .ok (.iconst 1, 1) := by decide +kernel
theorem dP_passPair_9 : decode cP_passPair 9 = .ok (.if_icmp .ne 21, 3) := by decide +kernel
theorem dP_passPair_12 : decode cP_passPair 12 = .ok (.aload_n 0, 1) := by decide +kernel
theorem dP_passPair_13 : decode cP_passPair 13 = .ok (.getfield 10, 3) := by decide +kernel
theorem dP_passPair_16 : decode cP_passPair 16 = .ok (.iload_n 1, 1) := by decide +kernel
theorem dP_passPair_17 : decode cP_passPair 17 = .ok (.iconst 1, 1) := by decide +kernel
theorem dP_passPair_18 : decode cP_passPair 18 = .ok (.ishr, 1) := by decide +kernel
theorem dP_passPair_19 : decode cP_passPair 19 = .ok (.aload_n 0, 1) := by decide +kernel
theorem dP_passPair_20 : decode cP_passPair 20 = .ok (.iload_n 2, 1) := by decide +kernel
theorem dP_passPair_21 : decode cP_passPair 21 = .ok (.invokevirtual 103, 3) := by decide +kernel
theorem dP_passPair_24 : decode cP_passPair 24 = .ok (.invokevirtual 142, 3) := by decide +kernel
theorem dP_passPair_27 : decode cP_passPair 27 = .ok (.goto 18, 3) := by decide +kernel
theorem dP_passPair_30 : decode cP_passPair 30 = .ok (.aload_n 0, 1) := by decide +kernel
theorem dP_passPair_31 : decode cP_passPair 31 = .ok (.iload_n 2, 1) := by decide +kernel
theorem dP_passPair_32 : decode cP_passPair 32 = .ok (.aload_n 0, 1) := by decide +kernel
theorem dP_passPair_33 : decode cP_passPair 33 = .ok (.getfield 10, 3) := by decide +kernel
theorem dP_passPair_36 : decode cP_passPair 36 = .ok (.iload_n 1, 1) := by decide +kernel
theorem dP_passPair_37 : decode cP_passPair 37 = .ok (.iconst 1, 1) := by decide +kernel
theorem dP_passPair_38 : decode cP_passPair 38 = .ok (.ishr, 1) := by decide +kernel
theorem dP_passPair_39 : decode cP_passPair 39 = .ok (.invokevirtual 151, 3) := by decide +kernel
theorem dP_passPair_42 : decode cP_passPair 42 = .ok (.invokevirtual 177, 3) := by decide +kernel
theorem dP_passPair_45 : decode cP_passPair 45 = .ok (.return_, 1) := by decide +kernel
theorem dP_doSpecial_0 : decode cP_doSpecial 0 = .ok (.iload_n 1, 1) := by decide +kernel
theorem dP_doSpecial_1 : decode cP_doSpecial 1 = .ok (.tableswitch 135 0 5 #[39, 55, 71, 71, 118, 118], 39) := by decide +kernel
theorem dP_doSpecial_40 : decode cP_doSpecial 40 = .ok (.aload_n 0, 1) := by decide +kernel
theorem dP_doSpecial_41 : decode cP_doSpecial 41 = .ok (.getfield 20, 3) := by decide +kernel
theorem dP_doSpecial_44 : decode cP_doSpecial 44 = .ok (.bipush 16, 2) := by decide +kernel
theorem dP_doSpecial_46 : decode cP_doSpecial 46 = .ok (.aload_n 0, 1) := by decide +kernel
theorem dP_doSpecial_47 : decode cP_doSpecial 47 = .ok (.getfield 20, 3) := by decide +kernel
theorem dP_doSpecial_50 : decode cP_doSpecial 50 = .ok (.iconst 0, 1) := by decide +kernel
theorem dP_doSpecial_51 : decode cP_doSpecial 51 = .ok (.iaload, 1) := by decide +kernel
theorem dP_doSpecial_52 : decode cP_doSpecial 52 = .ok (.iastore, 1) := by decide +kernel
theorem dP_doSpecial_53 : decode cP_doSpecial 53 = .ok (.goto 83, 3) := by decide +kernel
theorem dP_doSpecial_56 : decode cP_doSpecial 56 = .ok (.aload_n 0, 1) := by decide +kernel
theorem dP_doSpecial_57 : decode cP_doSpecial 57 = .ok (.getfield 20, 3) := by decide +kernel
theorem dP_doSpecial_60 : decode cP_doSpecial 60 = .ok (.bipush 17, 2) := by decide +kernel
theorem dP_doSpecial_62 : decode cP_doSpecial 62 = .ok (.aload_n 0, 1) := by decide +kernel
theorem dP_doSpecial_63 : decode cP_doSpecial 63 = .ok (.getfield 20, 3) := by decide +kernel
theorem dP_doSpecial_66 : decode cP_doSpecial 66 = .ok (.iconst 0, 1) := by decide +kernel
theorem dP_doSpecial_67 : decode cP_doSpecial 67 = .ok (.iaload, 1) := by decide +kernel
theorem dP_doSpecial_68 : decode cP_doSpecial 68 = .ok (.iastore, 1) := by decide +kernel
theorem dP_doSpecial_69 : decode cP_doSpecial 69 = .ok (.goto 67, 3) := by decide +kernel
theorem dP_doSpecial_72 : decode cP_doSpecial 72 = .ok (.aload_n 0, 1) := by decide +kernel
theorem dP_doSpecial_73 : decode cP_doSpecial 73 = .ok (.getfield 20, 3) := by decide +kernel
theorem dP_doSpecial_76 : decode cP_doSpecial 76 = .ok (.iload_n 1, 1) := by decide +kernel
theorem dP_doSpecial_77 : decode cP_doSpecial 77 = .ok (.iconst 2, 1) := by decide +kernel
theorem dP_doSpecial_78 : decode cP_doSpecial 78 = .ok (.if_icmp .ne 8, 3) := by decide +kernel
theorem dP_doSpecial_81 : decode cP_doSpecial 81 = .ok (.bipush 16, 2) := by decide +kernel
theorem dP_doSpecial_83 : decode cP_doSpecial 83 = .ok (.goto 5, 3) := by decide +kernel
theorem dP_doSpecial_86 : decode cP_doSpecial 86 = .ok (.bipush 17, 2) := by decide +kernel
theorem dP_doSpecial_88 : decode cP_doSpecial 88 = .ok (.iaload, 1) := by decide +kernel
theorem dP_doSpecial_89 : decode cP_doSpecial 89 = .ok (.istore_n 2, 1) := by decide +kernel
theorem dP_doSpecial_90 : decode cP_doSpecial 90 = .ok (.aload_n 0, 1) := by decide +kernel
theorem dP_doSpecial_91 : decode cP_doSpecial 91 = .ok (.getfield 20, 3) := by decide +kernel
theorem dP_doSpecial_94 : decode cP_doSpecial 94 = .ok (.iconst 0, 1) := by decide +kernel
theorem dP_doSpecial_95 : decode cP_doSpecial 95 = .ok (.iload_n 2, 1) := by decide +kernel
theorem dP_doSpecial_96 : decode cP_doSpecial 96 = .ok (.iastore, 1) := by decide +kernel
theorem dP_doSpecial_97 : decode cP_doSpecial 97 = .ok (.aload_n 0, 1) := by decide +kernel
theorem dP_doSpecial_98 : decode cP_doSpecial 98 = .ok (.iconst 1, 1) := by decide +kernel
theorem dP_doSpecial_99 : decode cP_doSpecial 99 = .ok (.iload_n 2, 1) := by decide +kernel
theorem dP_doSpecial_100 : decode cP_doSpecial 100 = .ok (.invokestatic 258, 3) := by decide +kernel
theorem dP_doSpecial_103 : decode cP_doSpecial 103 = .ok (.aload_n 0, 1) := by decide +kernel
theorem dP_doSpecial_104 : decode cP_doSpecial 104 = .ok (.getfield 20, 3) := by decide +kernel
theorem dP_doSpecial_107 : decode cP_doSpecial 107 = .ok (.bipush 23, 2) := by decide +kernel
theorem dP_doSpecial_109 : decode cP_doSpecial 109 = .ok (.iaload, 1) := by decide +kernel
theorem dP_doSpecial_110 : decode cP_doSpecial 110 = .ok (.iconst 4, 1) := by decide +kernel
theorem dP_doSpecial_111 : decode cP_doSpecial 111 = .ok (.imul, 1) := by decide +kernel
theorem dP_doSpecial_112 : decode cP_doSpecial 112 = .ok (.ior, 1) := by decide +kernel
theorem dP_doSpecial_113 : decode cP_doSpecial 113 = .ok (.invokevirtual 174, 3) := by decide +kernel
theorem dP_doSpecial_116 : decode cP_doSpecial 116 = .ok (.goto 20, 3) := by decide +kernel
theorem dP_doSpecial_119 : decode cP_doSpecial 119 = .ok (.aload_n 0, 1) := by decide +kernel
theorem dP_doSpecial_120 : decode cP_doSpecial 120 = .ok (.iload_n 1, 1) := by decide +kernel
theorem dP_doSpecial_121 : decode cP_doSpecial 121 = .ok (.iconst 5, 1) := by decide +kernel
theorem dP_doSpecial_122 : decode cP_doSpecial 122 = .ok (.if_icmp .ne 7, 3) := by decide +kernel
theorem dP_doSpecial_125 : decode cP_doSpecial 125 = .ok (.iconst 1, 1) := by decide +kernel
theorem dP_doSpecial_126 : decode cP_doSpecial 126 = .ok (.goto 4, 3) := by decide +kernel
theorem dP_doSpecial_129 : decode cP_doSpecial 129 = .ok (.iconst 0, 1) := by decide +kernel
theorem dP_doSpecial_130 : decode cP_doSpecial 130 = .ok (.invokevirtual 261, 3) := by decide +kernel
theorem dP_doSpecial_133 : decode cP_doSpecial 133 = .ok (.goto 3, 3) := by decide +kernel
theorem dP_doSpecial_136 : decode cP_doSpecial 136 = .ok (.return_, 1) := by decide +kernel
theorem dP_turnTwelveBits_0 : decode cP_turnTwelveBits 0 = .ok (.aload_n 0, 1) := by decide +kernel
theorem dP_turnTwelveBits_1 : decode cP_turnTwelveBits 1 = .ok (.getfield 21, 3) := by decide +kernel
theorem dP_turnTwelveBits_4 : decode cP_turnTwelveBits 4 = .ok (.aload_n 0, 1) := by decide +kernel
theorem dP_turnTwelveBits_5 : decode cP_turnTwelveBits 5 = .ok (.getfield 10, 3) := by decide +kernel
theorem dP_turnTwelveBits_8 : decode cP_turnTwelveBits 8 = .ok (.invokevirtual 109, 3) := by decide +kernel
theorem dP_turnTwelveBits_11 : decode cP_turnTwelveBits 11 = .ok (.invokevirtual 119, 3) := by decide +kernel
theorem dP_turnTwelveBits_14 : decode cP_turnTwelveBits 14 = .ok (.istore_n 2, 1) := by decide +kernel
theorem dP_turnTwelveBits_15 : decode cP_turnTwelveBits 15 = .ok (.aload_n 0, 1) := by decide +kernel
theorem dP_turnTwelveBits_16 : decode cP_turnTwelveBits 16 = .ok (.getfield 20, 3) := by decide +kernel
theorem dP_turnTwelveBits_19 : decode cP_turnTwelveBits 19 = .ok (.iconst 0, 1) := by decide +kernel
theorem dP_turnTwelveBits_20 : decode cP_turnTwelveBits 20 = .ok (.iaload, 1) := by decide +kernel
theorem dP_turnTwelveBits_21 : decode cP_turnTwelveBits 21 = .ok (.bipush 15, 2) := by decide +kernel
theorem dP_turnTwelveBits_23 : decode cP_turnTwelveBits 23 = .ok (.iand, 1) := by decide +kernel
theorem dP_turnTwelveBits_24 : decode cP_turnTwelveBits 24 = .ok (.istore_n 3, 1) := by decide +kernel
theorem dP_turnTwelveBits_25 : decode cP_turnTwelveBits 25 = .ok (.aload_n 0, 1) := by decide +kernel
theorem dP_turnTwelveBits_26 : decode cP_turnTwelveBits 26 = .ok (.getfield 21, 3) := by decide +kernel
theorem dP_turnTwelveBits_29 : decode cP_turnTwelveBits 29 = .ok (.aload_n 0, 1) := by decide +kernel
theorem dP_turnTwelveBits_30 : decode cP_turnTwelveBits 30 = .ok (.getfield 10, 3) := by decide +kernel
theorem dP_turnTwelveBits_33 : decode cP_turnTwelveBits 33 = .ok (.invokevirtual 109, 3) := by decide +kernel
theorem dP_turnTwelveBits_36 : decode cP_turnTwelveBits 36 = .ok (.iload_n 1, 1) := by decide +kernel
theorem dP_turnTwelveBits_37 : decode cP_turnTwelveBits 37 = .ok (.ifCond .eq 11, 3) := by decide +kernel
theorem dP_turnTwelveBits_40 : decode cP_turnTwelveBits 40 = .ok (.iload_n 2, 1) := by decide +kernel
theorem dP_turnTwelveBits_41 : decode cP_turnTwelveBits 41 = .ok (.iconst 4, 1) := by decide +kernel
theorem dP_turnTwelveBits_42 : decode cP_turnTwelveBits 42 = .ok (.ishl, 1) := by decide +kernel
theorem dP_turnTwelveBits_43 : decode cP_turnTwelveBits 43 = .ok (.iload_n 3, 1) := by decide +kernel
theorem dP_turnTwelveBits_44 : decode cP_turnTwelveBits 44 = .ok (.ior, 1) := by decide +kernel
theorem dP_turnTwelveBits_45 : decode cP_turnTwelveBits 45 = .ok (.goto 10, 3) := by decide +kernel
theorem dP_turnTwelveBits_48 : decode cP_turnTwelveBits 48 = .ok (.iload_n 3, 1) := by decide +kernel
theorem dP_turnTwelveBits_49 : decode cP_turnTwelveBits 49 = .ok (.iconst 4, 1) := by decide +kernel
theorem dP_turnTwelveBits_50 : decode cP_turnTwelveBits 50 = .ok (.ishl, 1) := by decide +kernel
theorem dP_turnTwelveBits_51 : decode cP_turnTwelveBits 51 = .ok (.iload_n 2, 1) := by decide +kernel
theorem dP_turnTwelveBits_52 : decode cP_turnTwelveBits 52 = .ok (.iconst 4, 1) := by decide +kernel
theorem dP_turnTwelveBits_53 : decode cP_turnTwelveBits 53 = .ok (.ishr, 1) := by decide +kernel
theorem dP_turnTwelveBits_54 : decode cP_turnTwelveBits 54 = .ok (.ior, 1) := by decide +kernel
theorem dP_turnTwelveBits_55 : decode cP_turnTwelveBits 55 = .ok (.invokevirtual 122, 3) := by decide +kernel
theorem dP_turnTwelveBits_58 : decode cP_turnTwelveBits 58 = .ok (.aload_n 0, 1) := by decide +kernel
theorem dP_turnTwelveBits_59 : decode cP_turnTwelveBits 59 = .ok (.getfield 20, 3) := by decide +kernel
theorem dP_turnTwelveBits_62 : decode cP_turnTwelveBits 62 = .ok (.iconst 0, 1) := by decide +kernel
theorem dP_turnTwelveBits_63 : decode cP_turnTwelveBits 63 = .ok (.iaload, 1) := by decide +kernel
theorem dP_turnTwelveBits_64 : decode cP_turnTwelveBits 64 = .ok (.sipush 240, 3) := by decide +kernel
theorem dP_turnTwelveBits_67 : decode cP_turnTwelveBits 67 = .ok (.iand, 1) := by decide +kernel
theorem dP_turnTwelveBits_68 : decode cP_turnTwelveBits 68 = .ok (.iload_n 1, 1) := by decide +kernel
theorem dP_turnTwelveBits_69 : decode cP_turnTwelveBits 69 = .ok (.ifCond .eq 9, 3) := by decide +kernel
theorem dP_turnTwelveBits_72 : decode cP_turnTwelveBits 72 = .ok (.iload_n 2, 1) := by decide +kernel
theorem dP_turnTwelveBits_73 : decode cP_turnTwelveBits 73 = .ok (.iconst 4, 1) := by decide +kernel
theorem dP_turnTwelveBits_74 : decode cP_turnTwelveBits 74 = .ok (.ishr, 1) := by decide +kernel
theorem dP_turnTwelveBits_75 : decode cP_turnTwelveBits 75 = .ok (.goto 7, 3) := by decide +kernel
theorem dP_turnTwelveBits_78 : decode cP_turnTwelveBits 78 = .ok (.iload_n 2, 1) := by decide +kernel
theorem dP_turnTwelveBits_79 : decode cP_turnTwelveBits 79 = .ok (.bipush 15, 2) := by decide +kernel
theorem dP_turnTwelveBits_81 : decode cP_turnTwelveBits 81 = .ok (.iand, 1) := by decide +kernel
theorem dP_turnTwelveBits_82 : decode cP_turnTwelveBits 82 = .ok (.ior, 1) := by decide +kernel
theorem dP_turnTwelveBits_83 : decode cP_turnTwelveBits 83 = .ok (.istore 4, 2) := by decide +kernel
theorem dP_turnTwelveBits_85 : decode cP_turnTwelveBits 85 = .ok (.aload_n 0, 1) := by decide +kernel
theorem dP_turnTwelveBits_86 : decode cP_turnTwelveBits 86 = .ok (.getfield 20, 3) := by decide +kernel
theorem dP_turnTwelveBits_89 : decode cP_turnTwelveBits 89 = .ok (.iconst 0, 1) := by decide +kernel
theorem dP_turnTwelveBits_90 : decode cP_turnTwelveBits 90 = .ok (.iload 4, 2) := by decide +kernel
theorem dP_turnTwelveBits_92 : decode cP_turnTwelveBits 92 = .ok (.iastore, 1) := by decide +kernel
theorem dP_turnTwelveBits_93 : decode cP_turnTwelveBits 93 = .ok (.aload_n 0, 1) := by decide +kernel
theorem dP_turnTwelveBits_94 : decode cP_turnTwelveBits 94 = .ok (.iconst 1, 1) := by decide +kernel
theorem dP_turnTwelveBits_95 : decode cP_turnTwelveBits 95 = .ok (.iload 4, 2) := by decide +kernel
theorem dP_turnTwelveBits_97 : decode cP_turnTwelveBits 97 = .ok (.invokestatic 252, 3) := by decide +kernel
theorem dP_turnTwelveBits_100 : decode cP_turnTwelveBits 100 = .ok (.invokevirtual 174, 3) := by decide +kernel
theorem dP_turnTwelveBits_103 : decode cP_turnTwelveBits 103 = .ok (.return_, 1) := by decide +kernel
theorem dP_moveByte_0 : decode cP_moveByte 0 = .ok (.aload_n 0, 1) := by decide +kernel
theorem dP_moveByte_1 : decode cP_moveByte 1 = .ok (.getfield 21, 3) := by decide +kernel
theorem dP_moveByte_4 : decode cP_moveByte 4 = .ok (.aload_n 0, 1) := by decide +kernel
theorem dP_moveByte_5 : decode cP_moveByte 5 = .ok (.getfield 10, 3) := by decide +kernel
theorem dP_moveByte_8 : decode cP_moveByte 8 = .ok (.invokevirtual 109, 3) := by decide +kernel
theorem dP_moveByte_11 : decode cP_moveByte 11 = .ok (.invokevirtual 119, 3) := by decide +kernel
theorem dP_moveByte_14 : decode cP_moveByte 14 = .ok (.istore_n 2, 1) := by decide +kernel
theorem dP_moveByte_15 : decode cP_moveByte 15 = .ok (.aload_n 0, 1) := by decide +kernel
theorem dP_moveByte_16 : decode cP_moveByte 16 = .ok (.getfield 21, 3) := by decide +kernel
theorem dP_moveByte_19 : decode cP_moveByte 19 = .ok (.aload_n 0, 1) := by decide +kernel
theorem dP_moveByte_20 : decode cP_moveByte 20 = .ok (.getfield 10, 3) := by decide +kernel
theorem dP_moveByte_23 : decode cP_moveByte 23 = .ok (.iconst 4, 1) := by decide +kernel
theorem dP_moveByte_24 : decode cP_moveByte 24 = .ok (.invokevirtual 211, 3) := by decide +kernel
theorem dP_moveByte_27 : decode cP_moveByte 27 = .ok (.iload_n 2, 1) := by decide +kernel
theorem dP_moveByte_28 : decode cP_moveByte 28 = .ok (.invokevirtual 122, 3) := by decide +kernel
theorem dP_moveByte_31 : decode cP_moveByte 31 = .ok (.iload_n 1, 1) := by decide +kernel
theorem dP_moveByte_32 : decode cP_moveByte 32 = .ok (.iconst 1, 1) := by decide +kernel
theorem dP_moveByte_33 : decode cP_moveByte 33 = .ok (.iand, 1) := by decide +kernel
theorem dP_moveByte_34 : decode cP_moveByte 34 = .ok (.ifCond .ne 7, 3) := by decide +kernel
theorem dP_moveByte_37 : decode cP_moveByte 37 = .ok (.iconst 1, 1) := by decide +kernel
theorem dP_moveByte_38 : decode cP_moveByte 38 = .ok (.goto 4, 3) := by decide +kernel
theorem dP_moveByte_41 : decode cP_moveByte 41 = .ok (.iconst (-1), 1) := by decide +kernel
theorem dP_moveByte_42 : decode cP_moveByte 42 = .ok (.istore_n 3, 1) := by decide +kernel
theorem dP_moveByte_43 : decode cP_moveByte 43 = .ok (.aload_n 0, 1) := by decide +kernel
theorem dP_moveByte_44 : decode cP_moveByte 44 = .ok (.getfield 10, 3) := by decide +kernel
theorem dP_moveByte_47 : decode cP_moveByte 47 = .ok (.iconst 4, 1) := by decide +kernel
theorem dP_moveByte_48 : decode cP_moveByte 48 = .ok (.aload_n 0, 1) := by decide +kernel
theorem dP_moveByte_49 : decode cP_moveByte 49 = .ok (.getfield 10, 3) := by decide +kernel
theorem dP_moveByte_52 : decode cP_moveByte 52 = .ok (.iconst 4, 1) := by decide +kernel
theorem dP_moveByte_53 : decode cP_moveByte 53 = .ok (.invokevirtual 211, 3) := by decide +kernel
theorem dP_moveByte_56 : decode cP_moveByte 56 = .ok (.iload_n 3, 1) := by decide +kernel
theorem dP_moveByte_57 : decode cP_moveByte 57 = .ok (.iadd, 1) := by decide +kernel
theorem dP_moveByte_58 : decode cP_moveByte 58 = .ok (.invokevirtual 190, 3) := by decide +kernel
theorem dP_moveByte_61 : decode cP_moveByte 61 = .ok (.aload_n 0, 1) := by decide +kernel
theorem dP_moveByte_62 : decode cP_moveByte 62 = .ok (.iload_n 3, 1) := by decide +kernel
theorem dP_moveByte_63 : decode cP_moveByte 63 = .ok (.aload_n 0, 1) := by decide +kernel
theorem dP_moveByte_64 : decode cP_moveByte 64 = .ok (.getfield 20, 3) := by decide +kernel
theorem dP_moveByte_67 : decode cP_moveByte 67 = .ok (.iconst 0, 1) := by decide +kernel
theorem dP_moveByte_68 : decode cP_moveByte 68 = .ok (.iaload, 1) := by decide +kernel
theorem dP_moveByte_69 : decode cP_moveByte 69 = .ok (.iload_n 2, 1) := by decide +kernel
theorem dP_moveByte_70 : decode cP_moveByte 70 = .ok (.iadd, 1) := by decide +kernel
theorem dP_moveByte_71 : decode cP_moveByte 71 = .ok (.invokevirtual 265, 3) := by decide +kernel
theorem dP_moveByte_74 : decode cP_moveByte 74 = .ok (.istore 4, 2) := by decide +kernel
theorem dP_moveByte_76 : decode cP_moveByte 76 = .ok (.aload_n 0, 1) := by decide +kernel
theorem dP_moveByte_77 : decode cP_moveByte 77 = .ok (.sipush 193, 3) := by decide +kernel
theorem dP_moveByte_80 : decode cP_moveByte 80 = .ok (.iload 4, 2) := by decide +kernel
theorem dP_moveByte_82 : decode cP_moveByte 82 = .ok (.invokevirtual 174, 3) := by decide +kernel
theorem dP_moveByte_85 : decode cP_moveByte 85 = .ok (.iload_n 1, 1) := by decide +kernel
theorem dP_moveByte_86 : decode cP_moveByte 86 = .ok (.bipush 6, 2) := by decide +kernel
theorem dP_moveByte_88 : decode cP_moveByte 88 = .ok (.if_icmp .lt 16, 3) := by decide +kernel
theorem dP_moveByte_91 : decode cP_moveByte 91 = .ok (.iload 4, 2) := by decide +kernel
theorem dP_moveByte_93 : decode cP_moveByte 93 = .ok (.iconst 4, 1) := by decide +kernel
theorem dP_moveByte_94 : decode cP_moveByte 94 = .ok (.iand, 1) := by decide +kernel
theorem dP_moveByte_95 : decode cP_moveByte 95 = .ok (.ifCond .eq 9, 3) := by decide +kernel
theorem dP_moveByte_98 : decode cP_moveByte 98 = .ok (.aload_n 0, 1) := by decide +kernel
theorem dP_moveByte_99 : decode cP_moveByte 99 = .ok (.bipush (-2), 2) := by decide +kernel
theorem dP_moveByte_101 : decode cP_moveByte 101 = .ok (.invokevirtual 106, 3) := by decide +kernel
theorem dP_moveByte_104 : decode cP_moveByte 104 = .ok (.return_, 1) := by decide +kernel
theorem dP_lookAtByte_0 : decode cP_lookAtByte 0 = .ok (.aload_n 0, 1) := by decide +kernel
theorem dP_lookAtByte_1 : decode cP_lookAtByte 1 = .ok (.getfield 21, 3) := by decide +kernel
theorem dP_lookAtByte_4 : decode cP_lookAtByte 4 = .ok (.aload_n 0, 1) := by decide +kernel
theorem dP_lookAtByte_5 : decode cP_lookAtByte 5 = .ok (.getfield 10, 3) := by decide +kernel
theorem dP_lookAtByte_8 : decode cP_lookAtByte 8 = .ok (.invokevirtual 109, 3) := by decide +kernel
theorem dP_lookAtByte_11 : decode cP_lookAtByte 11 = .ok (.invokevirtual 119, 3) := by decide +kernel
theorem dP_lookAtByte_14 : decode cP_lookAtByte 14 = .ok (.istore_n 2, 1) := by decide +kernel
theorem dP_lookAtByte_15 : decode cP_lookAtByte 15 = .ok (.aload_n 0, 1) := by decide +kernel
theorem dP_lookAtByte_16 : decode cP_lookAtByte 16 = .ok (.getfield 20, 3) := by decide +kernel
theorem dP_lookAtByte_19 : decode cP_lookAtByte 19 = .ok (.iconst 0, 1) := by decide +kernel
theorem dP_lookAtByte_20 : decode cP_lookAtByte 20 = .ok (.iaload, 1) := by decide +kernel
theorem dP_lookAtByte_21 : decode cP_lookAtByte 21 = .ok (.iload_n 2, 1) := by decide +kernel
theorem dP_lookAtByte_22 : decode cP_lookAtByte 22 = .ok (.iconst 0, 1) := by decide +kernel
theorem dP_lookAtByte_23 : decode cP_lookAtByte 23 = .ok (.invokestatic 180, 3) := by decide +kernel
theorem dP_lookAtByte_26 : decode cP_lookAtByte 26 = .ok (.istore_n 3, 1) := by decide +kernel
theorem dP_lookAtByte_27 : decode cP_lookAtByte 27 = .ok (.iload_n 3, 1) := by decide +kernel
theorem dP_lookAtByte_28 : decode cP_lookAtByte 28 = .ok (.bipush 16, 2) := by decide +kernel
theorem dP_lookAtByte_30 : decode cP_lookAtByte 30 = .ok (.iand, 1) := by decide +kernel
theorem dP_lookAtByte_31 : decode cP_lookAtByte 31 = .ok (.ifCond .eq 7, 3) := by decide +kernel
theorem dP_lookAtByte_34 : decode cP_lookAtByte 34 = .ok (.iconst 1, 1) := by decide +kernel
theorem dP_lookAtByte_35 : decode cP_lookAtByte 35 = .ok (.goto 4, 3) := by decide +kernel
theorem dP_lookAtByte_38 : decode cP_lookAtByte 38 = .ok (.iconst 0, 1) := by decide +kernel
theorem dP_lookAtByte_39 : decode cP_lookAtByte 39 = .ok (.istore 4, 2) := by decide +kernel
theorem dP_lookAtByte_41 : decode cP_lookAtByte 41 = .ok (.aload_n 0, 1) := by decide +kernel
theorem dP_lookAtByte_42 : decode cP_lookAtByte 42 = .ok (.iload_n 1, 1) := by decide +kernel
theorem dP_lookAtByte_43 : decode cP_lookAtByte 43 = .ok (.iconst 1, 1) := by decide +kernel
theorem dP_lookAtByte_44 : decode cP_lookAtByte 44 = .ok (.iand, 1) := by decide +kernel
theorem dP_lookAtByte_45 : decode cP_lookAtByte 45 = .ok (.ifCond .ne 7, 3) := by decide +kernel
theorem dP_lookAtByte_48 : decode cP_lookAtByte 48 = .ok (.iconst 1, 1) := by decide +kernel
theorem dP_lookAtByte_49 : decode cP_lookAtByte 49 = .ok (.goto 4, 3) := by decide +kernel
theorem dP_lookAtByte_52 : decode cP_lookAtByte 52 = .ok (.iconst (-1), 1) := by decide +kernel
theorem dP_lookAtByte_53 : decode cP_lookAtByte 53 = .ok (.iload_n 3, 1) := by decide +kernel
theorem dP_lookAtByte_54 : decode cP_lookAtByte 54 = .ok (.bipush 8, 2) := by decide +kernel
theorem dP_lookAtByte_56 : decode cP_lookAtByte 56 = .ok (.ishr, 1) := by decide +kernel
theorem dP_lookAtByte_57 : decode cP_lookAtByte 57 = .ok (.iload 4, 2) := by decide +kernel
theorem dP_lookAtByte_59 : decode cP_lookAtByte 59 = .ok (.isub, 1) := by decide +kernel
theorem dP_lookAtByte_60 : decode cP_lookAtByte 60 = .ok (.invokevirtual 265, 3) := by decide +kernel
theorem dP_lookAtByte_63 : decode cP_lookAtByte 63 = .ok (.istore 5, 2) := by decide +kernel
theorem dP_lookAtByte_65 : decode cP_lookAtByte 65 = .ok (.aload_n 0, 1) := by decide +kernel
theorem dP_lookAtByte_66 : decode cP_lookAtByte 66 = .ok (.iconst 1, 1) := by decide +kernel
theorem dP_lookAtByte_67 : decode cP_lookAtByte 67 = .ok (.iload 5, 2) := by decide +kernel
theorem dP_lookAtByte_69 : decode cP_lookAtByte 69 = .ok (.iload_n 3, 1) := by decide +kernel
theorem dP_lookAtByte_70 : decode cP_lookAtByte 70 = .ok (.sipush 210, 3) := by decide +kernel
theorem dP_lookAtByte_73 : decode cP_lookAtByte 73 = .ok (.iand, 1) := by decide +kernel
theorem dP_lookAtByte_74 : decode cP_lookAtByte 74 = .ok (.ior, 1) := by decide +kernel
theorem dP_lookAtByte_75 : decode cP_lookAtByte 75 = .ok (.invokevirtual 174, 3) := by decide +kernel
theorem dP_lookAtByte_78 : decode cP_lookAtByte 78 = .ok (.iload_n 1, 1) := by decide +kernel
theorem dP_lookAtByte_79 : decode cP_lookAtByte 79 = .ok (.bipush 6, 2) := by decide +kernel
theorem dP_lookAtByte_81 : decode cP_lookAtByte 81 = .ok (.if_icmp .lt 23, 3) := by decide +kernel
theorem dP_lookAtByte_84 : decode cP_lookAtByte 84 = .ok (.iload 5, 2) := by decide +kernel
theorem dP_lookAtByte_86 : decode cP_lookAtByte 86 = .ok (.iconst 4, 1) := by decide +kernel
theorem dP_lookAtByte_87 : decode cP_lookAtByte 87 = .ok (.iand, 1) := by decide +kernel
theorem dP_lookAtByte_88 : decode cP_lookAtByte 88 = .ok (.ifCond .eq 16, 3) := by decide +kernel
theorem dP_lookAtByte_91 : decode cP_lookAtByte 91 = .ok (.iload_n 3, 1) := by decide +kernel
theorem dP_lookAtByte_92 : decode cP_lookAtByte 92 = .ok (.bipush 8, 2) := by decide +kernel
theorem dP_lookAtByte_94 : decode cP_lookAtByte 94 = .ok (.ishr, 1) := by decide +kernel
theorem dP_lookAtByte_95 : decode cP_lookAtByte 95 = .ok (.ifCond .eq 9, 3) := by decide +kernel
theorem dP_lookAtByte_98 : decode cP_lookAtByte 98 = .ok (.aload_n 0, 1) := by decide +kernel
theorem dP_lookAtByte_99 : decode cP_lookAtByte 99 = .ok (.bipush (-2), 2) := by decide +kernel
theorem dP_lookAtByte_101 : decode cP_lookAtByte 101 = .ok (.invokevirtual 106, 3) := by decide +kernel
theorem dP_lookAtByte_104 : decode cP_lookAtByte 104 = .ok (.return_, 1) := by decide +kernel
theorem dP_advance_0 : decode cP_advance 0 = .ok (.aload_n 0, 1) := by decide +kernel
theorem dP_advance_1 : decode cP_advance 1 = .ok (.getfield 10, 3) := by decide +kernel
theorem dP_advance_4 : decode cP_advance 4 = .ok (.aload_n 0, 1) := by decide +kernel
theorem dP_advance_5 : decode cP_advance 5 = .ok (.getfield 10, 3) := by decide +kernel
theorem dP_advance_8 : decode cP_advance 8 = .ok (.invokevirtual 109, 3) := by decide +kernel
theorem dP_advance_11 : decode cP_advance 11 = .ok (.iload_n 1, 1) := by decide +kernel
theorem dP_advance_12 : decode cP_advance 12 = .ok (.iadd, 1) := by decide +kernel
theorem dP_advance_13 : decode cP_advance 13 = .ok (.invokevirtual 171, 3) := by decide +kernel
theorem dP_advance_16 : decode cP_advance 16 = .ok (.aload_n 0, 1) := by decide +kernel
theorem dP_advance_17 : decode cP_advance 17 = .ok (.getfield 10, 3) := by decide +kernel
theorem dP_advance_20 : decode cP_advance 20 = .ok (.iconst 2, 1) := by decide +kernel
theorem dP_advance_21 : decode cP_advance 21 = .ok (.invokevirtual 211, 3) := by decide +kernel
theorem dP_advance_24 : decode cP_advance 24 = .ok (.iconst 1, 1) := by decide +kernel
theorem dP_advance_25 : decode cP_advance 25 = .ok (.isub, 1) := by decide +kernel
theorem dP_advance_26 : decode cP_advance 26 = .ok (.ldc 118, 2) := by decide +kernel
theorem dP_advance_28 : decode cP_advance 28 = .ok (.iand, 1) := by decide +kernel
theorem dP_advance_29 : decode cP_advance 29 = .ok (.istore_n 3, 1) := by decide +kernel
theorem dP_advance_30 : decode cP_advance 30 = .ok (.aload_n 0, 1) := by decide +kernel
theorem dP_advance_31 : decode cP_advance 31 = .ok (.getfield 10, 3) := by decide +kernel
theorem dP_advance_34 : decode cP_advance 34 = .ok (.iconst 2, 1) := by decide +kernel
theorem dP_advance_35 : decode cP_advance 35 = .ok (.iload_n 3, 1) := by decide +kernel
theorem dP_advance_36 : decode cP_advance 36 = .ok (.invokevirtual 190, 3) := by decide +kernel
theorem dP_advance_39 : decode cP_advance 39 = .ok (.iload_n 2, 1) := by decide +kernel
theorem dP_advance_40 : decode cP_advance 40 = .ok (.iconst 2, 1) := by decide +kernel
theorem dP_advance_41 : decode cP_advance 41 = .ok (.iand, 1) := by decide +kernel
theorem dP_advance_42 : decode cP_advance 42 = .ok (.iconst 4, 1) := by decide +kernel
theorem dP_advance_43 : decode cP_advance 43 = .ok (.ishl, 1) := by decide +kernel
theorem dP_advance_44 : decode cP_advance 44 = .ok (.iload_n 2, 1) := by decide +kernel
theorem dP_advance_45 : decode cP_advance 45 = .ok (.bipush 8, 2) := by decide +kernel
theorem dP_advance_47 : decode cP_advance 47 = .ok (.iand, 1) := by decide +kernel
theorem dP_advance_48 : decode cP_advance 48 = .ok (.ior, 1) := by decide +kernel
theorem dP_advance_49 : decode cP_advance 49 = .ok (.iload_n 3, 1) := by decide +kernel
theorem dP_advance_50 : decode cP_advance 50 = .ok (.ifCond .eq 7, 3) := by decide +kernel
theorem dP_advance_53 : decode cP_advance 53 = .ok (.iconst 4, 1) := by decide +kernel
theorem dP_advance_54 : decode cP_advance 54 = .ok (.goto 4, 3) := by decide +kernel
theorem dP_advance_57 : decode cP_advance 57 = .ok (.iconst 0, 1) := by decide +kernel
theorem dP_advance_58 : decode cP_advance 58 = .ok (.ior, 1) := by decide +kernel
theorem dP_advance_59 : decode cP_advance 59 = .ok (.ireturn, 1) := by decide +kernel
theorem dT_init_0 : decode cT_init 0 = .ok (.aload_n 0, 1) := by decide +kernel
theorem dT_init_1 : decode cT_init 1 = .ok (.invokespecial 1, 3) := by decide +kernel
theorem dT_init_4 : decode cT_init 4 = .ok (.aload_n 0, 1) := by decide +kernel
theorem dT_init_5 : decode cT_init 5 = .ok (.bipush 40, 2) := by decide +kernel
theorem dT_init_7 : decode cT_init 7 = .ok (.newarray .int, 2) := by decide +kernel
theorem dT_init_9 : decode cT_init 9 = .ok (.putfield 9, 3) := by decide +kernel
theorem dT_init_12 : decode cT_init 12 = .ok (.return_, 1) := by decide +kernel
theorem dT_append_0 : decode cT_append 0 = .ok (.iload_n 1, 1) := by decide +kernel
theorem dT_append_1 : decode cT_append 1 = .ok (.iconst 1, 1) := by decide +kernel
theorem dT_append_2 : decode cT_append 2 = .ok (.if_icmp .lt 26, 3) := by decide +kernel
theorem dT_append_5 : decode cT_append 5 = .ok (.iload_n 1, 1) := by decide +kernel
theorem dT_append_6 : decode cT_append 6 = .ok (.sipush 10000, 3) := by decide +kernel
theorem dT_append_9 : decode cT_append 9 = .ok (.if_icmp .gt 19, 3) := by decide +kernel
theorem dT_append_12 : decode cT_append 12 = .ok (.aload_n 0, 1) := by decide +kernel
theorem dT_append_13 : decode cT_append 13 = .ok (.getfield 13, 3) := by decide +kernel
theorem dT_append_16 : decode cT_append 16 = .ok (.bipush 40, 2) := by decide +kernel
theorem dT_append_18 : decode cT_append 18 = .ok (.if_icmp .ge 10, 3) := by decide +kernel
theorem dT_append_21 : decode cT_append 21 = .ok (.aload_n 0, 1) := by decide +kernel
theorem dT_append_22 : decode cT_append 22 = .ok (.getfield 17, 3) := by decide +kernel
theorem dT_append_25 : decode cT_append 25 = .ok (.ifCond .eq 5, 3) := by decide +kernel
theorem dT_append_28 : decode cT_append 28 = .ok (.iconst 0, 1) := by decide +kernel
theorem dT_append_29 : decode cT_append 29 = .ok (.ireturn, 1) := by decide +kernel
theorem dT_append_30 : decode cT_append 30 = .ok (.aload_n 0, 1) := by decide +kernel
theorem dT_append_31 : decode cT_append 31 = .ok (.getfield 9, 3) := by decide +kernel
theorem dT_append_34 : decode cT_append 34 = .ok (.aload_n 0, 1) := by decide +kernel
theorem dT_append_35 : decode cT_append 35 = .ok (.getfield 13, 3) := by decide +kernel
theorem dT_append_38 : decode cT_append 38 = .ok (.iload_n 1, 1) := by decide +kernel
theorem dT_append_39 : decode cT_append 39 = .ok (.aload_n 0, 1) := by decide +kernel
theorem dT_append_40 : decode cT_append 40 = .ok (.getfield 13, 3) := by decide +kernel
theorem dT_append_43 : decode cT_append 43 = .ok (.ifCond .ne 7, 3) := by decide +kernel
theorem dT_append_46 : decode cT_append 46 = .ok (.iconst 0, 1) := by decide +kernel
theorem dT_append_47 : decode cT_append 47 = .ok (.goto 14, 3) := by decide +kernel
theorem dT_append_50 : decode cT_append 50 = .ok (.aload_n 0, 1) := by decide +kernel
theorem dT_append_51 : decode cT_append 51 = .ok (.getfield 9, 3) := by decide +kernel
theorem dT_append_54 : decode cT_append 54 = .ok (.aload_n 0, 1) := by decide +kernel
theorem dT_append_55 : decode cT_append 55 = .ok (.getfield 13, 3) := by decide +kernel
theorem dT_append_58 : decode cT_append 58 = .ok (.iconst 1, 1) := by decide +kernel
theorem dT_append_59 : decode cT_append 59 = .ok (.isub, 1) := by decide +kernel
theorem dT_append_60 : decode cT_append 60 = .ok (.iaload, 1) := by decide +kernel
theorem dT_append_61 : decode cT_append 61 = .ok (.iadd, 1) := by decide +kernel
theorem dT_append_62 : decode cT_append 62 = .ok (.iastore, 1) := by decide +kernel
theorem dT_append_63 : decode cT_append 63 = .ok (.aload_n 0, 1) := by decide +kernel
theorem dT_append_64 : decode cT_append 64 = .ok (.dup, 1) := by decide +kernel
theorem dT_append_65 : decode cT_append 65 = .ok (.getfield 13, 3) := by decide +kernel
theorem dT_append_68 : decode cT_append 68 = .ok (.iconst 1, 1) := by decide +kernel
theorem dT_append_69 : decode cT_append 69 = .ok (.iadd, 1) := by decide +kernel
theorem dT_append_70 : decode cT_append 70 = .ok (.putfield 13, 3) := by decide +kernel
theorem dT_append_73 : decode cT_append 73 = .ok (.iconst 1, 1) := by decide +kernel
theorem dT_append_74 : decode cT_append 74 = .ok (.ireturn, 1) := by decide +kernel
theorem dT_command_0 : decode cT_command 0 = .ok (.iload_n 1, 1) := by decide +kernel
theorem dT_command_1 : decode cT_command 1 = .ok (.ifCond .lt 20, 3) := by decide +kernel
theorem dT_command_4 : decode cT_command 4 = .ok (.iload_n 1, 1) := by decide +kernel
theorem dT_command_5 : decode cT_command 5 = .ok (.iconst 2, 1) := by decide +kernel
theorem dT_command_6 : decode cT_command 6 = .ok (.if_icmp .gt 15, 3) := by decide +kernel
theorem dT_command_9 : decode cT_command 9 = .ok (.iload_n 1, 1) := by decide +kernel
theorem dT_command_10 : decode cT_command 10 = .ok (.iconst 1, 1) := by decide +kernel
theorem dT_command_11 : decode cT_command 11 = .ok (.if_icmp .ne 12, 3) := by decide +kernel
theorem dT_command_14 : decode cT_command 14 = .ok (.aload_n 0, 1) := by decide +kernel
theorem dT_command_15 : decode cT_command 15 = .ok (.getfield 13, 3) := by decide +kernel
theorem dT_command_18 : decode cT_command 18 = .ok (.ifCond .ne 5, 3) := by decide +kernel
theorem dT_command_21 : decode cT_command 21 = .ok (.iconst 0, 1) := by decide +kernel
theorem dT_command_22 : decode cT_command 22 = .ok (.ireturn, 1) := by decide +kernel
theorem dT_command_23 : decode cT_command 23 = .ok (.aload_n 0, 1) := by decide +kernel
theorem dT_command_24 : decode cT_command 24 = .ok (.iload_n 1, 1) := by decide +kernel
theorem dT_command_25 : decode cT_command 25 = .ok (.iconst 1, 1) := by decide +kernel
theorem dT_command_26 : decode cT_command 26 = .ok (.if_icmp .ne 7, 3) := by decide +kernel
theorem dT_command_29 : decode cT_command 29 = .ok (.iconst 1, 1) := by decide +kernel
theorem dT_command_30 : decode cT_command 30 = .ok (.goto 4, 3) := by decide +kernel
theorem dT_command_33 : decode cT_command 33 = .ok (.iconst 0, 1) := by decide +kernel
theorem dT_command_34 : decode cT_command 34 = .ok (.putfield 17, 3) := by decide +kernel
theorem dT_command_37 : decode cT_command 37 = .ok (.iload_n 1, 1) := by decide +kernel
theorem dT_command_38 : decode cT_command 38 = .ok (.ifCond .eq 13, 3) := by decide +kernel
theorem dT_command_41 : decode cT_command 41 = .ok (.aload_n 0, 1) := by decide +kernel
theorem dT_command_42 : decode cT_command 42 = .ok (.iconst 0, 1) := by decide +kernel
theorem dT_command_43 : decode cT_command 43 = .ok (.putfield 21, 3) := by decide +kernel
theorem dT_command_46 : decode cT_command 46 = .ok (.aload_n 0, 1) := by decide +kernel
theorem dT_command_47 : decode cT_command 47 = .ok (.iload_n 2, 1) := by decide +kernel
theorem dT_command_48 : decode cT_command 48 = .ok (.putfield 24, 3) := by decide +kernel
theorem dT_command_51 : decode cT_command 51 = .ok (.iload_n 1, 1) := by decide +kernel
theorem dT_command_52 : decode cT_command 52 = .ok (.iconst 2, 1) := by decide +kernel
theorem dT_command_53 : decode cT_command 53 = .ok (.if_icmp .ne 8, 3) := by decide +kernel
theorem dT_command_56 : decode cT_command 56 = .ok (.aload_n 0, 1) := by decide +kernel
theorem dT_command_57 : decode cT_command 57 = .ok (.iconst 0, 1) := by decide +kernel
theorem dT_command_58 : decode cT_command 58 = .ok (.putfield 13, 3) := by decide +kernel
theorem dT_command_61 : decode cT_command 61 = .ok (.iconst 1, 1) := by decide +kernel
theorem dT_command_62 : decode cT_command 62 = .ok (.ireturn, 1) := by decide +kernel
theorem dT_follow_0 : decode cT_follow 0 = .ok (.aload_n 0, 1) := by decide +kernel
theorem dT_follow_1 : decode cT_follow 1 = .ok (.getfield 17, 3) := by decide +kernel
theorem dT_follow_4 : decode cT_follow 4 = .ok (.ifCond .ne 4, 3) := by decide +kernel
theorem dT_follow_7 : decode cT_follow 7 = .ok (.return_, 1) := by decide +kernel
theorem dT_follow_8 : decode cT_follow 8 = .ok (.aload_n 0, 1) := by decide +kernel
theorem dT_follow_9 : decode cT_follow 9 = .ok (.getfield 21, 3) := by decide +kernel
theorem dT_follow_12 : decode cT_follow 12 = .ok (.aload_n 0, 1) := by decide +kernel
theorem dT_follow_13 : decode cT_follow 13 = .ok (.getfield 13, 3) := by decide +kernel
theorem dT_follow_16 : decode cT_follow 16 = .ok (.if_icmp .ge 34, 3) := by decide +kernel
theorem dT_follow_19 : decode cT_follow 19 = .ok (.aload_n 0, 1) := by decide +kernel
theorem dT_follow_20 : decode cT_follow 20 = .ok (.getfield 9, 3) := by decide +kernel
theorem dT_follow_23 : decode cT_follow 23 = .ok (.aload_n 0, 1) := by decide +kernel
theorem dT_follow_24 : decode cT_follow 24 = .ok (.getfield 21, 3) := by decide +kernel
theorem dT_follow_27 : decode cT_follow 27 = .ok (.iaload, 1) := by decide +kernel
theorem dT_follow_28 : decode cT_follow 28 = .ok (.iload_n 1, 1) := by decide +kernel
theorem dT_follow_29 : decode cT_follow 29 = .ok (.aload_n 0, 1) := by decide +kernel
theorem dT_follow_30 : decode cT_follow 30 = .ok (.getfield 24, 3) := by decide +kernel
theorem dT_follow_33 : decode cT_follow 33 = .ok (.isub, 1) := by decide +kernel
theorem dT_follow_34 : decode cT_follow 34 = .ok (.if_icmp .gt 16, 3) := by decide +kernel
theorem dT_follow_37 : decode cT_follow 37 = .ok (.aload_n 0, 1) := by decide +kernel
theorem dT_follow_38 : decode cT_follow 38 = .ok (.dup, 1) := by decide +kernel
theorem dT_follow_39 : decode cT_follow 39 = .ok (.getfield 21, 3) := by decide +kernel
theorem dT_follow_42 : decode cT_follow 42 = .ok (.iconst 1, 1) := by decide +kernel
theorem dT_follow_43 : decode cT_follow 43 = .ok (.iadd, 1) := by decide +kernel
theorem dT_follow_44 : decode cT_follow 44 = .ok (.putfield 21, 3) := by decide +kernel
theorem dT_follow_47 : decode cT_follow 47 = .ok (.goto (-39), 3) := by decide +kernel
theorem dT_follow_50 : decode cT_follow 50 = .ok (.aload_n 0, 1) := by decide +kernel
theorem dT_follow_51 : decode cT_follow 51 = .ok (.aload_n 0, 1) := by decide +kernel
theorem dT_follow_52 : decode cT_follow 52 = .ok (.getfield 21, 3) := by decide +kernel
theorem dT_follow_55 : decode cT_follow 55 = .ok (.aload_n 0, 1) := by decide +kernel
theorem dT_follow_56 : decode cT_follow 56 = .ok (.getfield 13, 3) := by decide +kernel
theorem dT_follow_59 : decode cT_follow 59 = .ok (.if_icmp .ge 7, 3) := by decide +kernel
theorem dT_follow_62 : decode cT_follow 62 = .ok (.iconst 1, 1) := by decide +kernel
theorem dT_follow_63 : decode cT_follow 63 = .ok (.goto 4, 3) := by decide +kernel
theorem dT_follow_66 : decode cT_follow 66 = .ok (.iconst 0, 1) := by decide +kernel
theorem dT_follow_67 : decode cT_follow 67 = .ok (.putfield 17, 3) := by decide +kernel
theorem dT_follow_70 : decode cT_follow 70 = .ok (.return_, 1) := by decide +kernel
theorem dT_level_0 : decode cT_level 0 = .ok (.aload_n 0, 1) := by decide +kernel
theorem dT_level_1 : decode cT_level 1 = .ok (.getfield 21, 3) := by decide +kernel
theorem dT_level_4 : decode cT_level 4 = .ok (.iconst 1, 1) := by decide +kernel
theorem dT_level_5 : decode cT_level 5 = .ok (.iand, 1) := by decide +kernel
theorem dT_level_6 : decode cT_level 6 = .ok (.ireturn, 1) := by decide +kernel
theorem dG_init_0 : decode cG_init 0 = .ok (.aload_n 0, 1) := by decide +kernel
theorem dG_init_1 : decode cG_init 1 = .ok (.invokespecial 1, 3) := by decide +kernel
theorem dG_init_4 : decode cG_init 4 = .ok (.aload_n 0, 1) := by decide +kernel
theorem dG_init_5 : decode cG_init 5 = .ok (.bipush 26, 2) := by decide +kernel
theorem dG_init_7 : decode cG_init 7 = .ok (.newarray .int, 2) := by decide +kernel
theorem dG_init_9 : decode cG_init 9 = .ok (.putfield 9, 3) := by decide +kernel
theorem dG_init_12 : decode cG_init 12 = .ok (.aload_n 0, 1) := by decide +kernel
theorem dG_init_13 : decode cG_init 13 = .ok (.bipush 6, 2) := by decide +kernel
theorem dG_init_15 : decode cG_init 15 = .ok (.putfield 13, 3) := by decide +kernel
theorem dG_init_18 : decode cG_init 18 = .ok (.return_, 1) := by decide +kernel
theorem dG_change_0 : decode cG_change 0 = .ok (.iload_n 1, 1) := by decide +kernel
theorem dG_change_1 : decode cG_change 1 = .ok (.ifCond .lt 24, 3) := by decide +kernel
theorem dG_change_4 : decode cG_change 4 = .ok (.iload_n 1, 1) := by decide +kernel
theorem dG_change_5 : decode cG_change 5 = .ok (.bipush 24, 2) := by decide +kernel
theorem dG_change_7 : decode cG_change 7 = .ok (.if_icmp .gt 18, 3) := by decide +kernel
theorem dG_change_10 : decode cG_change 10 = .ok (.iload_n 1, 1) := by decide +kernel
theorem dG_change_11 : decode cG_change 11 = .ok (.bipush 24, 2) := by decide +kernel
theorem dG_change_13 : decode cG_change 13 = .ok (.if_icmp .ne 14, 3) := by decide +kernel
theorem dG_change_16 : decode cG_change 16 = .ok (.iload_n 2, 1) := by decide +kernel
theorem dG_change_17 : decode cG_change 17 = .ok (.ifCond .lt 8, 3) := by decide +kernel
theorem dG_change_20 : decode cG_change 20 = .ok (.iload_n 2, 1) := by decide +kernel
theorem dG_change_21 : decode cG_change 21 = .ok (.iconst 2, 1) := by decide +kernel
theorem dG_change_22 : decode cG_change 22 = .ok (.if_icmp .le 5, 3) := by decide +kernel
theorem dG_change_25 : decode cG_change 25 = .ok (.iconst 0, 1) := by decide +kernel
theorem dG_change_26 : decode cG_change 26 = .ok (.ireturn, 1) := by decide +kernel
theorem dG_change_27 : decode cG_change 27 = .ok (.aload_n 0, 1) := by decide +kernel
theorem dG_change_28 : decode cG_change 28 = .ok (.getfield 9, 3) := by decide +kernel
theorem dG_change_31 : decode cG_change 31 = .ok (.iload_n 1, 1) := by decide +kernel
theorem dG_change_32 : decode cG_change 32 = .ok (.iload_n 2, 1) := by decide +kernel
theorem dG_change_33 : decode cG_change 33 = .ok (.iload_n 1, 1) := by decide +kernel
theorem dG_change_34 : decode cG_change 34 = .ok (.invokestatic 17, 3) := by decide +kernel
theorem dG_change_37 : decode cG_change 37 = .ok (.iand, 1) := by decide +kernel
theorem dG_change_38 : decode cG_change 38 = .ok (.iastore, 1) := by decide +kernel
theorem dG_change_39 : decode cG_change 39 = .ok (.iconst 1, 1) := by decide +kernel
theorem dG_change_40 : decode cG_change 40 = .ok (.ireturn, 1) := by decide +kernel
theorem dG_widest_0 : decode cG_widest 0 = .ok (.iload_n 0, 1) := by decide +kernel
theorem dG_widest_1 : decode cG_widest 1 = .ok (.bipush 18, 2) := by decide +kernel
theorem dG_widest_3 : decode cG_widest 3 = .ok (.if_icmp .ge 7, 3) := by decide +kernel
theorem dG_widest_6 : decode cG_widest 6 = .ok (.sipush 255, 3) := by decide +kernel
theorem dG_widest_9 : decode cG_widest 9 = .ok (.ireturn, 1) := by decide +kernel
theorem dG_widest_10 : decode cG_widest 10 = .ok (.iload_n 0, 1) := by decide +kernel
theorem dG_widest_11 : decode cG_widest 11 = .ok (.bipush 21, 2) := by decide +kernel
theorem dG_widest_13 : decode cG_widest 13 = .ok (.if_icmp .gt 6, 3) := by decide +kernel
theorem dG_widest_16 : decode cG_widest 16 = .ok (.ldc 21, 2) := by decide +kernel
theorem dG_widest_18 : decode cG_widest 18 = .ok (.ireturn, 1) := by decide +kernel
theorem dG_widest_19 : decode cG_widest 19 = .ok (.iload_n 0, 1) := by decide +kernel
theorem dG_widest_20 : decode cG_widest 20 = .ok (.bipush 24, 2) := by decide +kernel
theorem dG_widest_22 : decode cG_widest 22 = .ok (.if_icmp .ne 7, 3) := by decide +kernel
theorem dG_widest_25 : decode cG_widest 25 = .ok (.iconst 3, 1) := by decide +kernel
theorem dG_widest_26 : decode cG_widest 26 = .ok (.goto 4, 3) := by decide +kernel
theorem dG_widest_29 : decode cG_widest 29 = .ok (.iconst 1, 1) := by decide +kernel
theorem dG_widest_30 : decode cG_widest 30 = .ok (.ireturn, 1) := by decide +kernel
theorem dG_tell_0 : decode cG_tell 0 = .ok (.iload_n 1, 1) := by decide +kernel
theorem dG_tell_1 : decode cG_tell 1 = .ok (.ifCond .lt 9, 3) := by decide +kernel
theorem dG_tell_4 : decode cG_tell 4 = .ok (.iload_n 1, 1) := by decide +kernel
theorem dG_tell_5 : decode cG_tell 5 = .ok (.bipush 25, 2) := by decide +kernel
theorem dG_tell_7 : decode cG_tell 7 = .ok (.if_icmp .le 7, 3) := by decide +kernel
theorem dG_tell_10 : decode cG_tell 10 = .ok (.iconst (-1), 1) := by decide +kernel
theorem dG_tell_11 : decode cG_tell 11 = .ok (.goto 9, 3) := by decide +kernel
theorem dG_tell_14 : decode cG_tell 14 = .ok (.aload_n 0, 1) := by decide +kernel
theorem dG_tell_15 : decode cG_tell 15 = .ok (.getfield 9, 3) := by decide +kernel
theorem dG_tell_18 : decode cG_tell 18 = .ok (.iload_n 1, 1) := by decide +kernel
theorem dG_tell_19 : decode cG_tell 19 = .ok (.iaload, 1) := by decide +kernel
theorem dG_tell_20 : decode cG_tell 20 = .ok (.ireturn, 1) := by decide +kernel
theorem dG_joined_0 : decode cG_joined 0 = .ok (.aload_n 0, 1) := by decide +kernel
theorem dG_joined_1 : decode cG_joined 1 = .ok (.getfield 9, 3) := by decide +kernel
theorem dG_joined_4 : decode cG_joined 4 = .ok (.iload_n 1, 1) := by decide +kernel
theorem dG_joined_5 : decode cG_joined 5 = .ok (.iaload, 1) := by decide +kernel
theorem dG_joined_6 : decode cG_joined 6 = .ok (.bipush 8, 2) := by decide +kernel
theorem dG_joined_8 : decode cG_joined 8 = .ok (.ishl, 1) := by decide +kernel
theorem dG_joined_9 : decode cG_joined 9 = .ok (.aload_n 0, 1) := by decide +kernel
theorem dG_joined_10 : decode cG_joined 10 = .ok (.getfield 9, 3) := by decide +kernel
theorem dG_joined_13 : decode cG_joined 13 = .ok (.iload_n 1, 1) := by decide +kernel
theorem dG_joined_14 : decode cG_joined 14 = .ok (.iconst 1, 1) := by decide +kernel
theorem dG_joined_15 : decode cG_joined 15 = .ok (.iadd, 1) := by decide +kernel
theorem dG_joined_16 : decode cG_joined 16 = .ok (.iaload, 1) := by decide +kernel
theorem dG_joined_17 : decode cG_joined 17 = .ok (.ior, 1) := by decide +kernel
theorem dG_joined_18 : decode cG_joined 18 = .ok (.ireturn, 1) := by decide +kernel
theorem dG_split_0 : decode cG_split 0 = .ok (.aload_n 0, 1) := by decide +kernel
theorem dG_split_1 : decode cG_split 1 = .ok (.getfield 9, 3) := by decide +kernel
theorem dG_split_4 : decode cG_split 4 = .ok (.iload_n 1, 1) := by decide +kernel
theorem dG_split_5 : decode cG_split 5 = .ok (.iload_n 2, 1) := by decide +kernel
theorem dG_split_6 : decode cG_split 6 = .ok (.bipush 8, 2) := by decide +kernel
theorem dG_split_8 : decode cG_split 8 = .ok (.ishr, 1) := by decide +kernel
theorem dG_split_9 : decode cG_split 9 = .ok (.sipush 255, 3) := by decide +kernel
theorem dG_split_12 : decode cG_split 12 = .ok (.iand, 1) := by decide +kernel
theorem dG_split_13 : decode cG_split 13 = .ok (.iastore, 1) := by decide +kernel
theorem dG_split_14 : decode cG_split 14 = .ok (.aload_n 0, 1) := by decide +kernel
theorem dG_split_15 : decode cG_split 15 = .ok (.getfield 9, 3) := by decide +kernel
theorem dG_split_18 : decode cG_split 18 = .ok (.iload_n 1, 1) := by decide +kernel
theorem dG_split_19 : decode cG_split 19 = .ok (.iconst 1, 1) := by decide +kernel
theorem dG_split_20 : decode cG_split 20 = .ok (.iadd, 1) := by decide +kernel
theorem dG_split_21 : decode cG_split 21 = .ok (.iload_n 2, 1) := by decide +kernel
theorem dG_split_22 : decode cG_split 22 = .ok (.sipush 255, 3) := by decide +kernel
theorem dG_split_25 : decode cG_split 25 = .ok (.iand, 1) := by decide +kernel
theorem dG_split_26 : decode cG_split 26 = .ok (.iastore, 1) := by decide +kernel
theorem dG_split_27 : decode cG_split 27 = .ok (.return_, 1) := by decide +kernel
theorem dG_hl_0 : decode cG_hl 0 = .ok (.aload_n 0, 1) := by decide +kernel
theorem dG_hl_1 : decode cG_hl 1 = .ok (.getfield 13, 3) := by decide +kernel
theorem dG_hl_4 : decode cG_hl 4 = .ok (.bipush 6, 2) := by decide +kernel
theorem dG_hl_6 : decode cG_hl 6 = .ok (.if_icmp .ne 12, 3) := by decide +kernel
theorem dG_hl_9 : decode cG_hl 9 = .ok (.aload_n 0, 1) := by decide +kernel
theorem dG_hl_10 : decode cG_hl 10 = .ok (.bipush 6, 2) := by decide +kernel
theorem dG_hl_12 : decode cG_hl 12 = .ok (.invokevirtual 22, 3) := by decide +kernel
theorem dG_hl_15 : decode cG_hl 15 = .ok (.goto 12, 3) := by decide +kernel
theorem dG_hl_18 : decode cG_hl 18 = .ok (.aload_n 0, 1) := by decide +kernel
theorem dG_hl_19 : decode cG_hl 19 = .ok (.getfield 9, 3) := by decide +kernel
theorem dG_hl_22 : decode cG_hl 22 = .ok (.aload_n 0, 1) := by decide +kernel
theorem dG_hl_23 : decode cG_hl 23 = .ok (.getfield 13, 3) := by decide +kernel
theorem dG_hl_26 : decode cG_hl 26 = .ok (.iaload, 1) := by decide +kernel
theorem dG_hl_27 : decode cG_hl 27 = .ok (.ireturn, 1) := by decide +kernel
theorem dG_setHl_0 : decode cG_setHl 0 = .ok (.aload_n 0, 1) := by decide +kernel
theorem dG_setHl_1 : decode cG_setHl 1 = .ok (.getfield 13, 3) := by decide +kernel
theorem dG_setHl_4 : decode cG_setHl 4 = .ok (.bipush 6, 2) := by decide +kernel
theorem dG_setHl_6 : decode cG_setHl 6 = .ok (.if_icmp .ne 13, 3) := by decide +kernel
theorem dG_setHl_9 : decode cG_setHl 9 = .ok (.aload_n 0, 1) := by decide +kernel
theorem dG_setHl_10 : decode cG_setHl 10 = .ok (.bipush 6, 2) := by decide +kernel
theorem dG_setHl_12 : decode cG_setHl 12 = .ok (.iload_n 1, 1) := by decide +kernel
theorem dG_setHl_13 : decode cG_setHl 13 = .ok (.invokevirtual 25, 3) := by decide +kernel
theorem dG_setHl_16 : decode cG_setHl 16 = .ok (.goto 16, 3) := by decide +kernel
theorem dG_setHl_19 : decode cG_setHl 19 = .ok (.aload_n 0, 1) := by decide +kernel
theorem dG_setHl_20 : decode cG_setHl 20 = .ok (.getfield 9, 3) := by decide +kernel
theorem dG_setHl_23 : decode cG_setHl 23 = .ok (.aload_n 0, 1) := by decide +kernel
theorem dG_setHl_24 : decode cG_setHl 24 = .ok (.getfield 13, 3) := by decide +kernel
theorem dG_setHl_27 : decode cG_setHl 27 = .ok (.iload_n 1, 1) := by decide +kernel
theorem dG_setHl_28 : decode cG_setHl 28 = .ok (.ldc 21, 2) := by decide +kernel
theorem dG_setHl_30 : decode cG_setHl 30 = .ok (.iand, 1) := by decide +kernel
theorem dG_setHl_31 : decode cG_setHl 31 = .ok (.iastore, 1) := by decide +kernel
theorem dG_setHl_32 : decode cG_setHl 32 = .ok (.return_, 1) := by decide +kernel
theorem dG_pair_0 : decode cG_pair 0 = .ok (.iload_n 1, 1) := by decide +kernel
theorem dG_pair_1 : decode cG_pair 1 = .ok (.iconst 3, 1) := by decide +kernel
theorem dG_pair_2 : decode cG_pair 2 = .ok (.if_icmp .ne 11, 3) := by decide +kernel
theorem dG_pair_5 : decode cG_pair 5 = .ok (.aload_n 0, 1) := by decide +kernel
theorem dG_pair_6 : decode cG_pair 6 = .ok (.getfield 9, 3) := by decide +kernel
theorem dG_pair_9 : decode cG_pair 9 = .ok (.bipush 20, 2) := by decide +kernel
theorem dG_pair_11 : decode cG_pair 11 = .ok (.iaload, 1) := by decide +kernel
theorem dG_pair_12 : decode cG_pair 12 = .ok (.ireturn, 1) := by decide +kernel
theorem dG_pair_13 : decode cG_pair 13 = .ok (.iload_n 1, 1) := by decide +kernel
theorem dG_pair_14 : decode cG_pair 14 = .ok (.iconst 2, 1) := by decide +kernel
theorem dG_pair_15 : decode cG_pair 15 = .ok (.if_icmp .ne 10, 3) := by decide +kernel
theorem dG_pair_18 : decode cG_pair 18 = .ok (.aload_n 0, 1) := by decide +kernel
theorem dG_pair_19 : decode cG_pair 19 = .ok (.invokevirtual 29, 3) := by decide +kernel
theorem dG_pair_22 : decode cG_pair 22 = .ok (.goto 12, 3) := by decide +kernel
theorem dG_pair_25 : decode cG_pair 25 = .ok (.aload_n 0, 1) := by decide +kernel
theorem dG_pair_26 : decode cG_pair 26 = .ok (.iconst 2, 1) := by decide +kernel
theorem dG_pair_27 : decode cG_pair 27 = .ok (.iconst 2, 1) := by decide +kernel
theorem dG_pair_28 : decode cG_pair 28 = .ok (.iload_n 1, 1) := by decide +kernel
theorem dG_pair_29 : decode cG_pair 29 = .ok (.imul, 1) := by decide +kernel
theorem dG_pair_30 : decode cG_pair 30 = .ok (.iadd, 1) := by decide +kernel
theorem dG_pair_31 : decode cG_pair 31 = .ok (.invokevirtual 22, 3) := by decide +kernel
theorem dG_pair_34 : decode cG_pair 34 = .ok (.ireturn, 1) := by decide +kernel
theorem dG_setPair_0 : decode cG_setPair 0 = .ok (.iload_n 1, 1) := by decide +kernel
theorem dG_setPair_1 : decode cG_setPair 1 = .ok (.iconst 3, 1) := by decide +kernel
theorem dG_setPair_2 : decode cG_setPair 2 = .ok (.if_icmp .ne 17, 3) := by decide +kernel
theorem dG_setPair_5 : decode cG_setPair 5 = .ok (.aload_n 0, 1) := by decide +kernel
theorem dG_setPair_6 : decode cG_setPair 6 = .ok (.getfield 9, 3) := by decide +kernel
theorem dG_setPair_9 : decode cG_setPair 9 = .ok (.bipush 20, 2) := by decide +kernel
theorem dG_setPair_11 : decode cG_setPair 11 = .ok (.iload_n 2, 1) := by decide +kernel
theorem dG_setPair_12 : decode cG_setPair 12 = .ok (.ldc 21, 2) := by decide +kernel
theorem dG_setPair_14 : decode cG_setPair 14 = .ok (.iand, 1) := by decide +kernel
theorem dG_setPair_15 : decode cG_setPair 15 = .ok (.iastore, 1) := by decide +kernel
theorem dG_setPair_16 : decode cG_setPair 16 = .ok (.goto 26, 3) := by decide +kernel
theorem dG_setPair_19 : decode cG_setPair 19 = .ok (.iload_n 1, 1) := by decide +kernel
theorem dG_setPair_20 : decode cG_setPair 20 = .ok (.iconst 2, 1) := by decide +kernel
theorem dG_setPair_21 : decode cG_setPair 21 = .ok (.if_icmp .ne 11, 3) := by decide +kernel
theorem dG_setPair_24 : decode cG_setPair 24 = .ok (.aload_n 0, 1) := by decide +kernel
theorem dG_setPair_25 : decode cG_setPair 25 = .ok (.iload_n 2, 1) := by decide +kernel
theorem dG_setPair_26 : decode cG_setPair 26 = .ok (.invokevirtual 33, 3) := by decide +kernel
theorem dG_setPair_29 : decode cG_setPair 29 = .ok (.goto 13, 3) := by decide +kernel
theorem dG_setPair_32 : decode cG_setPair 32 = .ok (.aload_n 0, 1) := by decide +kernel
theorem dG_setPair_33 : decode cG_setPair 33 = .ok (.iconst 2, 1) := by decide +kernel
theorem dG_setPair_34 : decode cG_setPair 34 = .ok (.iconst 2, 1) := by decide +kernel
theorem dG_setPair_35 : decode cG_setPair 35 = .ok (.iload_n 1, 1) := by decide +kernel
theorem dG_setPair_36 : decode cG_setPair 36 = .ok (.imul, 1) := by decide +kernel
theorem dG_setPair_37 : decode cG_setPair 37 = .ok (.iadd, 1) := by decide +kernel
theorem dG_setPair_38 : decode cG_setPair 38 = .ok (.iload_n 2, 1) := by decide +kernel
theorem dG_setPair_39 : decode cG_setPair 39 = .ok (.invokevirtual 25, 3) := by decide +kernel
theorem dG_setPair_42 : decode cG_setPair 42 = .ok (.return_, 1) := by decide +kernel
theorem dG_single_0 : decode cG_single 0 = .ok (.iload_n 1, 1) := by decide +kernel
theorem dG_single_1 : decode cG_single 1 = .ok (.bipush 7, 2) := by decide +kernel
theorem dG_single_3 : decode cG_single 3 = .ok (.if_icmp .ne 10, 3) := by decide +kernel
theorem dG_single_6 : decode cG_single 6 = .ok (.aload_n 0, 1) := by decide +kernel
theorem dG_single_7 : decode cG_single 7 = .ok (.getfield 9, 3) := by decide +kernel
theorem dG_single_10 : decode cG_single 10 = .ok (.iconst 0, 1) := by decide +kernel
theorem dG_single_11 : decode cG_single 11 = .ok (.iaload, 1) := by decide +kernel
theorem dG_single_12 : decode cG_single 12 = .ok (.ireturn, 1) := by decide +kernel
theorem dG_single_13 : decode cG_single 13 = .ok (.iload_n 1, 1) := by decide +kernel
theorem dG_single_14 : decode cG_single 14 = .ok (.iconst 4, 1) := by decide +kernel
theorem dG_single_15 : decode cG_single 15 = .ok (.if_icmp .lt 12, 3) := by decide +kernel
theorem dG_single_18 : decode cG_single 18 = .ok (.aload_n 0, 1) := by decide +kernel
theorem dG_single_19 : decode cG_single 19 = .ok (.getfield 13, 3) := by decide +kernel
theorem dG_single_22 : decode cG_single 22 = .ok (.bipush 6, 2) := by decide +kernel
theorem dG_single_24 : decode cG_single 24 = .ok (.if_icmp .ne 12, 3) := by decide +kernel
theorem dG_single_27 : decode cG_single 27 = .ok (.aload_n 0, 1) := by decide +kernel
theorem dG_single_28 : decode cG_single 28 = .ok (.getfield 9, 3) := by decide +kernel
theorem dG_single_31 : decode cG_single 31 = .ok (.iconst 2, 1) := by decide +kernel
theorem dG_single_32 : decode cG_single 32 = .ok (.iload_n 1, 1) := by decide +kernel
theorem dG_single_33 : decode cG_single 33 = .ok (.iadd, 1) := by decide +kernel
theorem dG_single_34 : decode cG_single 34 = .ok (.iaload, 1) := by decide +kernel
theorem dG_single_35 : decode cG_single 35 = .ok (.ireturn, 1) := by decide +kernel
theorem dG_single_36 : decode cG_single 36 = .ok (.iload_n 1, 1) := by decide +kernel
theorem dG_single_37 : decode cG_single 37 = .ok (.iconst 4, 1) := by decide +kernel
theorem dG_single_38 : decode cG_single 38 = .ok (.if_icmp .ne 18, 3) := by decide +kernel
theorem dG_single_41 : decode cG_single 41 = .ok (.aload_n 0, 1) := by decide +kernel
theorem dG_single_42 : decode cG_single 42 = .ok (.getfield 9, 3) := by decide +kernel
theorem dG_single_45 : decode cG_single 45 = .ok (.aload_n 0, 1) := by decide +kernel
theorem dG_single_46 : decode cG_single 46 = .ok (.getfield 13, 3) := by decide +kernel
theorem dG_single_49 : decode cG_single 49 = .ok (.iaload, 1) := by decide +kernel
theorem dG_single_50 : decode cG_single 50 = .ok (.bipush 8, 2) := by decide +kernel
theorem dG_single_52 : decode cG_single 52 = .ok (.ishr, 1) := by decide +kernel
theorem dG_single_53 : decode cG_single 53 = .ok (.goto 16, 3) := by decide +kernel
theorem dG_single_56 : decode cG_single 56 = .ok (.aload_n 0, 1) := by decide +kernel
theorem dG_single_57 : decode cG_single 57 = .ok (.getfield 9, 3) := by decide +kernel
theorem dG_single_60 : decode cG_single 60 = .ok (.aload_n 0, 1) := by decide +kernel
theorem dG_single_61 : decode cG_single 61 = .ok (.getfield 13, 3) := by decide +kernel
theorem dG_single_64 : decode cG_single 64 = .ok (.iaload, 1) := by decide +kernel
theorem dG_single_65 : decode cG_single 65 = .ok (.sipush 255, 3) := by decide +kernel
theorem dG_single_68 : decode cG_single 68 = .ok (.iand, 1) := by decide +kernel
theorem dG_single_69 : decode cG_single 69 = .ok (.ireturn, 1) := by decide +kernel
theorem dG_setSingle_0 : decode cG_setSingle 0 = .ok (.iload_n 1, 1) := by decide +kernel
theorem dG_setSingle_1 : decode cG_setSingle 1 = .ok (.bipush 7, 2) := by decide +kernel
theorem dG_setSingle_3 : decode cG_setSingle 3 = .ok (.if_icmp .ne 13, 3) := by decide +kernel
theorem dG_setSingle_6 : decode cG_setSingle 6 = .ok (.aload_n 0, 1) := by decide +kernel
theorem dG_setSingle_7 : decode cG_setSingle 7 = .ok (.getfield 9, 3) := by decide +kernel
theorem dG_setSingle_10 : decode cG_setSingle 10 = .ok (.iconst 0, 1) := by decide +kernel
theorem dG_setSingle_11 : decode cG_setSingle 11 = .ok (.iload_n 2, 1) := by decide +kernel
theorem dG_setSingle_12 : decode cG_setSingle 12 = .ok (.iastore, 1) := by decide +kernel
theorem dG_setSingle_13 : decode cG_setSingle 13 = .ok (.goto 87, 3) := by decide +kernel
theorem dG_setSingle_16 : decode cG_setSingle 16 = .ok (.iload_n 1, 1) := by decide +kernel
theorem dG_setSingle_17 : decode cG_setSingle 17 = .ok (.iconst 4, 1) := by decide +kernel
theorem dG_setSingle_18 : decode cG_setSingle 18 = .ok (.if_icmp .lt 12, 3) := by decide +kernel
theorem dG_setSingle_21 : decode cG_setSingle 21 = .ok (.aload_n 0, 1) := by decide +kernel
theorem dG_setSingle_22 : decode cG_setSingle 22 = .ok (.getfield 13, 3) := by decide +kernel
theorem dG_setSingle_25 : decode cG_setSingle 25 = .ok (.bipush 6, 2) := by decide +kernel
theorem dG_setSingle_27 : decode cG_setSingle 27 = .ok (.if_icmp .ne 15, 3) := by decide +kernel
theorem dG_setSingle_30 : decode cG_setSingle 30 = .ok (.aload_n 0, 1) := by decide +kernel
theorem dG_setSingle_31 : decode cG_setSingle 31 = .ok (.getfield 9, 3) := by decide +kernel
theorem dG_setSingle_34 : decode cG_setSingle 34 = .ok (.iconst 2, 1) := by decide +kernel
theorem dG_setSingle_35 : decode cG_setSingle 35 = .ok (.iload_n 1, 1) := by decide +kernel
theorem dG_setSingle_36 : decode cG_setSingle 36 = .ok (.iadd, 1) := by decide +kernel
theorem dG_setSingle_37 : decode cG_setSingle 37 = .ok (.iload_n 2, 1) := by decide +kernel
theorem dG_setSingle_38 : decode cG_setSingle 38 = .ok (.iastore, 1) := by decide +kernel
theorem dG_setSingle_39 : decode cG_setSingle 39 = .ok (.goto 61, 3) := by decide +kernel
theorem dG_setSingle_42 : decode cG_setSingle 42 = .ok (.iload_n 1, 1) := by decide +kernel
theorem dG_setSingle_43 : decode cG_setSingle 43 = .ok (.iconst 4, 1) := by decide +kernel
theorem dG_setSingle_44 : decode cG_setSingle 44 = .ok (.if_icmp .ne 33, 3) := by decide +kernel
theorem dG_setSingle_47 : decode cG_setSingle 47 = .ok (.aload_n 0, 1) := by decide +kernel
theorem dG_setSingle_48 : decode cG_setSingle 48 = .ok (.getfield 9, 3) := by decide +kernel
theorem dG_setSingle_51 : decode cG_setSingle 51 = .ok (.aload_n 0, 1) := by decide +kernel
theorem dG_setSingle_52 : decode cG_setSingle 52 = .ok (.getfield 13, 3) := by decide +kernel
theorem dG_setSingle_55 : decode cG_setSingle 55 = .ok (.aload_n 0, 1) := by decide +kernel
theorem dG_setSingle_56 : decode cG_setSingle 56 = .ok (.getfield 9, 3) := by decide +kernel
theorem dG_setSingle_59 : decode cG_setSingle 59 = .ok (.aload_n 0, 1) := by decide +kernel
theorem dG_setSingle_60 : decode cG_setSingle 60 = .ok (.getfield 13, 3) := by decide +kernel
theorem dG_setSingle_63 : decode cG_setSingle 63 = .ok (.iaload, 1) := by decide +kernel
theorem dG_setSingle_64 : decode cG_setSingle 64 = .ok (.sipush 255, 3) := by decide +kernel
theorem dG_setSingle_67 : decode cG_setSingle 67 = .ok (.iand, 1) := by decide +kernel
theorem dG_setSingle_68 : decode cG_setSingle 68 = .ok (.iload_n 2, 1) := by decide +kernel
theorem dG_setSingle_69 : decode cG_setSingle 69 = .ok (.bipush 8, 2) := by decide +kernel
theorem dG_setSingle_71 : decode cG_setSingle 71 = .ok (.ishl, 1) := by decide +kernel
theorem dG_setSingle_72 : decode cG_setSingle 72 = .ok (.ior, 1) := by decide +kernel
theorem dG_setSingle_73 : decode cG_setSingle 73 = .ok (.iastore, 1) := by decide +kernel
theorem dG_setSingle_74 : decode cG_setSingle 74 = .ok (.goto 26, 3) := by decide +kernel
theorem dG_setSingle_77 : decode cG_setSingle 77 = .ok (.aload_n 0, 1) := by decide +kernel
theorem dG_setSingle_78 : decode cG_setSingle 78 = .ok (.getfield 9, 3) := by decide +kernel
theorem dG_setSingle_81 : decode cG_setSingle 81 = .ok (.aload_n 0, 1) := by decide +kernel
theorem dG_setSingle_82 : decode cG_setSingle 82 = .ok (.getfield 13, 3) := by decide +kernel
theorem dG_setSingle_85 : decode cG_setSingle 85 = .ok (.aload_n 0, 1) := by decide +kernel
theorem dG_setSingle_86 : decode cG_setSingle 86 = .ok (.getfield 9, 3) := by decide +kernel
theorem dG_setSingle_89 : decode cG_setSingle 89 = .ok (.aload_n 0, 1) := by decide +kernel
theorem dG_setSingle_90 : decode cG_setSingle 90 = .ok (.getfield 13, 3) := by decide +kernel
theorem dG_setSingle_93 : decode cG_setSingle 93 = .ok (.iaload, 1) := by decide +kernel
theorem dG_setSingle_94 : decode cG_setSingle 94 = .ok (.ldc 37, 2) := by decide +kernel
theorem dG_setSingle_96 : decode cG_setSingle 96 = .ok (.iand, 1) := by decide +kernel
theorem dG_setSingle_97 : decode cG_setSingle 97 = .ok (.iload_n 2, 1) := by decide +kernel
theorem dG_setSingle_98 : decode cG_setSingle 98 = .ok (.ior, 1) := by decide +kernel
theorem dG_setSingle_99 : decode cG_setSingle 99 = .ok (.iastore, 1) := by decide +kernel
theorem dG_setSingle_100 : decode cG_setSingle 100 = .ok (.return_, 1) := by decide +kernel
theorem dG_swap_0 : decode cG_swap 0 = .ok (.aload_n 0, 1) := by decide +kernel
theorem dG_swap_1 : decode cG_swap 1 = .ok (.getfield 9, 3) := by decide +kernel
theorem dG_swap_4 : decode cG_swap 4 = .ok (.iload_n 1, 1) := by decide +kernel
theorem dG_swap_5 : decode cG_swap 5 = .ok (.iaload, 1) := by decide +kernel
theorem dG_swap_6 : decode cG_swap 6 = .ok (.istore_n 3, 1) := by decide +kernel
theorem dG_swap_7 : decode cG_swap 7 = .ok (.aload_n 0, 1) := by decide +kernel
theorem dG_swap_8 : decode cG_swap 8 = .ok (.getfield 9, 3) := by decide +kernel
theorem dG_swap_11 : decode cG_swap 11 = .ok (.iload_n 1, 1) := by decide +kernel
theorem dG_swap_12 : decode cG_swap 12 = .ok (.aload_n 0, 1) := by decide +kernel
theorem dG_swap_13 : decode cG_swap 13 = .ok (.getfield 9, 3) := by decide +kernel
theorem dG_swap_16 : decode cG_swap 16 = .ok (.iload_n 2, 1) := by decide +kernel
theorem dG_swap_17 : decode cG_swap 17 = .ok (.iaload, 1) := by decide +kernel
theorem dG_swap_18 : decode cG_swap 18 = .ok (.iastore, 1) := by decide +kernel
theorem dG_swap_19 : decode cG_swap 19 = .ok (.aload_n 0, 1) := by decide +kernel
theorem dG_swap_20 : decode cG_swap 20 = .ok (.getfield 9, 3) := by decide +kernel
theorem dG_swap_23 : decode cG_swap 23 = .ok (.iload_n 2, 1) := by decide +kernel
theorem dG_swap_24 : decode cG_swap 24 = .ok (.iload_n 3, 1) := by decide +kernel
theorem dG_swap_25 : decode cG_swap 25 = .ok (.iastore, 1) := by decide +kernel
theorem dG_swap_26 : decode cG_swap 26 = .ok (.return_, 1) := by decide +kernel
theorem dG_swapWithSecond_0 : decode cG_swapWithSecond 0 = .ok (.iload_n 1, 1) := by decide +kernel
theorem dG_swapWithSecond_1 : decode cG_swapWithSecond 1 = .ok (.istore_n 3, 1) := by decide +kernel
theorem dG_swapWithSecond_2 : decode cG_swapWithSecond 2 = .ok (.iload_n 3, 1) := by decide +kernel
theorem dG_swapWithSecond_3 : decode cG_swapWithSecond 3 = .ok (.iload_n 2, 1) := by decide +kernel
theorem dG_swapWithSecond_4 : decode cG_swapWithSecond 4 = .ok (.if_icmp .gt 24, 3) := by decide +kernel
theorem dG_swapWithSecond_7 : decode cG_swapWithSecond 7 = .ok (.iload_n 3, 1) := by decide +kernel
theorem dG_swapWithSecond_8 : decode cG_swapWithSecond 8 = .ok (.bipush 8, 2) := by decide +kernel
theorem dG_swapWithSecond_10 : decode cG_swapWithSecond 10 = .ok (.if_icmp .ge 18, 3) := by decide +kernel
theorem dG_swapWithSecond_13 : decode cG_swapWithSecond 13 = .ok (.aload_n 0, 1) := by decide +kernel
theorem dG_swapWithSecond_14 : decode cG_swapWithSecond 14 = .ok (.iload_n 3, 1) := by decide +kernel
theorem dG_swapWithSecond_15 : decode cG_swapWithSecond 15 = .ok (.iload_n 3, 1) := by decide +kernel
theorem dG_swapWithSecond_16 : decode cG_swapWithSecond 16 = .ok (.bipush 8, 2) := by decide +kernel
theorem dG_swapWithSecond_18 : decode cG_swapWithSecond 18 = .ok (.iadd, 1) := by decide +kernel
theorem dG_swapWithSecond_19 : decode cG_swapWithSecond 19 = .ok (.invokevirtual 38, 3) := by decide +kernel
theorem dG_swapWithSecond_22 : decode cG_swapWithSecond 22 = .ok (.iinc 3 1, 3) := by decide +kernel
theorem dG_swapWithSecond_25 : decode cG_swapWithSecond 25 = .ok (.goto (-23), 3) := by decide +kernel
theorem dG_swapWithSecond_28 : decode cG_swapWithSecond 28 = .ok (.return_, 1) := by decide +kernel
theorem dI_bitCount_0 : decode cI_bitCount 0 = .ok (.iload_n 0, 1) := by decide +kernel
theorem dI_bitCount_1 : decode cI_bitCount 1 = .ok (.iload_n 0, 1) := by decide +kernel
theorem dI_bitCount_2 : decode cI_bitCount 2 = .ok (.iconst 1, 1) := by decide +kernel
theorem dI_bitCount_3 : decode cI_bitCount 3 = .ok (.iushr, 1) := by decide +kernel
theorem dI_bitCount_4 : decode cI_bitCount 4 = .ok (.ldc_w 265, 3) := by decide +kernel
theorem dI_bitCount_7 : decode cI_bitCount 7 = .ok (.iand, 1) := by decide +kernel
theorem dI_bitCount_8 : decode cI_bitCount 8 = .ok (.isub, 1) := by decide +kernel
theorem dI_bitCount_9 : decode cI_bitCount 9 = .ok (.istore_n 0, 1) := by decide +kernel
theorem dI_bitCount_10 : decode cI_bitCount 10 = .ok (.iload_n 0, 1) := by decide +kernel
theorem dI_bitCount_11 : decode cI_bitCount 11 = .ok (.ldc_w 266, 3) := by decide +kernel
theorem dI_bitCount_14 : decode cI_bitCount 14 = .ok (.iand, 1) := by decide +kernel
theorem dI_bitCount_15 : decode cI_bitCount 15 = .ok (.iload_n 0, 1) := by decide +kernel
theorem dI_bitCount_16 : decode cI_bitCount 16 = .ok (.iconst 2, 1) := by decide +kernel
theorem dI_bitCount_17 : decode cI_bitCount 17 = .ok (.iushr, 1) := by decide +kernel
theorem dI_bitCount_18 : decode cI_bitCount 18 = .ok (.ldc_w 266, 3) := by decide +kernel
theorem dI_bitCount_21 : decode cI_bitCount 21 = .ok (.iand, 1) := by decide +kernel
theorem dI_bitCount_22 : decode cI_bitCount 22 = .ok (.iadd, 1) := by decide +kernel
theorem dI_bitCount_23 : decode cI_bitCount 23 = .ok (.istore_n 0, 1) := by decide +kernel
theorem dI_bitCount_24 : decode cI_bitCount 24 = .ok (.iload_n 0, 1) := by decide +kernel
theorem dI_bitCount_25 : decode cI_bitCount 25 = .ok (.iload_n 0, 1) := by decide +kernel
theorem dI_bitCount_26 : decode cI_bitCount 26 = .ok (.iconst 4, 1) := by decide +kernel
theorem dI_bitCount_27 : decode cI_bitCount 27 = .ok (.iushr, 1) := by decide +kernel
theorem dI_bitCount_28 : decode cI_bitCount 28 = .ok (.iadd, 1) := by decide +kernel
theorem dI_bitCount_29 : decode cI_bitCount 29 = .ok (.ldc_w 267, 3) := by decide +kernel
theorem dI_bitCount_32 : decode cI_bitCount 32 = .ok (.iand, 1) := by decide +kernel
theorem dI_bitCount_33 : decode cI_bitCount 33 = .ok (.istore_n 0, 1) := by decide +kernel
theorem dI_bitCount_34 : decode cI_bitCount 34 = .ok (.iload_n 0, 1) := by decide +kernel
theorem dI_bitCount_35 : decode cI_bitCount 35 = .ok (.iload_n 0, 1) := by decide +kernel
theorem dI_bitCount_36 : decode cI_bitCount 36 = .ok (.bipush 8, 2) := by decide +kernel
theorem dI_bitCount_38 : decode cI_bitCount 38 = .ok (.iushr, 1) := by decide +kernel
theorem dI_bitCount_39 : decode cI_bitCount 39 = .ok (.iadd, 1) := by decide +kernel
theorem dI_bitCount_40 : decode cI_bitCount 40 = .ok (.istore_n 0, 1) := by decide +kernel
theorem dI_bitCount_41 : decode cI_bitCount 41 = .ok (.iload_n 0, 1) := by decide +kernel
theorem dI_bitCount_42 : decode cI_bitCount 42 = .ok (.iload_n 0, 1) := by decide +kernel
theorem dI_bitCount_43 : decode cI_bitCount 43 = .ok (.bipush 16, 2) := by decide +kernel
theorem dI_bitCount_45 : decode cI_bitCount 45 = .ok (.iushr, 1) := by decide +kernel
theorem dI_bitCount_46 : decode cI_bitCount 46 = .ok (.iadd, 1) := by decide +kernel
theorem dI_bitCount_47 : decode cI_bitCount 47 = .ok (.istore_n 0, 1) := by decide +kernel
theorem dI_bitCount_48 : decode cI_bitCount 48 = .ok (.iload_n 0, 1) := by decide +kernel
theorem dI_bitCount_49 : decode cI_bitCount 49 = .ok (.bipush 63, 2) := by decide +kernel
theorem dI_bitCount_51 : decode cI_bitCount 51 = .ok (.iand, 1) := by decide +kernel
theorem dI_bitCount_52 : decode cI_bitCount 52 = .ok (.ireturn, 1) := by decide +kernel
theorem dL_law_0 : decode code 0 = .ok (.new 7, 3) := by decide +kernel
theorem dL_law_3 : decode code 3 = .ok (.dup, 1) := by decide +kernel
theorem dL_law_4 : decode code 4 = .ok (.invokespecial 9, 3) := by decide +kernel
theorem dL_law_7 : decode code 7 = .ok (.astore_n 1, 1) := by decide +kernel
theorem dL_law_8 : decode code 8 = .ok (.new 10, 3) := by decide +kernel
theorem dL_law_11 : decode code 11 = .ok (.dup, 1) := by decide +kernel
theorem dL_law_12 : decode code 12 = .ok (.invokespecial 12, 3) := by decide +kernel
theorem dL_law_15 : decode code 15 = .ok (.astore_n 2, 1) := by decide +kernel
theorem dL_law_16 : decode code 16 = .ok (.iconst 0, 1) := by decide +kernel
theorem dL_law_17 : decode code 17 = .ok (.istore_n 3, 1) := by decide +kernel
theorem dL_law_18 : decode code 18 = .ok (.iload_n 3, 1) := by decide +kernel
theorem dL_law_19 : decode code 19 = .ok (.aload_n 0, 1) := by decide +kernel
theorem dL_law_20 : decode code 20 = .ok (.arraylength, 1) := by decide +kernel
theorem dL_law_21 : decode code 21 = .ok (.iconst 4, 1) := by decide +kernel
theorem dL_law_22 : decode code 22 = .ok (.isub, 1) := by decide +kernel
theorem dL_law_23 : decode code 23 = .ok (.if_icmp .gt 419, 3) := by decide +kernel
theorem dL_law_26 : decode code 26 = .ok (.aload_n 0, 1) := by decide +kernel
theorem dL_law_27 : decode code 27 = .ok (.iload_n 3, 1) := by decide +kernel
theorem dL_law_28 : decode code 28 = .ok (.iaload, 1) := by decide +kernel
theorem dL_law_29 : decode code 29 = .ok (.bipush 15, 2) := by decide +kernel
theorem dL_law_31 : decode code 31 = .ok (.iand, 1) := by decide +kernel
theorem dL_law_32 : decode code 32 = .ok (.tableswitch 404 0 11 #[64, 95, 138, 161, 194, 217, 276, 299, 322, 345, 358, 381], 64) := by decide +kernel
theorem dL_law_96 : decode code 96 = .ok (.aload_n 1, 1) := by decide +kernel
theorem dL_law_97 : decode code 97 = .ok (.aload_n 0, 1) := by decide +kernel
theorem dL_law_98 : decode code 98 = .ok (.iload_n 3, 1) := by decide +kernel
theorem dL_law_99 : decode code 99 = .ok (.iconst 1, 1) := by decide +kernel
theorem dL_law_100 : decode code 100 = .ok (.iadd, 1) := by decide +kernel
theorem dL_law_101 : decode code 101 = .ok (.iaload, 1) := by decide +kernel
theorem dL_law_102 : decode code 102 = .ok (.aload_n 0, 1) := by decide +kernel
theorem dL_law_103 : decode code 103 = .ok (.iload_n 3, 1) := by decide +kernel
theorem dL_law_104 : decode code 104 = .ok (.iconst 2, 1) := by decide +kernel
theorem dL_law_105 : decode code 105 = .ok (.iadd, 1) := by decide +kernel
theorem dL_law_106 : decode code 106 = .ok (.iaload, 1) := by decide +kernel
theorem dL_law_107 : decode code 107 = .ok (.invokevirtual 13, 3) := by decide +kernel
theorem dL_law_110 : decode code 110 = .ok (.aload_n 2, 1) := by decide +kernel
theorem dL_law_111 : decode code 111 = .ok (.aload_n 0, 1) := by decide +kernel
theorem dL_law_112 : decode code 112 = .ok (.iload_n 3, 1) := by decide +kernel
theorem dL_law_113 : decode code 113 = .ok (.iconst 1, 1) := by decide +kernel
theorem dL_law_114 : decode code 114 = .ok (.iadd, 1) := by decide +kernel
theorem dL_law_115 : decode code 115 = .ok (.iaload, 1) := by decide +kernel
theorem dL_law_116 : decode code 116 = .ok (.aload_n 0, 1) := by decide +kernel
theorem dL_law_117 : decode code 117 = .ok (.iload_n 3, 1) := by decide +kernel
theorem dL_law_118 : decode code 118 = .ok (.iconst 2, 1) := by decide +kernel
theorem dL_law_119 : decode code 119 = .ok (.iadd, 1) := by decide +kernel
theorem dL_law_120 : decode code 120 = .ok (.iaload, 1) := by decide +kernel
theorem dL_law_121 : decode code 121 = .ok (.invokevirtual 17, 3) := by decide +kernel
theorem dL_law_124 : decode code 124 = .ok (.goto 312, 3) := by decide +kernel
theorem dL_law_127 : decode code 127 = .ok (.aload_n 1, 1) := by decide +kernel
theorem dL_law_128 : decode code 128 = .ok (.aload_n 0, 1) := by decide +kernel
theorem dL_law_129 : decode code 129 = .ok (.iload_n 3, 1) := by decide +kernel
theorem dL_law_130 : decode code 130 = .ok (.iconst 1, 1) := by decide +kernel
theorem dL_law_131 : decode code 131 = .ok (.iadd, 1) := by decide +kernel
theorem dL_law_132 : decode code 132 = .ok (.iaload, 1) := by decide +kernel
theorem dL_law_133 : decode code 133 = .ok (.aload_n 0, 1) := by decide +kernel
theorem dL_law_134 : decode code 134 = .ok (.iload_n 3, 1) := by decide +kernel
theorem dL_law_135 : decode code 135 = .ok (.iconst 2, 1) := by decide +kernel
theorem dL_law_136 : decode code 136 = .ok (.iadd, 1) := by decide +kernel
theorem dL_law_137 : decode code 137 = .ok (.iaload, 1) := by decide +kernel
theorem dL_law_138 : decode code 138 = .ok (.aload_n 0, 1) := by decide +kernel
theorem dL_law_139 : decode code 139 = .ok (.iload_n 3, 1) := by decide +kernel
theorem dL_law_140 : decode code 140 = .ok (.iconst 3, 1) := by decide +kernel
theorem dL_law_141 : decode code 141 = .ok (.iadd, 1) := by decide +kernel
theorem dL_law_142 : decode code 142 = .ok (.iaload, 1) := by decide +kernel
theorem dL_law_143 : decode code 143 = .ok (.invokevirtual 18, 3) := by decide +kernel
theorem dL_law_146 : decode code 146 = .ok (.aload_n 2, 1) := by decide +kernel
theorem dL_law_147 : decode code 147 = .ok (.aload_n 0, 1) := by decide +kernel
theorem dL_law_148 : decode code 148 = .ok (.iload_n 3, 1) := by decide +kernel
theorem dL_law_149 : decode code 149 = .ok (.iconst 1, 1) := by decide +kernel
theorem dL_law_150 : decode code 150 = .ok (.iadd, 1) := by decide +kernel
theorem dL_law_151 : decode code 151 = .ok (.iaload, 1) := by decide +kernel
theorem dL_law_152 : decode code 152 = .ok (.aload_n 0, 1) := by decide +kernel
theorem dL_law_153 : decode code 153 = .ok (.iload_n 3, 1) := by decide +kernel
theorem dL_law_154 : decode code 154 = .ok (.iconst 2, 1) := by decide +kernel
theorem dL_law_155 : decode code 155 = .ok (.iadd, 1) := by decide +kernel
theorem dL_law_156 : decode code 156 = .ok (.iaload, 1) := by decide +kernel
theorem dL_law_157 : decode code 157 = .ok (.aload_n 0, 1) := by decide +kernel
theorem dL_law_158 : decode code 158 = .ok (.iload_n 3, 1) := by decide +kernel
theorem dL_law_159 : decode code 159 = .ok (.iconst 3, 1) := by decide +kernel
theorem dL_law_160 : decode code 160 = .ok (.iadd, 1) := by decide +kernel
theorem dL_law_161 : decode code 161 = .ok (.iaload, 1) := by decide +kernel
theorem dL_law_162 : decode code 162 = .ok (.invokevirtual 22, 3) := by decide +kernel
theorem dL_law_165 : decode code 165 = .ok (.if_icmp .eq 271, 3) := by decide +kernel
theorem dL_law_168 : decode code 168 = .ok (.iconst 0, 1) := by decide +kernel
theorem dL_law_169 : decode code 169 = .ok (.ireturn, 1) := by decide +kernel
theorem dL_law_170 : decode code 170 = .ok (.aload_n 1, 1) := by decide +kernel
theorem dL_law_171 : decode code 171 = .ok (.aload_n 0, 1) := by decide +kernel
theorem dL_law_172 : decode code 172 = .ok (.iload_n 3, 1) := by decide +kernel
theorem dL_law_173 : decode code 173 = .ok (.iconst 1, 1) := by decide +kernel
theorem dL_law_174 : decode code 174 = .ok (.iadd, 1) := by decide +kernel
theorem dL_law_175 : decode code 175 = .ok (.iaload, 1) := by decide +kernel
theorem dL_law_176 : decode code 176 = .ok (.invokevirtual 23, 3) := by decide +kernel
theorem dL_law_179 : decode code 179 = .ok (.aload_n 2, 1) := by decide +kernel
theorem dL_law_180 : decode code 180 = .ok (.aload_n 0, 1) := by decide +kernel
theorem dL_law_181 : decode code 181 = .ok (.iload_n 3, 1) := by decide +kernel
theorem dL_law_182 : decode code 182 = .ok (.iconst 1, 1) := by decide +kernel
theorem dL_law_183 : decode code 183 = .ok (.iadd, 1) := by decide +kernel
theorem dL_law_184 : decode code 184 = .ok (.iaload, 1) := by decide +kernel
theorem dL_law_185 : decode code 185 = .ok (.invokevirtual 27, 3) := by decide +kernel
theorem dL_law_188 : decode code 188 = .ok (.if_icmp .eq 248, 3) := by decide +kernel
theorem dL_law_191 : decode code 191 = .ok (.iconst 0, 1) := by decide +kernel
theorem dL_law_192 : decode code 192 = .ok (.ireturn, 1) := by decide +kernel
theorem dL_law_193 : decode code 193 = .ok (.aload_n 1, 1) := by decide +kernel
theorem dL_law_194 : decode code 194 = .ok (.aload_n 0, 1) := by decide +kernel
theorem dL_law_195 : decode code 195 = .ok (.iload_n 3, 1) := by decide +kernel
theorem dL_law_196 : decode code 196 = .ok (.iconst 1, 1) := by decide +kernel
theorem dL_law_197 : decode code 197 = .ok (.iadd, 1) := by decide +kernel
theorem dL_law_198 : decode code 198 = .ok (.iaload, 1) := by decide +kernel
theorem dL_law_199 : decode code 199 = .ok (.aload_n 0, 1) := by decide +kernel
theorem dL_law_200 : decode code 200 = .ok (.iload_n 3, 1) := by decide +kernel
theorem dL_law_201 : decode code 201 = .ok (.iconst 2, 1) := by decide +kernel
theorem dL_law_202 : decode code 202 = .ok (.iadd, 1) := by decide +kernel
theorem dL_law_203 : decode code 203 = .ok (.iaload, 1) := by decide +kernel
theorem dL_law_204 : decode code 204 = .ok (.invokevirtual 28, 3) := by decide +kernel
theorem dL_law_207 : decode code 207 = .ok (.aload_n 2, 1) := by decide +kernel
theorem dL_law_208 : decode code 208 = .ok (.aload_n 0, 1) := by decide +kernel
theorem dL_law_209 : decode code 209 = .ok (.iload_n 3, 1) := by decide +kernel
theorem dL_law_210 : decode code 210 = .ok (.iconst 1, 1) := by decide +kernel
theorem dL_law_211 : decode code 211 = .ok (.iadd, 1) := by decide +kernel
theorem dL_law_212 : decode code 212 = .ok (.iaload, 1) := by decide +kernel
theorem dL_law_213 : decode code 213 = .ok (.aload_n 0, 1) := by decide +kernel
theorem dL_law_214 : decode code 214 = .ok (.iload_n 3, 1) := by decide +kernel
theorem dL_law_215 : decode code 215 = .ok (.iconst 2, 1) := by decide +kernel
theorem dL_law_216 : decode code 216 = .ok (.iadd, 1) := by decide +kernel
theorem dL_law_217 : decode code 217 = .ok (.iaload, 1) := by decide +kernel
theorem dL_law_218 : decode code 218 = .ok (.invokevirtual 32, 3) := by decide +kernel
theorem dL_law_221 : decode code 221 = .ok (.if_icmp .eq 215, 3) := by decide +kernel
theorem dL_law_224 : decode code 224 = .ok (.iconst 0, 1) := by decide +kernel
theorem dL_law_225 : decode code 225 = .ok (.ireturn, 1) := by decide +kernel
theorem dL_law_226 : decode code 226 = .ok (.aload_n 1, 1) := by decide +kernel
theorem dL_law_227 : decode code 227 = .ok (.aload_n 0, 1) := by decide +kernel
theorem dL_law_228 : decode code 228 = .ok (.iload_n 3, 1) := by decide +kernel
theorem dL_law_229 : decode code 229 = .ok (.iconst 1, 1) := by decide +kernel
theorem dL_law_230 : decode code 230 = .ok (.iadd, 1) := by decide +kernel
theorem dL_law_231 : decode code 231 = .ok (.iaload, 1) := by decide +kernel
theorem dL_law_232 : decode code 232 = .ok (.invokevirtual 33, 3) := by decide +kernel
theorem dL_law_235 : decode code 235 = .ok (.aload_n 2, 1) := by decide +kernel
theorem dL_law_236 : decode code 236 = .ok (.aload_n 0, 1) := by decide +kernel
theorem dL_law_237 : decode code 237 = .ok (.iload_n 3, 1) := by decide +kernel
theorem dL_law_238 : decode code 238 = .ok (.iconst 1, 1) := by decide +kernel
theorem dL_law_239 : decode code 239 = .ok (.iadd, 1) := by decide +kernel
theorem dL_law_240 : decode code 240 = .ok (.iaload, 1) := by decide +kernel
theorem dL_law_241 : decode code 241 = .ok (.invokevirtual 36, 3) := by decide +kernel
theorem dL_law_244 : decode code 244 = .ok (.if_icmp .eq 192, 3) := by decide +kernel
theorem dL_law_247 : decode code 247 = .ok (.iconst 0, 1) := by decide +kernel
theorem dL_law_248 : decode code 248 = .ok (.ireturn, 1) := by decide +kernel
theorem dL_law_249 : decode code 249 = .ok (.aload_n 1, 1) := by decide +kernel
theorem dL_law_250 : decode code 250 = .ok (.aload_n 0, 1) := by decide +kernel
theorem dL_law_251 : decode code 251 = .ok (.iload_n 3, 1) := by decide +kernel
theorem dL_law_252 : decode code 252 = .ok (.iconst 1, 1) := by decide +kernel
theorem dL_law_253 : decode code 253 = .ok (.iadd, 1) := by decide +kernel
theorem dL_law_254 : decode code 254 = .ok (.iaload, 1) := by decide +kernel
theorem dL_law_255 : decode code 255 = .ok (.aload_n 0, 1) := by decide +kernel
theorem dL_law_256 : decode code 256 = .ok (.iload_n 3, 1) := by decide +kernel
theorem dL_law_257 : decode code 257 = .ok (.iconst 2, 1) := by decide +kernel
theorem dL_law_258 : decode code 258 = .ok (.iadd, 1) := by decide +kernel
theorem dL_law_259 : decode code 259 = .ok (.iaload, 1) := by decide +kernel
theorem dL_law_260 : decode code 260 = .ok (.aload_n 0, 1) := by decide +kernel
theorem dL_law_261 : decode code 261 = .ok (.iload_n 3, 1) := by decide +kernel
theorem dL_law_262 : decode code 262 = .ok (.iconst 3, 1) := by decide +kernel
theorem dL_law_263 : decode code 263 = .ok (.iadd, 1) := by decide +kernel
theorem dL_law_264 : decode code 264 = .ok (.iaload, 1) := by decide +kernel
theorem dL_law_265 : decode code 265 = .ok (.ifCond .eq 7, 3) := by decide +kernel
theorem dL_law_268 : decode code 268 = .ok (.iconst 1, 1) := by decide +kernel
theorem dL_law_269 : decode code 269 = .ok (.goto 4, 3) := by decide +kernel
theorem dL_law_272 : decode code 272 = .ok (.iconst 0, 1) := by decide +kernel
theorem dL_law_273 : decode code 273 = .ok (.invokevirtual 37, 3) := by decide +kernel
theorem dL_law_276 : decode code 276 = .ok (.aload_n 2, 1) := by decide +kernel
theorem dL_law_277 : decode code 277 = .ok (.aload_n 0, 1) := by decide +kernel
theorem dL_law_278 : decode code 278 = .ok (.iload_n 3, 1) := by decide +kernel
theorem dL_law_279 : decode code 279 = .ok (.iconst 1, 1) := by decide +kernel
theorem dL_law_280 : decode code 280 = .ok (.iadd, 1) := by decide +kernel
theorem dL_law_281 : decode code 281 = .ok (.iaload, 1) := by decide +kernel
theorem dL_law_282 : decode code 282 = .ok (.aload_n 0, 1) := by decide +kernel
theorem dL_law_283 : decode code 283 = .ok (.iload_n 3, 1) := by decide +kernel
theorem dL_law_284 : decode code 284 = .ok (.iconst 2, 1) := by decide +kernel
theorem dL_law_285 : decode code 285 = .ok (.iadd, 1) := by decide +kernel
theorem dL_law_286 : decode code 286 = .ok (.iaload, 1) := by decide +kernel
theorem dL_law_287 : decode code 287 = .ok (.aload_n 0, 1) := by decide +kernel
theorem dL_law_288 : decode code 288 = .ok (.iload_n 3, 1) := by decide +kernel
theorem dL_law_289 : decode code 289 = .ok (.iconst 3, 1) := by decide +kernel
theorem dL_law_290 : decode code 290 = .ok (.iadd, 1) := by decide +kernel
theorem dL_law_291 : decode code 291 = .ok (.iaload, 1) := by decide +kernel
theorem dL_law_292 : decode code 292 = .ok (.ifCond .eq 7, 3) := by decide +kernel
theorem dL_law_295 : decode code 295 = .ok (.iconst 1, 1) := by decide +kernel
theorem dL_law_296 : decode code 296 = .ok (.goto 4, 3) := by decide +kernel
theorem dL_law_299 : decode code 299 = .ok (.iconst 0, 1) := by decide +kernel
theorem dL_law_300 : decode code 300 = .ok (.invokevirtual 41, 3) := by decide +kernel
theorem dL_law_303 : decode code 303 = .ok (.if_icmp .eq 133, 3) := by decide +kernel
theorem dL_law_306 : decode code 306 = .ok (.iconst 0, 1) := by decide +kernel
theorem dL_law_307 : decode code 307 = .ok (.ireturn, 1) := by decide +kernel
theorem dL_law_308 : decode code 308 = .ok (.aload_n 1, 1) := by decide +kernel
theorem dL_law_309 : decode code 309 = .ok (.aload_n 0, 1) := by decide +kernel
theorem dL_law_310 : decode code 310 = .ok (.iload_n 3, 1) := by decide +kernel
theorem dL_law_311 : decode code 311 = .ok (.iconst 1, 1) := by decide +kernel
theorem dL_law_312 : decode code 312 = .ok (.iadd, 1) := by decide +kernel
theorem dL_law_313 : decode code 313 = .ok (.iaload, 1) := by decide +kernel
theorem dL_law_314 : decode code 314 = .ok (.invokevirtual 42, 3) := by decide +kernel
theorem dL_law_317 : decode code 317 = .ok (.aload_n 2, 1) := by decide +kernel
theorem dL_law_318 : decode code 318 = .ok (.aload_n 0, 1) := by decide +kernel
theorem dL_law_319 : decode code 319 = .ok (.iload_n 3, 1) := by decide +kernel
theorem dL_law_320 : decode code 320 = .ok (.iconst 1, 1) := by decide +kernel
theorem dL_law_321 : decode code 321 = .ok (.iadd, 1) := by decide +kernel
theorem dL_law_322 : decode code 322 = .ok (.iaload, 1) := by decide +kernel
theorem dL_law_323 : decode code 323 = .ok (.invokevirtual 46, 3) := by decide +kernel
theorem dL_law_326 : decode code 326 = .ok (.if_icmp .eq 110, 3) := by decide +kernel
theorem dL_law_329 : decode code 329 = .ok (.iconst 0, 1) := by decide +kernel
theorem dL_law_330 : decode code 330 = .ok (.ireturn, 1) := by decide +kernel
theorem dL_law_331 : decode code 331 = .ok (.aload_n 1, 1) := by decide +kernel
theorem dL_law_332 : decode code 332 = .ok (.aload_n 0, 1) := by decide +kernel
theorem dL_law_333 : decode code 333 = .ok (.iload_n 3, 1) := by decide +kernel
theorem dL_law_334 : decode code 334 = .ok (.iconst 1, 1) := by decide +kernel
theorem dL_law_335 : decode code 335 = .ok (.iadd, 1) := by decide +kernel
theorem dL_law_336 : decode code 336 = .ok (.iaload, 1) := by decide +kernel
theorem dL_law_337 : decode code 337 = .ok (.invokevirtual 47, 3) := by decide +kernel
theorem dL_law_340 : decode code 340 = .ok (.aload_n 2, 1) := by decide +kernel
theorem dL_law_341 : decode code 341 = .ok (.aload_n 0, 1) := by decide +kernel
theorem dL_law_342 : decode code 342 = .ok (.iload_n 3, 1) := by decide +kernel
theorem dL_law_343 : decode code 343 = .ok (.iconst 1, 1) := by decide +kernel
theorem dL_law_344 : decode code 344 = .ok (.iadd, 1) := by decide +kernel
theorem dL_law_345 : decode code 345 = .ok (.iaload, 1) := by decide +kernel
theorem dL_law_346 : decode code 346 = .ok (.invokevirtual 50, 3) := by decide +kernel
theorem dL_law_349 : decode code 349 = .ok (.if_icmp .eq 87, 3) := by decide +kernel
theorem dL_law_352 : decode code 352 = .ok (.iconst 0, 1) := by decide +kernel
theorem dL_law_353 : decode code 353 = .ok (.ireturn, 1) := by decide +kernel
theorem dL_law_354 : decode code 354 = .ok (.aload_n 1, 1) := by decide +kernel
theorem dL_law_355 : decode code 355 = .ok (.aload_n 0, 1) := by decide +kernel
theorem dL_law_356 : decode code 356 = .ok (.iload_n 3, 1) := by decide +kernel
theorem dL_law_357 : decode code 357 = .ok (.iconst 1, 1) := by decide +kernel
theorem dL_law_358 : decode code 358 = .ok (.iadd, 1) := by decide +kernel
theorem dL_law_359 : decode code 359 = .ok (.iaload, 1) := by decide +kernel
theorem dL_law_360 : decode code 360 = .ok (.invokevirtual 51, 3) := by decide +kernel
theorem dL_law_363 : decode code 363 = .ok (.aload_n 2, 1) := by decide +kernel
theorem dL_law_364 : decode code 364 = .ok (.aload_n 0, 1) := by decide +kernel
theorem dL_law_365 : decode code 365 = .ok (.iload_n 3, 1) := by decide +kernel
theorem dL_law_366 : decode code 366 = .ok (.iconst 1, 1) := by decide +kernel
theorem dL_law_367 : decode code 367 = .ok (.iadd, 1) := by decide +kernel
theorem dL_law_368 : decode code 368 = .ok (.iaload, 1) := by decide +kernel
theorem dL_law_369 : decode code 369 = .ok (.invokevirtual 54, 3) := by decide +kernel
theorem dL_law_372 : decode code 372 = .ok (.if_icmp .eq 64, 3) := by decide +kernel
theorem dL_law_375 : decode code 375 = .ok (.iconst 0, 1) := by decide +kernel
theorem dL_law_376 : decode code 376 = .ok (.ireturn, 1) := by decide +kernel
theorem dL_law_377 : decode code 377 = .ok (.aload_n 1, 1) := by decide +kernel
theorem dL_law_378 : decode code 378 = .ok (.invokevirtual 55, 3) := by decide +kernel
theorem dL_law_381 : decode code 381 = .ok (.aload_n 2, 1) := by decide +kernel
theorem dL_law_382 : decode code 382 = .ok (.invokevirtual 59, 3) := by decide +kernel
theorem dL_law_385 : decode code 385 = .ok (.if_icmp .eq 51, 3) := by decide +kernel
theorem dL_law_388 : decode code 388 = .ok (.iconst 0, 1) := by decide +kernel
theorem dL_law_389 : decode code 389 = .ok (.ireturn, 1) := by decide +kernel
theorem dL_law_390 : decode code 390 = .ok (.aload_n 1, 1) := by decide +kernel
theorem dL_law_391 : decode code 391 = .ok (.aload_n 0, 1) := by decide +kernel
theorem dL_law_392 : decode code 392 = .ok (.iload_n 3, 1) := by decide +kernel
theorem dL_law_393 : decode code 393 = .ok (.iconst 1, 1) := by decide +kernel
theorem dL_law_394 : decode code 394 = .ok (.iadd, 1) := by decide +kernel
theorem dL_law_395 : decode code 395 = .ok (.iaload, 1) := by decide +kernel
theorem dL_law_396 : decode code 396 = .ok (.invokevirtual 60, 3) := by decide +kernel
theorem dL_law_399 : decode code 399 = .ok (.aload_n 2, 1) := by decide +kernel
theorem dL_law_400 : decode code 400 = .ok (.aload_n 0, 1) := by decide +kernel
theorem dL_law_401 : decode code 401 = .ok (.iload_n 3, 1) := by decide +kernel
theorem dL_law_402 : decode code 402 = .ok (.iconst 1, 1) := by decide +kernel
theorem dL_law_403 : decode code 403 = .ok (.iadd, 1) := by decide +kernel
theorem dL_law_404 : decode code 404 = .ok (.iaload, 1) := by decide +kernel
theorem dL_law_405 : decode code 405 = .ok (.invokevirtual 63, 3) := by decide +kernel
theorem dL_law_408 : decode code 408 = .ok (.if_icmp .eq 28, 3) := by decide +kernel
theorem dL_law_411 : decode code 411 = .ok (.iconst 0, 1) := by decide +kernel
theorem dL_law_412 : decode code 412 = .ok (.ireturn, 1) := by decide +kernel
theorem dL_law_413 : decode code 413 = .ok (.aload_n 1, 1) := by decide +kernel
theorem dL_law_414 : decode code 414 = .ok (.aload_n 0, 1) := by decide +kernel
theorem dL_law_415 : decode code 415 = .ok (.iload_n 3, 1) := by decide +kernel
theorem dL_law_416 : decode code 416 = .ok (.iconst 1, 1) := by decide +kernel
theorem dL_law_417 : decode code 417 = .ok (.iadd, 1) := by decide +kernel
theorem dL_law_418 : decode code 418 = .ok (.iaload, 1) := by decide +kernel
theorem dL_law_419 : decode code 419 = .ok (.invokevirtual 64, 3) := by decide +kernel
theorem dL_law_422 : decode code 422 = .ok (.aload_n 2, 1) := by decide +kernel
theorem dL_law_423 : decode code 423 = .ok (.aload_n 0, 1) := by decide +kernel
theorem dL_law_424 : decode code 424 = .ok (.iload_n 3, 1) := by decide +kernel
theorem dL_law_425 : decode code 425 = .ok (.iconst 1, 1) := by decide +kernel
theorem dL_law_426 : decode code 426 = .ok (.iadd, 1) := by decide +kernel
theorem dL_law_427 : decode code 427 = .ok (.iaload, 1) := by decide +kernel
theorem dL_law_428 : decode code 428 = .ok (.invokevirtual 67, 3) := by decide +kernel
theorem dL_law_431 : decode code 431 = .ok (.if_icmp .eq 5, 3) := by decide +kernel
theorem dL_law_434 : decode code 434 = .ok (.iconst 0, 1) := by decide +kernel
theorem dL_law_435 : decode code 435 = .ok (.ireturn, 1) := by decide +kernel
theorem dL_law_436 : decode code 436 = .ok (.iinc 3 4, 3) := by decide +kernel
theorem dL_law_439 : decode code 439 = .ok (.goto (-421), 3) := by decide +kernel
theorem dL_law_442 : decode code 442 = .ok (.iconst 1, 1) := by decide +kernel
theorem dL_law_443 : decode code 443 = .ok (.ireturn, 1) := by decide +kernel
end
section
/-! words of the tables that a contract may carry (wA), and the nest links (nW) -/
def wA : List Cond := lw_tbl.filter goodWord
def nW : List Cond := lw_tbl.filter xNest
theorem goA : ∀ w ∈ wA, xGo w := fun w h => good_of_word (List.mem_filter.mp h).2
theorem wA_in {w : Cond} (i : Nat) (h : tables_1[i]? = some w) (g : goodWord w = true) : w ∈ wA := List.mem_filter.mpr ⟨List.mem_append_right _ (List.mem_of_getElem? h), g⟩
theorem wA_sel {w : Cond} (i : Nat) (h : (k2_sels lw_privs)[i]? = some w) (g : goodWord w = true) : w ∈ wA := List.mem_filter.mpr ⟨List.mem_append_left _ (List.mem_of_getElem? h), g⟩
theorem nW_in {w : Cond} (i : Nat) (h : tables_1[i]? = some w) (g : xNest w = true) : w ∈ nW := List.mem_filter.mpr ⟨List.mem_append_right _ (List.mem_of_getElem? h), g⟩
theorem ki_L : Cond.initialized "HomeComputerLaw" ∈ wA := wA_in 0 (by decide +kernel) (by decide +kernel)
theorem ki_H : Cond.initialized "HomeComputer" ∈ wA := wA_in 1 (by decide +kernel) (by decide +kernel)
theorem ki_B : Cond.initialized "HomeComputer$Board" ∈ wA := wA_in 2 (by decide +kernel) (by decide +kernel)
theorem ki_K : Cond.initialized "HomeComputer$Keyboard" ∈ wA := wA_in 3 (by decide +kernel) (by decide +kernel)
theorem ki_T : Cond.initialized "HomeComputer$Recorder" ∈ wA := wA_in 4 (by decide +kernel) (by decide +kernel)
theorem ki_P : Cond.initialized "HomeComputer$Processor" ∈ wA := wA_in 5 (by decide +kernel) (by decide +kernel)
theorem ki_G : Cond.initialized "HomeComputer$Registers" ∈ wA := wA_in 6 (by decide +kernel) (by decide +kernel)
theorem ki_M : Cond.initialized "HomeComputerModel" ∈ wA := wA_in 7 (by decide +kernel) (by decide +kernel)
theorem ki_A : Cond.initialized "HomeComputer$Arithmetic" ∈ wA := wA_in 8 (by decide +kernel) (by decide +kernel)
theorem ki_I : Cond.initialized "java/lang/Integer" ∈ wA := wA_in 9 (by decide +kernel) (by decide +kernel)
theorem ki_X : Cond.initialized "java/lang/Math" ∈ wA := wA_in 10 (by decide +kernel) (by decide +kernel)
theorem kL_7 : Cond.classLink "HomeComputerLaw" 7 "HomeComputer" ∈ wA := wA_in 11 (by decide +kernel) (by decide +kernel)
theorem kn_H : Cond.instantiable "HomeComputer" 2 ∈ wA := wA_in 12 (by decide +kernel) (by decide +kernel)
theorem kL_9 : Cond.methodLink "HomeComputerLaw" 9 yH_init ∈ wA := wA_in 13 (by decide +kernel) (by decide +kernel)
theorem kH_1 : Cond.methodLink "HomeComputer" 1 objectInit ∈ wA := wA_in 16 (by decide +kernel) (by decide +kernel)
theorem kH_7 : Cond.classLink "HomeComputer" 7 "HomeComputer$Board" ∈ wA := wA_in 19 (by decide +kernel) (by decide +kernel)
theorem kn_B : Cond.instantiable "HomeComputer$Board" 8 ∈ wA := wA_in 20 (by decide +kernel) (by decide +kernel)
theorem kH_9 : Cond.methodLinkNest "HomeComputer" 9 yB_init "HomeComputer" ∈ nW := nW_in 21 (by decide +kernel) (by decide +kernel)
theorem kB_1 : Cond.methodLink "HomeComputer$Board" 1 objectInit ∈ wA := wA_in 24 (by decide +kernel) (by decide +kernel)
theorem kB_16 : Cond.classLink "HomeComputer$Board" 16 "HomeComputer$Keyboard" ∈ wA := wA_in 25 (by decide +kernel) (by decide +kernel)
theorem kn_K : Cond.instantiable "HomeComputer$Keyboard" 1 ∈ wA := wA_in 26 (by decide +kernel) (by decide +kernel)
theorem kB_18 : Cond.methodLinkNest "HomeComputer$Board" 18 yK_init "HomeComputer" ∈ nW := nW_in 27 (by decide +kernel) (by decide +kernel)
theorem kK_1 : Cond.methodLink "HomeComputer$Keyboard" 1 objectInit ∈ wA := wA_in 30 (by decide +kernel) (by decide +kernel)
theorem kK_9 : Cond.fieldLink "HomeComputer$Keyboard" 9 "HomeComputer$Keyboard" "down" "[I" ∈ wA := wA_in 31 (by decide +kernel) (by decide +kernel)
theorem kB_23 : Cond.classLink "HomeComputer$Board" 23 "HomeComputer$Recorder" ∈ wA := wA_in 36 (by decide +kernel) (by decide +kernel)
theorem kn_T : Cond.instantiable "HomeComputer$Recorder" 5 ∈ wA := wA_in 37 (by decide +kernel) (by decide +kernel)
theorem kB_25 : Cond.methodLinkNest "HomeComputer$Board" 25 yT_init "HomeComputer" ∈ nW := nW_in 38 (by decide +kernel) (by decide +kernel)
theorem kT_1 : Cond.methodLink "HomeComputer$Recorder" 1 objectInit ∈ wA := wA_in 41 (by decide +kernel) (by decide +kernel)
theorem kT_9 : Cond.fieldLink "HomeComputer$Recorder" 9 "HomeComputer$Recorder" "ends" "[I" ∈ wA := wA_in 42 (by decide +kernel) (by decide +kernel)
theorem kT_13 : Cond.fieldLink "HomeComputer$Recorder" 13 "HomeComputer$Recorder" "count" "I" ∈ wA := wA_in 43 (by decide +kernel) (by decide +kernel)
theorem kT_24 : Cond.fieldLink "HomeComputer$Recorder" 24 "HomeComputer$Recorder" "began" "I" ∈ wA := wA_in 44 (by decide +kernel) (by decide +kernel)
theorem kT_21 : Cond.fieldLink "HomeComputer$Recorder" 21 "HomeComputer$Recorder" "over" "I" ∈ wA := wA_in 45 (by decide +kernel) (by decide +kernel)
theorem kH_100 : Cond.fieldLinkNest "HomeComputer" 100 "HomeComputer$Recorder" "over" "I" "HomeComputer" ∈ nW := nW_in 46 (by decide +kernel) (by decide +kernel)
theorem kT_17 : Cond.fieldLink "HomeComputer$Recorder" 17 "HomeComputer$Recorder" "plays" "Z" ∈ wA := wA_in 47 (by decide +kernel) (by decide +kernel)
theorem kH_96 : Cond.fieldLinkNest "HomeComputer" 96 "HomeComputer$Recorder" "plays" "Z" "HomeComputer" ∈ nW := nW_in 48 (by decide +kernel) (by decide +kernel)
theorem kB_9 : Cond.fieldLink "HomeComputer$Board" 9 "HomeComputer$Board" "memory" "[I" ∈ wA := wA_in 60 (by decide +kernel) (by decide +kernel)
theorem kB_13 : Cond.fieldLink "HomeComputer$Board" 13 "HomeComputer$Board" "stripes" "[I" ∈ wA := wA_in 61 (by decide +kernel) (by decide +kernel)
theorem kH_103 : Cond.fieldLinkNest "HomeComputer" 103 "HomeComputer$Board" "stripes" "[I" "HomeComputer" ∈ nW := nW_in 62 (by decide +kernel) (by decide +kernel)
theorem kB_19 : Cond.fieldLink "HomeComputer$Board" 19 "HomeComputer$Board" "keyboard" "LHomeComputer$Keyboard;" ∈ wA := wA_in 63 (by decide +kernel) (by decide +kernel)
theorem kH_46 : Cond.fieldLinkNest "HomeComputer" 46 "HomeComputer$Board" "keyboard" "LHomeComputer$Keyboard;" "HomeComputer" ∈ nW := nW_in 64 (by decide +kernel) (by decide +kernel)
theorem kB_26 : Cond.fieldLink "HomeComputer$Board" 26 "HomeComputer$Board" "recorder" "LHomeComputer$Recorder;" ∈ wA := wA_in 65 (by decide +kernel) (by decide +kernel)
theorem kH_56 : Cond.fieldLinkNest "HomeComputer" 56 "HomeComputer$Board" "recorder" "LHomeComputer$Recorder;" "HomeComputer" ∈ nW := nW_in 66 (by decide +kernel) (by decide +kernel)
theorem kB_30 : Cond.fieldLink "HomeComputer$Board" 30 "HomeComputer$Board" "now" "I" ∈ wA := wA_in 67 (by decide +kernel) (by decide +kernel)
theorem kH_60 : Cond.fieldLinkNest "HomeComputer" 60 "HomeComputer$Board" "now" "I" "HomeComputer" ∈ nW := nW_in 68 (by decide +kernel) (by decide +kernel)
theorem kB_34 : Cond.fieldLink "HomeComputer$Board" 34 "HomeComputer$Board" "border" "I" ∈ wA := wA_in 69 (by decide +kernel) (by decide +kernel)
theorem kH_87 : Cond.fieldLinkNest "HomeComputer" 87 "HomeComputer$Board" "border" "I" "HomeComputer" ∈ nW := nW_in 70 (by decide +kernel) (by decide +kernel)
theorem kB_67 : Cond.fieldLink "HomeComputer$Board" 67 "HomeComputer$Board" "speaker" "I" ∈ wA := wA_in 71 (by decide +kernel) (by decide +kernel)
theorem kB_70 : Cond.fieldLink "HomeComputer$Board" 70 "HomeComputer$Board" "edges" "I" ∈ wA := wA_in 72 (by decide +kernel) (by decide +kernel)
theorem kH_90 : Cond.fieldLinkNest "HomeComputer" 90 "HomeComputer$Board" "edges" "I" "HomeComputer" ∈ nW := nW_in 73 (by decide +kernel) (by decide +kernel)
theorem kH_16 : Cond.classLink "HomeComputer" 16 "HomeComputer$Processor" ∈ wA := wA_in 91 (by decide +kernel) (by decide +kernel)
theorem kn_P : Cond.instantiable "HomeComputer$Processor" 5 ∈ wA := wA_in 92 (by decide +kernel) (by decide +kernel)
theorem kH_18 : Cond.methodLink "HomeComputer" 18 yP_init ∈ wA := wA_in 93 (by decide +kernel) (by decide +kernel)
theorem kP_1 : Cond.methodLink "HomeComputer$Processor" 1 objectInit ∈ wA := wA_in 96 (by decide +kernel) (by decide +kernel)
theorem kP_7 : Cond.classLink "HomeComputer$Processor" 7 "HomeComputer$Registers" ∈ wA := wA_in 97 (by decide +kernel) (by decide +kernel)
theorem kn_G : Cond.instantiable "HomeComputer$Registers" 2 ∈ wA := wA_in 98 (by decide +kernel) (by decide +kernel)
theorem kP_9 : Cond.methodLinkNest "HomeComputer$Processor" 9 yG_init "HomeComputer" ∈ nW := nW_in 99 (by decide +kernel) (by decide +kernel)
theorem kG_1 : Cond.methodLink "HomeComputer$Registers" 1 objectInit ∈ wA := wA_in 102 (by decide +kernel) (by decide +kernel)
theorem kG_9 : Cond.fieldLink "HomeComputer$Registers" 9 "HomeComputer$Registers" "row" "[I" ∈ wA := wA_in 103 (by decide +kernel) (by decide +kernel)
theorem kP_16 : Cond.fieldLinkNest "HomeComputer$Processor" 16 "HomeComputer$Registers" "row" "[I" "HomeComputer" ∈ nW := nW_in 104 (by decide +kernel) (by decide +kernel)
theorem kG_13 : Cond.fieldLink "HomeComputer$Registers" 13 "HomeComputer$Registers" "base" "I" ∈ wA := wA_in 105 (by decide +kernel) (by decide +kernel)
theorem kP_29 : Cond.fieldLinkNest "HomeComputer$Processor" 29 "HomeComputer$Registers" "base" "I" "HomeComputer" ∈ nW := nW_in 106 (by decide +kernel) (by decide +kernel)
theorem kP_21 : Cond.fieldLink "HomeComputer$Processor" 21 "HomeComputer$Processor" "board" "LHomeComputer$Board;" ∈ wA := wA_in 112 (by decide +kernel) (by decide +kernel)
theorem kP_10 : Cond.fieldLink "HomeComputer$Processor" 10 "HomeComputer$Processor" "registers" "LHomeComputer$Registers;" ∈ wA := wA_in 113 (by decide +kernel) (by decide +kernel)
theorem kH_33 : Cond.fieldLinkNest "HomeComputer" 33 "HomeComputer$Processor" "registers" "LHomeComputer$Registers;" "HomeComputer" ∈ nW := nW_in 114 (by decide +kernel) (by decide +kernel)
theorem kP_20 : Cond.fieldLink "HomeComputer$Processor" 20 "HomeComputer$Processor" "row" "[I" ∈ wA := wA_in 115 (by decide +kernel) (by decide +kernel)
theorem kP_112 : Cond.fieldLink "HomeComputer$Processor" 112 "HomeComputer$Processor" "placeOfM" "I" ∈ wA := wA_in 116 (by decide +kernel) (by decide +kernel)
theorem kP_25 : Cond.fieldLink "HomeComputer$Processor" 25 "HomeComputer$Processor" "shielded" "Z" ∈ wA := wA_in 117 (by decide +kernel) (by decide +kernel)
theorem kH_10 : Cond.fieldLink "HomeComputer" 10 "HomeComputer" "board" "LHomeComputer$Board;" ∈ wA := wA_in 129 (by decide +kernel) (by decide +kernel)
theorem kH_21 : Cond.fieldLink "HomeComputer" 21 "HomeComputer" "processor" "LHomeComputer$Processor;" ∈ wA := wA_in 130 (by decide +kernel) (by decide +kernel)
theorem kL_13 : Cond.methodLink "HomeComputerLaw" 13 yH_poke ∈ wA := wA_in 136 (by decide +kernel) (by decide +kernel)
theorem kH_25 : Cond.methodLink "HomeComputer" 25 yB_place ∈ wA := wA_in 140 (by decide +kernel) (by decide +kernel)
theorem kL_18 : Cond.methodLink "HomeComputerLaw" 18 yH_load ∈ wA := wA_in 144 (by decide +kernel) (by decide +kernel)
theorem kL_23 : Cond.methodLink "HomeComputerLaw" 23 yH_peek ∈ wA := wA_in 148 (by decide +kernel) (by decide +kernel)
theorem kH_29 : Cond.methodLink "HomeComputer" 29 yB_byteAt ∈ wA := wA_in 152 (by decide +kernel) (by decide +kernel)
theorem kL_28 : Cond.methodLink "HomeComputerLaw" 28 yH_set ∈ wA := wA_in 156 (by decide +kernel) (by decide +kernel)
theorem kH_37 : Cond.methodLink "HomeComputer" 37 yG_change ∈ wA := wA_in 160 (by decide +kernel) (by decide +kernel)
theorem kG_17 : Cond.methodLink "HomeComputer$Registers" 17 yG_widest ∈ wA := wA_in 164 (by decide +kernel) (by decide +kernel)
theorem kG_21 : Cond.constant "HomeComputer$Registers" 21 (65535 : Int32) ∈ wA := wA_in 167 (by decide +kernel) (by decide +kernel)
theorem kL_33 : Cond.methodLink "HomeComputerLaw" 33 yH_register ∈ wA := wA_in 168 (by decide +kernel) (by decide +kernel)
theorem kH_43 : Cond.methodLink "HomeComputer" 43 yG_tell ∈ wA := wA_in 172 (by decide +kernel) (by decide +kernel)
theorem kL_37 : Cond.methodLink "HomeComputerLaw" 37 yH_key ∈ wA := wA_in 176 (by decide +kernel) (by decide +kernel)
theorem kH_50 : Cond.methodLink "HomeComputer" 50 yK_move ∈ wA := wA_in 180 (by decide +kernel) (by decide +kernel)
theorem kL_42 : Cond.methodLink "HomeComputerLaw" 42 yH_pulse ∈ wA := wA_in 184 (by decide +kernel) (by decide +kernel)
theorem kH_64 : Cond.methodLink "HomeComputer" 64 yT_follow ∈ wA := wA_in 188 (by decide +kernel) (by decide +kernel)
theorem kH_70 : Cond.methodLink "HomeComputer" 70 yT_append ∈ wA := wA_in 192 (by decide +kernel) (by decide +kernel)
theorem kL_47 : Cond.methodLink "HomeComputerLaw" 47 yH_tape ∈ wA := wA_in 196 (by decide +kernel) (by decide +kernel)
theorem kH_74 : Cond.methodLink "HomeComputer" 74 yT_command ∈ wA := wA_in 200 (by decide +kernel) (by decide +kernel)
theorem kL_51 : Cond.methodLink "HomeComputerLaw" 51 yH_step ∈ wA := wA_in 204 (by decide +kernel) (by decide +kernel)
theorem kH_77 : Cond.methodLink "HomeComputer" 77 yP_next ∈ wA := wA_in 208 (by decide +kernel) (by decide +kernel)
theorem kP_33 : Cond.methodLink "HomeComputer$Processor" 33 yB_tickOfFrame ∈ wA := wA_in 212 (by decide +kernel) (by decide +kernel)
theorem kP_39 : Cond.methodLink "HomeComputer$Processor" 39 yP_takeInterrupt ∈ wA := wA_in 216 (by decide +kernel) (by decide +kernel)
theorem kP_46 : Cond.methodLink "HomeComputer$Processor" 46 yP_refresh ∈ wA := wA_in 220 (by decide +kernel) (by decide +kernel)
theorem kP_97 : Cond.methodLink "HomeComputer$Processor" 97 yB_pass ∈ wA := wA_in 224 (by decide +kernel) (by decide +kernel)
theorem kP_100 : Cond.methodLink "HomeComputer$Processor" 100 yP_push ∈ wA := wA_in 228 (by decide +kernel) (by decide +kernel)
theorem kP_118 : Cond.constant "HomeComputer$Processor" 118 (65535 : Int32) ∈ wA := wA_in 232 (by decide +kernel) (by decide +kernel)
theorem kP_122 : Cond.methodLink "HomeComputer$Processor" 122 yB_write ∈ wA := wA_in 233 (by decide +kernel) (by decide +kernel)
theorem kB_37 : Cond.methodLink "HomeComputer$Board" 37 yB_isShared ∈ wA := wA_in 237 (by decide +kernel) (by decide +kernel)
theorem kB_41 : Cond.methodLink "HomeComputer$Board" 41 yB_delay ∈ wA := wA_in 240 (by decide +kernel) (by decide +kernel)
theorem kB_45 : Cond.methodLink "HomeComputer$Board" 45 yB_pass ∈ wA := wA_in 244 (by decide +kernel) (by decide +kernel)
theorem kB_53 : Cond.methodLink "HomeComputer$Board" 53 yB_place ∈ wA := wA_in 245 (by decide +kernel) (by decide +kernel)
theorem kP_103 : Cond.methodLink "HomeComputer$Processor" 103 yP_readWord ∈ wA := wA_in 246 (by decide +kernel) (by decide +kernel)
theorem kP_119 : Cond.methodLink "HomeComputer$Processor" 119 yB_read ∈ wA := wA_in 250 (by decide +kernel) (by decide +kernel)
theorem kB_49 : Cond.methodLink "HomeComputer$Board" 49 yB_byteAt ∈ wA := wA_in 254 (by decide +kernel) (by decide +kernel)
theorem kP_42 : Cond.methodLink "HomeComputer$Processor" 42 yB_fetchAt ∈ wA := wA_in 255 (by decide +kernel) (by decide +kernel)
theorem kP_49 : Cond.methodLink "HomeComputer$Processor" 49 yP_fetchBehindPrefixes ∈ wA := wA_in 259 (by decide +kernel) (by decide +kernel)
theorem kP_65 : Cond.methodLink "HomeComputer$Processor" 65 yP_fetch ∈ wA := wA_in 263 (by decide +kernel) (by decide +kernel)
theorem kP_106 : Cond.methodLink "HomeComputer$Processor" 106 yP_movePc ∈ wA := wA_in 267 (by decide +kernel) (by decide +kernel)
theorem kP_52 : Cond.methodLink "HomeComputer$Processor" 52 yP_isPrefix ∈ wA := wA_in 271 (by decide +kernel) (by decide +kernel)
theorem kP_56 : Cond.methodLink "HomeComputer$Processor" 56 yP_hasM ∈ wA := wA_in 274 (by decide +kernel) (by decide +kernel)
theorem kP_59 : Cond.methodLink "HomeComputer$Processor" 59 yP_findM ∈ wA := wA_in 277 (by decide +kernel) (by decide +kernel)
theorem kP_109 : Cond.methodLink "HomeComputer$Processor" 109 yG_hl ∈ wA := wA_in 281 (by decide +kernel) (by decide +kernel)
theorem kG_22 : Cond.methodLink "HomeComputer$Registers" 22 yG_joined ∈ wA := wA_in 285 (by decide +kernel) (by decide +kernel)
theorem kP_115 : Cond.methodLink "HomeComputer$Processor" 115 yP_nextByte ∈ wA := wA_in 289 (by decide +kernel) (by decide +kernel)
theorem kP_62 : Cond.methodLink "HomeComputer$Processor" 62 yP_rotate ∈ wA := wA_in 293 (by decide +kernel) (by decide +kernel)
theorem kP_76 : Cond.methodLink "HomeComputer$Processor" 76 yP_operand ∈ wA := wA_in 297 (by decide +kernel) (by decide +kernel)
theorem kP_125 : Cond.methodLink "HomeComputer$Processor" 125 yG_single ∈ wA := wA_in 301 (by decide +kernel) (by decide +kernel)
theorem kP_193 : Cond.methodLink "HomeComputer$Processor" 193 yP_carry ∈ wA := wA_in 305 (by decide +kernel) (by decide +kernel)
theorem kP_223 : Cond.methodLink "HomeComputer$Processor" 223 yA_bitFlags ∈ wA := wA_in 309 (by decide +kernel) (by decide +kernel)
theorem kP_226 : Cond.methodLink "HomeComputer$Processor" 226 yP_changedByte ∈ wA := wA_in 312 (by decide +kernel) (by decide +kernel)
theorem kP_196 : Cond.methodLink "HomeComputer$Processor" 196 yA_turned ∈ wA := wA_in 316 (by decide +kernel) (by decide +kernel)
theorem kA_30 : Cond.methodLink "HomeComputer$Arithmetic" 30 yA_comesIn ∈ wA := wA_in 319 (by decide +kernel) (by decide +kernel)
theorem kA_22 : Cond.methodLink "HomeComputer$Arithmetic" 22 yA_byWithParity ∈ wA := wA_in 322 (by decide +kernel) (by decide +kernel)
theorem kA_9 : Cond.methodLink "HomeComputer$Arithmetic" 9 yA_by ∈ wA := wA_in 325 (by decide +kernel) (by decide +kernel)
theorem kA_13 : Cond.methodLink "HomeComputer$Arithmetic" 13 yI_bitCount ∈ wA := wA_in 328 (by decide +kernel) (by decide +kernel)
theorem kI_265 : Cond.constant "java/lang/Integer" 265 (1431655765 : Int32) ∈ wA := wA_in 331 (by decide +kernel) (by decide +kernel)
theorem kI_266 : Cond.constant "java/lang/Integer" 266 (858993459 : Int32) ∈ wA := wA_in 332 (by decide +kernel) (by decide +kernel)
theorem kI_267 : Cond.constant "java/lang/Integer" 267 (252645135 : Int32) ∈ wA := wA_in 333 (by decide +kernel) (by decide +kernel)
theorem kP_79 : Cond.methodLink "HomeComputer$Processor" 79 yP_setOperand ∈ wA := wA_in 334 (by decide +kernel) (by decide +kernel)
theorem kP_128 : Cond.methodLink "HomeComputer$Processor" 128 yG_setSingle ∈ wA := wA_in 338 (by decide +kernel) (by decide +kernel)
theorem kG_37 : Cond.constant "HomeComputer$Registers" 37 (65280 : Int32) ∈ wA := wA_in 342 (by decide +kernel) (by decide +kernel)
theorem kP_68 : Cond.methodLink "HomeComputer$Processor" 68 yP_more ∈ wA := wA_in 343 (by decide +kernel) (by decide +kernel)
theorem kP_229 : Cond.methodLink "HomeComputer$Processor" 229 yP_moveByte ∈ wA := wA_in 347 (by decide +kernel) (by decide +kernel)
theorem kP_211 : Cond.methodLink "HomeComputer$Processor" 211 yG_joined ∈ wA := wA_in 351 (by decide +kernel) (by decide +kernel)
theorem kP_190 : Cond.methodLink "HomeComputer$Processor" 190 yG_split ∈ wA := wA_in 352 (by decide +kernel) (by decide +kernel)
theorem kP_265 : Cond.methodLink "HomeComputer$Processor" 265 yP_advance ∈ wA := wA_in 356 (by decide +kernel) (by decide +kernel)
theorem kP_171 : Cond.methodLink "HomeComputer$Processor" 171 yG_setHl ∈ wA := wA_in 360 (by decide +kernel) (by decide +kernel)
theorem kG_25 : Cond.methodLink "HomeComputer$Registers" 25 yG_split ∈ wA := wA_in 364 (by decide +kernel) (by decide +kernel)
theorem kP_174 : Cond.methodLink "HomeComputer$Processor" 174 yP_setFlags ∈ wA := wA_in 365 (by decide +kernel) (by decide +kernel)
theorem kP_232 : Cond.methodLink "HomeComputer$Processor" 232 yP_lookAtByte ∈ wA := wA_in 369 (by decide +kernel) (by decide +kernel)
theorem kP_180 : Cond.methodLink "HomeComputer$Processor" 180 yA_minus ∈ wA := wA_in 373 (by decide +kernel) (by decide +kernel)
theorem kP_235 : Cond.methodLink "HomeComputer$Processor" 235 yP_takeFromPort ∈ wA := wA_in 376 (by decide +kernel) (by decide +kernel)
theorem kP_217 : Cond.methodLink "HomeComputer$Processor" 217 yB_readPort ∈ wA := wA_in 380 (by decide +kernel) (by decide +kernel)
theorem kB_57 : Cond.methodLink "HomeComputer$Board" 57 yT_follow ∈ wA := wA_in 384 (by decide +kernel) (by decide +kernel)
theorem kB_60 : Cond.methodLink "HomeComputer$Board" 60 yT_level ∈ wA := wA_in 385 (by decide +kernel) (by decide +kernel)
theorem kB_64 : Cond.methodLink "HomeComputer$Board" 64 yK_upIn ∈ wA := wA_in 389 (by decide +kernel) (by decide +kernel)
theorem kP_252 : Cond.methodLink "HomeComputer$Processor" 252 yA_byWithParity ∈ wA := wA_in 393 (by decide +kernel) (by decide +kernel)
theorem kP_214 : Cond.methodLink "HomeComputer$Processor" 214 yB_writePort ∈ wA := wA_in 394 (by decide +kernel) (by decide +kernel)
theorem kP_238 : Cond.methodLink "HomeComputer$Processor" 238 yP_sumWithCarry ∈ wA := wA_in 398 (by decide +kernel) (by decide +kernel)
theorem kP_151 : Cond.methodLink "HomeComputer$Processor" 151 yG_pair ∈ wA := wA_in 402 (by decide +kernel) (by decide +kernel)
theorem kG_29 : Cond.methodLink "HomeComputer$Registers" 29 yG_hl ∈ wA := wA_in 406 (by decide +kernel) (by decide +kernel)
theorem kP_167 : Cond.methodLink "HomeComputer$Processor" 167 yA_plusWide ∈ wA := wA_in 407 (by decide +kernel) (by decide +kernel)
theorem kA_25 : Cond.constant "HomeComputer$Arithmetic" 25 (32768 : Int32) ∈ wA := wA_in 410 (by decide +kernel) (by decide +kernel)
theorem kA_26 : Cond.methodLink "HomeComputer$Arithmetic" 26 yA_byWide ∈ wA := wA_in 411 (by decide +kernel) (by decide +kernel)
theorem kA_29 : Cond.constant "HomeComputer$Arithmetic" 29 (65535 : Int32) ∈ wA := wA_in 414 (by decide +kernel) (by decide +kernel)
theorem kP_255 : Cond.methodLink "HomeComputer$Processor" 255 yA_minusWide ∈ wA := wA_in 415 (by decide +kernel) (by decide +kernel)
theorem kP_241 : Cond.methodLink "HomeComputer$Processor" 241 yP_passPair ∈ wA := wA_in 418 (by decide +kernel) (by decide +kernel)
theorem kP_139 : Cond.methodLink "HomeComputer$Processor" 139 yP_nextWord ∈ wA := wA_in 422 (by decide +kernel) (by decide +kernel)
theorem kP_142 : Cond.methodLink "HomeComputer$Processor" 142 yG_setPair ∈ wA := wA_in 426 (by decide +kernel) (by decide +kernel)
theorem kG_33 : Cond.methodLink "HomeComputer$Registers" 33 yG_setHl ∈ wA := wA_in 430 (by decide +kernel) (by decide +kernel)
theorem kP_177 : Cond.methodLink "HomeComputer$Processor" 177 yP_writeWord ∈ wA := wA_in 431 (by decide +kernel) (by decide +kernel)
theorem kP_205 : Cond.methodLink "HomeComputer$Processor" 205 yP_pop ∈ wA := wA_in 435 (by decide +kernel) (by decide +kernel)
theorem kP_244 : Cond.methodLink "HomeComputer$Processor" 244 yX_max ∈ wA := wA_in 439 (by decide +kernel) (by decide +kernel)
theorem kP_249 : Cond.methodLink "HomeComputer$Processor" 249 yP_doSpecial ∈ wA := wA_in 442 (by decide +kernel) (by decide +kernel)
theorem kP_258 : Cond.methodLink "HomeComputer$Processor" 258 yA_by ∈ wA := wA_in 446 (by decide +kernel) (by decide +kernel)
theorem kP_261 : Cond.methodLink "HomeComputer$Processor" 261 yP_turnTwelveBits ∈ wA := wA_in 447 (by decide +kernel) (by decide +kernel)
theorem kP_72 : Cond.methodLink "HomeComputer$Processor" 72 yP_doFirst ∈ wA := wA_in 451 (by decide +kernel) (by decide +kernel)
theorem kP_133 : Cond.methodLink "HomeComputer$Processor" 133 yP_moveNear ∈ wA := wA_in 455 (by decide +kernel) (by decide +kernel)
theorem kP_161 : Cond.methodLink "HomeComputer$Processor" 161 yG_swapWithSecond ∈ wA := wA_in 459 (by decide +kernel) (by decide +kernel)
theorem kG_38 : Cond.methodLink "HomeComputer$Registers" 38 yG_swap ∈ wA := wA_in 463 (by decide +kernel) (by decide +kernel)
theorem kP_164 : Cond.methodLink "HomeComputer$Processor" 164 yP_condition ∈ wA := wA_in 467 (by decide +kernel) (by decide +kernel)
theorem kP_136 : Cond.methodLink "HomeComputer$Processor" 136 yP_addPair ∈ wA := wA_in 471 (by decide +kernel) (by decide +kernel)
theorem kP_145 : Cond.methodLink "HomeComputer$Processor" 145 yP_takeFrom ∈ wA := wA_in 475 (by decide +kernel) (by decide +kernel)
theorem kP_148 : Cond.methodLink "HomeComputer$Processor" 148 yP_putAt ∈ wA := wA_in 479 (by decide +kernel) (by decide +kernel)
theorem kP_154 : Cond.methodLink "HomeComputer$Processor" 154 yP_count ∈ wA := wA_in 483 (by decide +kernel) (by decide +kernel)
theorem kP_183 : Cond.methodLink "HomeComputer$Processor" 183 yA_plus ∈ wA := wA_in 487 (by decide +kernel) (by decide +kernel)
theorem kP_158 : Cond.methodLink "HomeComputer$Processor" 158 yP_changeA ∈ wA := wA_in 490 (by decide +kernel) (by decide +kernel)
theorem kP_186 : Cond.methodLink "HomeComputer$Processor" 186 yA_adjusted ∈ wA := wA_in 494 (by decide +kernel) (by decide +kernel)
theorem kP_82 : Cond.methodLink "HomeComputer$Processor" 82 yP_operate ∈ wA := wA_in 497 (by decide +kernel) (by decide +kernel)
theorem kP_199 : Cond.methodLink "HomeComputer$Processor" 199 yA_logic ∈ wA := wA_in 501 (by decide +kernel) (by decide +kernel)
theorem kP_202 : Cond.methodLink "HomeComputer$Processor" 202 yA_compared ∈ wA := wA_in 504 (by decide +kernel) (by decide +kernel)
theorem kA_18 : Cond.methodLink "HomeComputer$Arithmetic" 18 yA_minus ∈ wA := wA_in 507 (by decide +kernel) (by decide +kernel)
theorem kP_85 : Cond.methodLink "HomeComputer$Processor" 85 yP_popOrGo ∈ wA := wA_in 508 (by decide +kernel) (by decide +kernel)
theorem kP_88 : Cond.methodLink "HomeComputer$Processor" 88 yP_doMixed ∈ wA := wA_in 512 (by decide +kernel) (by decide +kernel)
theorem kP_220 : Cond.methodLink "HomeComputer$Processor" 220 yG_swap ∈ wA := wA_in 516 (by decide +kernel) (by decide +kernel)
theorem kP_91 : Cond.methodLink "HomeComputer$Processor" 91 yP_pushOrCall ∈ wA := wA_in 517 (by decide +kernel) (by decide +kernel)
theorem kP_208 : Cond.methodLink "HomeComputer$Processor" 208 yP_call ∈ wA := wA_in 521 (by decide +kernel) (by decide +kernel)
theorem kP_94 : Cond.methodLink "HomeComputer$Processor" 94 yP_doLast ∈ wA := wA_in 525 (by decide +kernel) (by decide +kernel)
theorem kL_55 : Cond.methodLink "HomeComputerLaw" 55 yH_frame ∈ wA := wA_in 529 (by decide +kernel) (by decide +kernel)
theorem kH_80 : Cond.methodLink "HomeComputer" 80 yB_frames ∈ wA := wA_in 533 (by decide +kernel) (by decide +kernel)
theorem kL_60 : Cond.methodLink "HomeComputerLaw" 60 yH_look ∈ wA := wA_in 537 (by decide +kernel) (by decide +kernel)
theorem kH_84 : Cond.methodLink "HomeComputer" 84 yB_tickOfFrame ∈ wA := wA_in 541 (by decide +kernel) (by decide +kernel)
theorem kH_93 : Cond.methodLink "HomeComputer" 93 yT_level ∈ wA := wA_in 542 (by decide +kernel) (by decide +kernel)
theorem kL_64 : Cond.methodLink "HomeComputerLaw" 64 yH_stripe ∈ wA := wA_in 543 (by decide +kernel) (by decide +kernel)
theorem kL_10 : Cond.classLink "HomeComputerLaw" 10 "HomeComputerModel" ∈ wA := wA_in 547 (by decide +kernel) (by decide +kernel)
theorem kn_M : Cond.instantiable "HomeComputerModel" 21 ∈ wA := wA_in 548 (by decide +kernel) (by decide +kernel)
theorem kL_12 : Cond.methodLink "HomeComputerLaw" 12 yM_init ∈ wA := wA_in 549 (by decide +kernel) (by decide +kernel)
theorem kM_1 : Cond.methodLink "HomeComputerModel" 1 objectInit ∈ wA := wA_in 552 (by decide +kernel) (by decide +kernel)
theorem kM_7 : Cond.fieldLink "HomeComputerModel" 7 "HomeComputerModel" "memory" "[I" ∈ wA := wA_in 553 (by decide +kernel) (by decide +kernel)
theorem kM_13 : Cond.fieldLink "HomeComputerModel" 13 "HomeComputerModel" "reg" "[I" ∈ wA := wA_in 554 (by decide +kernel) (by decide +kernel)
theorem kM_26 : Cond.fieldLink "HomeComputerModel" 26 "HomeComputerModel" "now" "I" ∈ wA := wA_in 555 (by decide +kernel) (by decide +kernel)
theorem kM_143 : Cond.fieldLink "HomeComputerModel" 143 "HomeComputerModel" "shield" "Z" ∈ wA := wA_in 556 (by decide +kernel) (by decide +kernel)
theorem kM_59 : Cond.fieldLink "HomeComputerModel" 59 "HomeComputerModel" "prefix" "I" ∈ wA := wA_in 557 (by decide +kernel) (by decide +kernel)
theorem kM_80 : Cond.fieldLink "HomeComputerModel" 80 "HomeComputerModel" "plain" "Z" ∈ wA := wA_in 558 (by decide +kernel) (by decide +kernel)
theorem kM_77 : Cond.fieldLink "HomeComputerModel" 77 "HomeComputerModel" "place" "I" ∈ wA := wA_in 559 (by decide +kernel) (by decide +kernel)
theorem kM_88 : Cond.fieldLink "HomeComputerModel" 88 "HomeComputerModel" "half" "Z" ∈ wA := wA_in 560 (by decide +kernel) (by decide +kernel)
theorem kM_91 : Cond.fieldLink "HomeComputerModel" 91 "HomeComputerModel" "carry" "Z" ∈ wA := wA_in 561 (by decide +kernel) (by decide +kernel)
theorem kM_85 : Cond.fieldLink "HomeComputerModel" 85 "HomeComputerModel" "over" "Z" ∈ wA := wA_in 562 (by decide +kernel) (by decide +kernel)
theorem kM_110 : Cond.fieldLink "HomeComputerModel" 110 "HomeComputerModel" "out" "I" ∈ wA := wA_in 563 (by decide +kernel) (by decide +kernel)
theorem kM_16 : Cond.fieldLink "HomeComputerModel" 16 "HomeComputerModel" "keys" "[Z" ∈ wA := wA_in 564 (by decide +kernel) (by decide +kernel)
theorem kM_30 : Cond.fieldLink "HomeComputerModel" 30 "HomeComputerModel" "border" "I" ∈ wA := wA_in 565 (by decide +kernel) (by decide +kernel)
theorem kM_140 : Cond.fieldLink "HomeComputerModel" 140 "HomeComputerModel" "speaker" "I" ∈ wA := wA_in 566 (by decide +kernel) (by decide +kernel)
theorem kM_137 : Cond.fieldLink "HomeComputerModel" 137 "HomeComputerModel" "edges" "I" ∈ wA := wA_in 567 (by decide +kernel) (by decide +kernel)
theorem kM_20 : Cond.fieldLink "HomeComputerModel" 20 "HomeComputerModel" "stripes" "[I" ∈ wA := wA_in 568 (by decide +kernel) (by decide +kernel)
theorem kM_123 : Cond.fieldLink "HomeComputerModel" 123 "HomeComputerModel" "pulses" "I" ∈ wA := wA_in 569 (by decide +kernel) (by decide +kernel)
theorem kM_23 : Cond.fieldLink "HomeComputerModel" 23 "HomeComputerModel" "pulse" "[I" ∈ wA := wA_in 570 (by decide +kernel) (by decide +kernel)
theorem kM_126 : Cond.fieldLink "HomeComputerModel" 126 "HomeComputerModel" "plays" "Z" ∈ wA := wA_in 571 (by decide +kernel) (by decide +kernel)
theorem kM_120 : Cond.fieldLink "HomeComputerModel" 120 "HomeComputerModel" "began" "I" ∈ wA := wA_in 572 (by decide +kernel) (by decide +kernel)
theorem kM_131 : Cond.fieldLink "HomeComputerModel" 131 "HomeComputerModel" "past" "I" ∈ wA := wA_in 573 (by decide +kernel) (by decide +kernel)
theorem kL_17 : Cond.methodLink "HomeComputerLaw" 17 yM_poke ∈ wA := wA_in 618 (by decide +kernel) (by decide +kernel)
theorem kL_22 : Cond.methodLink "HomeComputerLaw" 22 yM_load ∈ wA := wA_in 622 (by decide +kernel) (by decide +kernel)
theorem kL_27 : Cond.methodLink "HomeComputerLaw" 27 yM_peek ∈ wA := wA_in 626 (by decide +kernel) (by decide +kernel)
theorem kL_32 : Cond.methodLink "HomeComputerLaw" 32 yM_set ∈ wA := wA_in 630 (by decide +kernel) (by decide +kernel)
theorem kM_44 : Cond.constant "HomeComputerModel" 44 (65535 : Int32) ∈ wA := wA_in 634 (by decide +kernel) (by decide +kernel)
theorem kL_36 : Cond.methodLink "HomeComputerLaw" 36 yM_register ∈ wA := wA_in 635 (by decide +kernel) (by decide +kernel)
theorem kL_41 : Cond.methodLink "HomeComputerLaw" 41 yM_key ∈ wA := wA_in 639 (by decide +kernel) (by decide +kernel)
theorem kL_46 : Cond.methodLink "HomeComputerLaw" 46 yM_pulse ∈ wA := wA_in 643 (by decide +kernel) (by decide +kernel)
theorem kM_134 : Cond.methodLink "HomeComputerModel" 134 yM_play ∈ wA := wA_in 647 (by decide +kernel) (by decide +kernel)
theorem kM_129 : Cond.methodLink "HomeComputerModel" 129 yM_over ∈ wA := wA_in 651 (by decide +kernel) (by decide +kernel)
theorem kL_50 : Cond.methodLink "HomeComputerLaw" 50 yM_tape ∈ wA := wA_in 655 (by decide +kernel) (by decide +kernel)
theorem kL_54 : Cond.methodLink "HomeComputerLaw" 54 yM_step ∈ wA := wA_in 659 (by decide +kernel) (by decide +kernel)
theorem kM_248 : Cond.methodLink "HomeComputerModel" 248 yM_one ∈ wA := wA_in 663 (by decide +kernel) (by decide +kernel)
theorem kM_146 : Cond.methodLink "HomeComputerModel" 146 yM_interrupt ∈ wA := wA_in 667 (by decide +kernel) (by decide +kernel)
theorem kM_45 : Cond.methodLink "HomeComputerModel" 45 yM_refresh ∈ wA := wA_in 671 (by decide +kernel) (by decide +kernel)
theorem kM_33 : Cond.methodLink "HomeComputerModel" 33 yM_pass ∈ wA := wA_in 675 (by decide +kernel) (by decide +kernel)
theorem kM_161 : Cond.methodLink "HomeComputerModel" 161 yM_push ∈ wA := wA_in 679 (by decide +kernel) (by decide +kernel)
theorem kM_56 : Cond.methodLink "HomeComputerModel" 56 yM_write ∈ wA := wA_in 683 (by decide +kernel) (by decide +kernel)
theorem kM_40 : Cond.methodLink "HomeComputerModel" 40 yM_reach ∈ wA := wA_in 687 (by decide +kernel) (by decide +kernel)
theorem kM_37 : Cond.methodLink "HomeComputerModel" 37 yM_slow ∈ wA := wA_in 691 (by decide +kernel) (by decide +kernel)
theorem kM_164 : Cond.methodLink "HomeComputerModel" 164 yM_two ∈ wA := wA_in 695 (by decide +kernel) (by decide +kernel)
theorem kM_48 : Cond.methodLink "HomeComputerModel" 48 yM_read ∈ wA := wA_in 699 (by decide +kernel) (by decide +kernel)
theorem kM_149 : Cond.methodLink "HomeComputerModel" 149 yM_fetch ∈ wA := wA_in 703 (by decide +kernel) (by decide +kernel)
theorem kM_152 : Cond.methodLink "HomeComputerModel" 152 yM_more ∈ wA := wA_in 707 (by decide +kernel) (by decide +kernel)
theorem kM_242 : Cond.methodLink "HomeComputerModel" 242 yM_move ∈ wA := wA_in 711 (by decide +kernel) (by decide +kernel)
theorem kM_62 : Cond.methodLink "HomeComputerModel" 62 yM_pair ∈ wA := wA_in 715 (by decide +kernel) (by decide +kernel)
theorem kM_104 : Cond.methodLink "HomeComputerModel" 104 yM_difference ∈ wA := wA_in 719 (by decide +kernel) (by decide +kernel)
theorem kM_94 : Cond.methodLink "HomeComputerModel" 94 yM_sum ∈ wA := wA_in 723 (by decide +kernel) (by decide +kernel)
theorem kM_65 : Cond.methodLink "HomeComputerModel" 65 yM_setPair ∈ wA := wA_in 727 (by decide +kernel) (by decide +kernel)
theorem kM_227 : Cond.methodLink "HomeComputerModel" 227 yM_input ∈ wA := wA_in 731 (by decide +kernel) (by decide +kernel)
theorem kM_176 : Cond.methodLink "HomeComputerModel" 176 yM_put ∈ wA := wA_in 735 (by decide +kernel) (by decide +kernel)
theorem kM_84 : Cond.constant "HomeComputerModel" 84 (65280 : Int32) ∈ wA := wA_in 739 (by decide +kernel) (by decide +kernel)
theorem kM_98 : Cond.methodLink "HomeComputerModel" 98 yM_by ∈ wA := wA_in 740 (by decide +kernel) (by decide +kernel)
theorem kM_107 : Cond.methodLink "HomeComputerModel" 107 yM_parity ∈ wA := wA_in 743 (by decide +kernel) (by decide +kernel)
theorem kM_173 : Cond.methodLink "HomeComputerModel" 173 yM_get ∈ wA := wA_in 746 (by decide +kernel) (by decide +kernel)
theorem kM_224 : Cond.methodLink "HomeComputerModel" 224 yM_output ∈ wA := wA_in 750 (by decide +kernel) (by decide +kernel)
theorem kM_191 : Cond.methodLink "HomeComputerModel" 191 yM_w ∈ wA := wA_in 754 (by decide +kernel) (by decide +kernel)
theorem kM_68 : Cond.methodLink "HomeComputerModel" 68 yM_main ∈ wA := wA_in 758 (by decide +kernel) (by decide +kernel)
theorem kM_101 : Cond.methodLink "HomeComputerModel" 101 yM_rest ∈ wA := wA_in 762 (by decide +kernel) (by decide +kernel)
theorem kM_197 : Cond.methodLink "HomeComputerModel" 197 yM_twoNext ∈ wA := wA_in 766 (by decide +kernel) (by decide +kernel)
theorem kM_52 : Cond.methodLink "HomeComputerModel" 52 yM_next ∈ wA := wA_in 770 (by decide +kernel) (by decide +kernel)
theorem kM_200 : Cond.methodLink "HomeComputerModel" 200 yM_setW ∈ wA := wA_in 774 (by decide +kernel) (by decide +kernel)
theorem kM_71 : Cond.methodLink "HomeComputerModel" 71 yM_setMain ∈ wA := wA_in 778 (by decide +kernel) (by decide +kernel)
theorem kM_221 : Cond.methodLink "HomeComputerModel" 221 yM_setTwo ∈ wA := wA_in 782 (by decide +kernel) (by decide +kernel)
theorem kM_179 : Cond.methodLink "HomeComputerModel" 179 yM_work ∈ wA := wA_in 786 (by decide +kernel) (by decide +kernel)
theorem kM_230 : Cond.methodLink "HomeComputerModel" 230 yM_pop ∈ wA := wA_in 790 (by decide +kernel) (by decide +kernel)
theorem kM_245 : Cond.methodLink "HomeComputerModel" 245 yM_special ∈ wA := wA_in 794 (by decide +kernel) (by decide +kernel)
theorem kM_155 : Cond.methodLink "HomeComputerModel" 155 yM_rotation ∈ wA := wA_in 798 (by decide +kernel) (by decide +kernel)
theorem kM_170 : Cond.methodLink "HomeComputerModel" 170 yM_aim ∈ wA := wA_in 802 (by decide +kernel) (by decide +kernel)
theorem kM_74 : Cond.methodLink "HomeComputerModel" 74 yM_signed ∈ wA := wA_in 806 (by decide +kernel) (by decide +kernel)
theorem kM_236 : Cond.methodLink "HomeComputerModel" 236 yM_bit ∈ wA := wA_in 809 (by decide +kernel) (by decide +kernel)
theorem kM_239 : Cond.methodLink "HomeComputerModel" 239 yM_turned ∈ wA := wA_in 813 (by decide +kernel) (by decide +kernel)
theorem kM_113 : Cond.methodLink "HomeComputerModel" 113 yM_turn ∈ wA := wA_in 817 (by decide +kernel) (by decide +kernel)
theorem kM_158 : Cond.methodLink "HomeComputerModel" 158 yM_perform ∈ wA := wA_in 821 (by decide +kernel) (by decide +kernel)
theorem kM_167 : Cond.methodLink "HomeComputerModel" 167 yM_first ∈ wA := wA_in 825 (by decide +kernel) (by decide +kernel)
theorem kM_188 : Cond.methodLink "HomeComputerModel" 188 yM_jump ∈ wA := wA_in 829 (by decide +kernel) (by decide +kernel)
theorem kM_214 : Cond.methodLink "HomeComputerModel" 214 yM_change ∈ wA := wA_in 833 (by decide +kernel) (by decide +kernel)
theorem kM_217 : Cond.methodLink "HomeComputerModel" 217 yM_cond ∈ wA := wA_in 837 (by decide +kernel) (by decide +kernel)
theorem kM_194 : Cond.methodLink "HomeComputerModel" 194 yM_add ∈ wA := wA_in 841 (by decide +kernel) (by decide +kernel)
theorem kM_203 : Cond.methodLink "HomeComputerModel" 203 yM_store ∈ wA := wA_in 845 (by decide +kernel) (by decide +kernel)
theorem kM_207 : Cond.methodLink "HomeComputerModel" 207 yM_single ∈ wA := wA_in 849 (by decide +kernel) (by decide +kernel)
theorem kM_117 : Cond.methodLink "HomeComputerModel" 117 yM_adjust ∈ wA := wA_in 853 (by decide +kernel) (by decide +kernel)
theorem kM_210 : Cond.methodLink "HomeComputerModel" 210 yM_step1 ∈ wA := wA_in 857 (by decide +kernel) (by decide +kernel)
theorem kM_182 : Cond.methodLink "HomeComputerModel" 182 yM_third ∈ wA := wA_in 861 (by decide +kernel) (by decide +kernel)
theorem kM_185 : Cond.methodLink "HomeComputerModel" 185 yM_last ∈ wA := wA_in 865 (by decide +kernel) (by decide +kernel)
theorem kM_233 : Cond.methodLink "HomeComputerModel" 233 yM_odd ∈ wA := wA_in 869 (by decide +kernel) (by decide +kernel)
theorem kL_59 : Cond.methodLink "HomeComputerLaw" 59 yM_frame ∈ wA := wA_in 873 (by decide +kernel) (by decide +kernel)
theorem kL_63 : Cond.methodLink "HomeComputerLaw" 63 yM_look ∈ wA := wA_in 877 (by decide +kernel) (by decide +kernel)
theorem kL_67 : Cond.methodLink "HomeComputerLaw" 67 yM_stripe ∈ wA := wA_in 881 (by decide +kernel) (by decide +kernel)
theorem ka_int : Cond.arrayClass .int ∈ wA := wA_in 35 (by decide +kernel) (by decide +kernel)
theorem ka_boolean : Cond.arrayClass .boolean ∈ wA := wA_in 617 (by decide +kernel) (by decide +kernel)
theorem y_H_poke : xYv wA yH_poke cH_poke 3 none 2 "HomeComputer" := ⟨wA_in 139 (by decide +kernel) (by decide +kernel), wA_in 137 (by decide +kernel) (by decide +kernel), wA_in 138 (by decide +kernel) (by decide +kernel), ki_H, by decide, by decide, by decide +kernel⟩
theorem y_H_load : xYv wA yH_load cH_load 5 (some .boolean) 3 "HomeComputer" := ⟨wA_in 147 (by decide +kernel) (by decide +kernel), wA_in 145 (by decide +kernel) (by decide +kernel), wA_in 146 (by decide +kernel) (by decide +kernel), ki_H, by decide, by decide, by decide +kernel⟩
theorem y_H_peek : xYv wA yH_peek cH_peek 2 (some .int) 1 "HomeComputer" := ⟨wA_in 151 (by decide +kernel) (by decide +kernel), wA_in 149 (by decide +kernel) (by decide +kernel), wA_in 150 (by decide +kernel) (by decide +kernel), ki_H, by decide, by decide, by decide +kernel⟩
theorem y_H_set : xYv wA yH_set cH_set 3 (some .boolean) 2 "HomeComputer" := ⟨wA_in 159 (by decide +kernel) (by decide +kernel), wA_in 157 (by decide +kernel) (by decide +kernel), wA_in 158 (by decide +kernel) (by decide +kernel), ki_H, by decide, by decide, by decide +kernel⟩
theorem y_H_register : xYv wA yH_register cH_register 2 (some .int) 1 "HomeComputer" := ⟨wA_in 171 (by decide +kernel) (by decide +kernel), wA_in 169 (by decide +kernel) (by decide +kernel), wA_in 170 (by decide +kernel) (by decide +kernel), ki_H, by decide, by decide, by decide +kernel⟩
theorem y_H_key : xYv wA yH_key cH_key 4 (some .boolean) 3 "HomeComputer" := ⟨wA_in 179 (by decide +kernel) (by decide +kernel), wA_in 177 (by decide +kernel) (by decide +kernel), wA_in 178 (by decide +kernel) (by decide +kernel), ki_H, by decide, by decide, by decide +kernel⟩
theorem y_H_pulse : xYv wA yH_pulse cH_pulse 2 (some .boolean) 1 "HomeComputer" := ⟨wA_in 187 (by decide +kernel) (by decide +kernel), wA_in 185 (by decide +kernel) (by decide +kernel), wA_in 186 (by decide +kernel) (by decide +kernel), ki_H, by decide, by decide, by decide +kernel⟩
theorem y_H_tape : xYv wA yH_tape cH_tape 2 (some .boolean) 1 "HomeComputer" := ⟨wA_in 199 (by decide +kernel) (by decide +kernel), wA_in 197 (by decide +kernel) (by decide +kernel), wA_in 198 (by decide +kernel) (by decide +kernel), ki_H, by decide, by decide, by decide +kernel⟩
theorem y_H_step : xYv wA yH_step cH_step 4 (some .int) 1 "HomeComputer" := ⟨wA_in 207 (by decide +kernel) (by decide +kernel), wA_in 205 (by decide +kernel) (by decide +kernel), wA_in 206 (by decide +kernel) (by decide +kernel), ki_H, by decide, by decide, by decide +kernel⟩
theorem y_H_frame : xYv wA yH_frame cH_frame 3 (some .int) 0 "HomeComputer" := ⟨wA_in 532 (by decide +kernel) (by decide +kernel), wA_in 530 (by decide +kernel) (by decide +kernel), wA_in 531 (by decide +kernel) (by decide +kernel), ki_H, by decide, by decide, by decide +kernel⟩
theorem y_H_look : xYv wA yH_look cH_look 2 (some .int) 1 "HomeComputer" := ⟨wA_in 540 (by decide +kernel) (by decide +kernel), wA_in 538 (by decide +kernel) (by decide +kernel), wA_in 539 (by decide +kernel) (by decide +kernel), ki_H, by decide, by decide, by decide +kernel⟩
theorem y_H_stripe : xYv wA yH_stripe cH_stripe 2 (some .int) 1 "HomeComputer" := ⟨wA_in 546 (by decide +kernel) (by decide +kernel), wA_in 544 (by decide +kernel) (by decide +kernel), wA_in 545 (by decide +kernel) (by decide +kernel), ki_H, by decide, by decide, by decide +kernel⟩
theorem y_M_pass : xYv wA yM_pass cM_pass 3 none 1 "HomeComputerModel" := ⟨wA_in 678 (by decide +kernel) (by decide +kernel), wA_in 677 (by decide +kernel) (by decide +kernel), wA_sel 47 (by decide +kernel) (by decide +kernel), ki_M, by decide, by decide, by decide +kernel⟩
theorem y_M_slow : xYv wA yM_slow cM_slow 3 none 0 "HomeComputerModel" := ⟨wA_in 694 (by decide +kernel) (by decide +kernel), wA_in 693 (by decide +kernel) (by decide +kernel), wA_sel 51 (by decide +kernel) (by decide +kernel), ki_M, by decide, by decide, by decide +kernel⟩
theorem y_M_reach : xYv wA yM_reach cM_reach 4 none 2 "HomeComputerModel" := ⟨wA_in 690 (by decide +kernel) (by decide +kernel), wA_in 689 (by decide +kernel) (by decide +kernel), wA_sel 50 (by decide +kernel) (by decide +kernel), ki_M, by decide, by decide, by decide +kernel⟩
theorem y_M_read : xYv wA yM_read cM_read 2 (some .int) 1 "HomeComputerModel" := ⟨wA_in 702 (by decide +kernel) (by decide +kernel), wA_in 701 (by decide +kernel) (by decide +kernel), wA_sel 53 (by decide +kernel) (by decide +kernel), ki_M, by decide, by decide, by decide +kernel⟩
theorem y_M_write : xYv wA yM_write cM_write 3 none 2 "HomeComputerModel" := ⟨wA_in 686 (by decide +kernel) (by decide +kernel), wA_in 685 (by decide +kernel) (by decide +kernel), wA_sel 49 (by decide +kernel) (by decide +kernel), ki_M, by decide, by decide, by decide +kernel⟩
theorem y_M_refresh : xYv wA yM_refresh cM_refresh 1 none 0 "HomeComputerModel" := ⟨wA_in 674 (by decide +kernel) (by decide +kernel), wA_in 673 (by decide +kernel) (by decide +kernel), wA_sel 46 (by decide +kernel) (by decide +kernel), ki_M, by decide, by decide, by decide +kernel⟩
theorem y_M_fetch : xYv wA yM_fetch cM_fetch 2 (some .int) 0 "HomeComputerModel" := ⟨wA_in 706 (by decide +kernel) (by decide +kernel), wA_in 705 (by decide +kernel) (by decide +kernel), wA_sel 54 (by decide +kernel) (by decide +kernel), ki_M, by decide, by decide, by decide +kernel⟩
theorem y_M_next : xYv wA yM_next cM_next 2 (some .int) 0 "HomeComputerModel" := ⟨wA_in 773 (by decide +kernel) (by decide +kernel), wA_in 772 (by decide +kernel) (by decide +kernel), wA_sel 69 (by decide +kernel) (by decide +kernel), ki_M, by decide, by decide, by decide +kernel⟩
theorem y_M_signed : xYs wA yM_signed cM_signed 1 (some .int) 1 := ⟨wA_in 808 (by decide +kernel) (by decide +kernel), wA_in 807 (by decide +kernel) (by decide +kernel), ki_M, by decide, by decide, by decide +kernel⟩
theorem y_M_twoNext : xYv wA yM_twoNext cM_twoNext 3 (some .int) 0 "HomeComputerModel" := ⟨wA_in 769 (by decide +kernel) (by decide +kernel), wA_in 768 (by decide +kernel) (by decide +kernel), wA_sel 68 (by decide +kernel) (by decide +kernel), ki_M, by decide, by decide, by decide +kernel⟩
theorem y_M_two : xYv wA yM_two cM_two 4 (some .int) 1 "HomeComputerModel" := ⟨wA_in 698 (by decide +kernel) (by decide +kernel), wA_in 697 (by decide +kernel) (by decide +kernel), wA_sel 52 (by decide +kernel) (by decide +kernel), ki_M, by decide, by decide, by decide +kernel⟩
theorem y_M_setTwo : xYv wA yM_setTwo cM_setTwo 3 none 2 "HomeComputerModel" := ⟨wA_in 785 (by decide +kernel) (by decide +kernel), wA_in 784 (by decide +kernel) (by decide +kernel), wA_sel 72 (by decide +kernel) (by decide +kernel), ki_M, by decide, by decide, by decide +kernel⟩
theorem y_M_pair : xYv wA yM_pair cM_pair 2 (some .int) 1 "HomeComputerModel" := ⟨wA_in 718 (by decide +kernel) (by decide +kernel), wA_in 717 (by decide +kernel) (by decide +kernel), wA_sel 57 (by decide +kernel) (by decide +kernel), ki_M, by decide, by decide, by decide +kernel⟩
theorem y_M_setPair : xYv wA yM_setPair cM_setPair 3 none 2 "HomeComputerModel" := ⟨wA_in 730 (by decide +kernel) (by decide +kernel), wA_in 729 (by decide +kernel) (by decide +kernel), wA_sel 60 (by decide +kernel) (by decide +kernel), ki_M, by decide, by decide, by decide +kernel⟩
theorem y_M_main : xYv wA yM_main cM_main 1 (some .int) 0 "HomeComputerModel" := ⟨wA_in 761 (by decide +kernel) (by decide +kernel), wA_in 760 (by decide +kernel) (by decide +kernel), wA_sel 66 (by decide +kernel) (by decide +kernel), ki_M, by decide, by decide, by decide +kernel⟩
theorem y_M_setMain : xYv wA yM_setMain cM_setMain 2 none 1 "HomeComputerModel" := ⟨wA_in 781 (by decide +kernel) (by decide +kernel), wA_in 780 (by decide +kernel) (by decide +kernel), wA_sel 71 (by decide +kernel) (by decide +kernel), ki_M, by decide, by decide, by decide +kernel⟩
theorem y_M_w : xYv wA yM_w cM_w 2 (some .int) 1 "HomeComputerModel" := ⟨wA_in 757 (by decide +kernel) (by decide +kernel), wA_in 756 (by decide +kernel) (by decide +kernel), wA_sel 65 (by decide +kernel) (by decide +kernel), ki_M, by decide, by decide, by decide +kernel⟩
theorem y_M_setW : xYv wA yM_setW cM_setW 3 none 2 "HomeComputerModel" := ⟨wA_in 777 (by decide +kernel) (by decide +kernel), wA_in 776 (by decide +kernel) (by decide +kernel), wA_sel 70 (by decide +kernel) (by decide +kernel), ki_M, by decide, by decide, by decide +kernel⟩
theorem y_M_aim : xYv wA yM_aim cM_aim 2 none 0 "HomeComputerModel" := ⟨wA_in 805 (by decide +kernel) (by decide +kernel), wA_in 804 (by decide +kernel) (by decide +kernel), wA_sel 77 (by decide +kernel) (by decide +kernel), ki_M, by decide, by decide, by decide +kernel⟩
theorem y_M_get : xYv wA yM_get cM_get 2 (some .int) 1 "HomeComputerModel" := ⟨wA_in 749 (by decide +kernel) (by decide +kernel), wA_in 748 (by decide +kernel) (by decide +kernel), wA_sel 63 (by decide +kernel) (by decide +kernel), ki_M, by decide, by decide, by decide +kernel⟩
theorem y_M_put : xYv wA yM_put cM_put 3 none 2 "HomeComputerModel" := ⟨wA_in 738 (by decide +kernel) (by decide +kernel), wA_in 737 (by decide +kernel) (by decide +kernel), wA_sel 62 (by decide +kernel) (by decide +kernel), ki_M, by decide, by decide, by decide +kernel⟩
theorem y_M_push : xYv wA yM_push cM_push 2 none 1 "HomeComputerModel" := ⟨wA_in 682 (by decide +kernel) (by decide +kernel), wA_in 681 (by decide +kernel) (by decide +kernel), wA_sel 48 (by decide +kernel) (by decide +kernel), ki_M, by decide, by decide, by decide +kernel⟩
theorem y_M_pop : xYv wA yM_pop cM_pop 3 (some .int) 0 "HomeComputerModel" := ⟨wA_in 793 (by decide +kernel) (by decide +kernel), wA_in 792 (by decide +kernel) (by decide +kernel), wA_sel 74 (by decide +kernel) (by decide +kernel), ki_M, by decide, by decide, by decide +kernel⟩
theorem y_M_cond : xYv wA yM_cond cM_cond 3 (some .boolean) 1 "HomeComputerModel" := ⟨wA_in 840 (by decide +kernel) (by decide +kernel), wA_in 839 (by decide +kernel) (by decide +kernel), wA_sel 85 (by decide +kernel) (by decide +kernel), ki_M, by decide, by decide, by decide +kernel⟩
theorem y_M_change : xYv wA yM_change cM_change 4 none 2 "HomeComputerModel" := ⟨wA_in 836 (by decide +kernel) (by decide +kernel), wA_in 835 (by decide +kernel) (by decide +kernel), wA_sel 84 (by decide +kernel) (by decide +kernel), ki_M, by decide, by decide, by decide +kernel⟩
theorem y_M_sum : xYv wA yM_sum cM_sum 9 (some .int) 4 "HomeComputerModel" := ⟨wA_in 726 (by decide +kernel) (by decide +kernel), wA_in 725 (by decide +kernel) (by decide +kernel), wA_sel 59 (by decide +kernel) (by decide +kernel), ki_M, by decide, by decide, by decide +kernel⟩
theorem y_M_difference : xYv wA yM_difference cM_difference 6 (some .int) 4 "HomeComputerModel" := ⟨wA_in 722 (by decide +kernel) (by decide +kernel), wA_in 721 (by decide +kernel) (by decide +kernel), wA_sel 58 (by decide +kernel) (by decide +kernel), ki_M, by decide, by decide, by decide +kernel⟩
theorem y_M_parity : xYs wA yM_parity cM_parity 3 (some .int) 1 := ⟨wA_in 745 (by decide +kernel) (by decide +kernel), wA_in 744 (by decide +kernel) (by decide +kernel), ki_M, by decide, by decide, by decide +kernel⟩
theorem y_M_by : xYs wA yM_by cM_by 1 (some .int) 1 := ⟨wA_in 742 (by decide +kernel) (by decide +kernel), wA_in 741 (by decide +kernel) (by decide +kernel), ki_M, by decide, by decide, by decide +kernel⟩
theorem y_M_rest : xYv wA yM_rest cM_rest 2 (some .int) 1 "HomeComputerModel" := ⟨wA_in 765 (by decide +kernel) (by decide +kernel), wA_in 764 (by decide +kernel) (by decide +kernel), wA_sel 67 (by decide +kernel) (by decide +kernel), ki_M, by decide, by decide, by decide +kernel⟩
theorem y_M_work : xYv wA yM_work cM_work 6 none 2 "HomeComputerModel" := ⟨wA_in 789 (by decide +kernel) (by decide +kernel), wA_in 788 (by decide +kernel) (by decide +kernel), wA_sel 73 (by decide +kernel) (by decide +kernel), ki_M, by decide, by decide, by decide +kernel⟩
theorem y_M_step1 : xYv wA yM_step1 cM_step1 5 (some .int) 2 "HomeComputerModel" := ⟨wA_in 860 (by decide +kernel) (by decide +kernel), wA_in 859 (by decide +kernel) (by decide +kernel), wA_sel 90 (by decide +kernel) (by decide +kernel), ki_M, by decide, by decide, by decide +kernel⟩
theorem y_M_turn : xYv wA yM_turn cM_turn 5 (some .int) 2 "HomeComputerModel" := ⟨wA_in 820 (by decide +kernel) (by decide +kernel), wA_in 819 (by decide +kernel) (by decide +kernel), wA_sel 80 (by decide +kernel) (by decide +kernel), ki_M, by decide, by decide, by decide +kernel⟩
theorem y_M_turned : xYv wA yM_turned cM_turned 4 (some .int) 2 "HomeComputerModel" := ⟨wA_in 816 (by decide +kernel) (by decide +kernel), wA_in 815 (by decide +kernel) (by decide +kernel), wA_sel 79 (by decide +kernel) (by decide +kernel), ki_M, by decide, by decide, by decide +kernel⟩
theorem y_M_bit : xYv wA yM_bit cM_bit 4 none 2 "HomeComputerModel" := ⟨wA_in 812 (by decide +kernel) (by decide +kernel), wA_in 811 (by decide +kernel) (by decide +kernel), wA_sel 78 (by decide +kernel) (by decide +kernel), ki_M, by decide, by decide, by decide +kernel⟩
theorem y_M_adjust : xYv wA yM_adjust cM_adjust 5 none 0 "HomeComputerModel" := ⟨wA_in 856 (by decide +kernel) (by decide +kernel), wA_in 855 (by decide +kernel) (by decide +kernel), wA_sel 89 (by decide +kernel) (by decide +kernel), ki_M, by decide, by decide, by decide +kernel⟩
theorem y_M_single : xYv wA yM_single cM_single 4 none 1 "HomeComputerModel" := ⟨wA_in 852 (by decide +kernel) (by decide +kernel), wA_in 851 (by decide +kernel) (by decide +kernel), wA_sel 88 (by decide +kernel) (by decide +kernel), ki_M, by decide, by decide, by decide +kernel⟩
theorem y_M_over : xYv wA yM_over cM_over 4 (some .int) 1 "HomeComputerModel" := ⟨wA_in 654 (by decide +kernel) (by decide +kernel), wA_in 653 (by decide +kernel) (by decide +kernel), wA_sel 43 (by decide +kernel) (by decide +kernel), ki_M, by decide, by decide, by decide +kernel⟩
theorem y_M_play : xYv wA yM_play cM_play 1 none 0 "HomeComputerModel" := ⟨wA_in 650 (by decide +kernel) (by decide +kernel), wA_in 649 (by decide +kernel) (by decide +kernel), wA_sel 42 (by decide +kernel) (by decide +kernel), ki_M, by decide, by decide, by decide +kernel⟩
theorem y_M_input : xYv wA yM_input cM_input 6 (some .int) 1 "HomeComputerModel" := ⟨wA_in 734 (by decide +kernel) (by decide +kernel), wA_in 733 (by decide +kernel) (by decide +kernel), wA_sel 61 (by decide +kernel) (by decide +kernel), ki_M, by decide, by decide, by decide +kernel⟩
theorem y_M_output : xYv wA yM_output cM_output 3 none 2 "HomeComputerModel" := ⟨wA_in 753 (by decide +kernel) (by decide +kernel), wA_in 752 (by decide +kernel) (by decide +kernel), wA_sel 64 (by decide +kernel) (by decide +kernel), ki_M, by decide, by decide, by decide +kernel⟩
theorem y_M_one : xYv wA yM_one cM_one 3 none 0 "HomeComputerModel" := ⟨wA_in 666 (by decide +kernel) (by decide +kernel), wA_in 665 (by decide +kernel) (by decide +kernel), wA_sel 44 (by decide +kernel) (by decide +kernel), ki_M, by decide, by decide, by decide +kernel⟩
theorem y_M_interrupt : xYv wA yM_interrupt cM_interrupt 1 none 0 "HomeComputerModel" := ⟨wA_in 670 (by decide +kernel) (by decide +kernel), wA_in 669 (by decide +kernel) (by decide +kernel), wA_sel 45 (by decide +kernel) (by decide +kernel), ki_M, by decide, by decide, by decide +kernel⟩
theorem y_M_perform : xYv wA yM_perform cM_perform 5 none 1 "HomeComputerModel" := ⟨wA_in 824 (by decide +kernel) (by decide +kernel), wA_in 823 (by decide +kernel) (by decide +kernel), wA_sel 81 (by decide +kernel) (by decide +kernel), ki_M, by decide, by decide, by decide +kernel⟩
theorem y_M_first : xYv wA yM_first cM_first 5 none 2 "HomeComputerModel" := ⟨wA_in 828 (by decide +kernel) (by decide +kernel), wA_in 827 (by decide +kernel) (by decide +kernel), wA_sel 82 (by decide +kernel) (by decide +kernel), ki_M, by decide, by decide, by decide +kernel⟩
theorem y_M_jump : xYv wA yM_jump cM_jump 3 none 1 "HomeComputerModel" := ⟨wA_in 832 (by decide +kernel) (by decide +kernel), wA_in 831 (by decide +kernel) (by decide +kernel), wA_sel 83 (by decide +kernel) (by decide +kernel), ki_M, by decide, by decide, by decide +kernel⟩
theorem y_M_add : xYv wA yM_add cM_add 3 none 1 "HomeComputerModel" := ⟨wA_in 844 (by decide +kernel) (by decide +kernel), wA_in 843 (by decide +kernel) (by decide +kernel), wA_sel 86 (by decide +kernel) (by decide +kernel), ki_M, by decide, by decide, by decide +kernel⟩
theorem y_M_store : xYv wA yM_store cM_store 4 none 2 "HomeComputerModel" := ⟨wA_in 848 (by decide +kernel) (by decide +kernel), wA_in 847 (by decide +kernel) (by decide +kernel), wA_sel 87 (by decide +kernel) (by decide +kernel), ki_M, by decide, by decide, by decide +kernel⟩
theorem y_M_third : xYv wA yM_third cM_third 3 none 1 "HomeComputerModel" := ⟨wA_in 864 (by decide +kernel) (by decide +kernel), wA_in 863 (by decide +kernel) (by decide +kernel), wA_sel 91 (by decide +kernel) (by decide +kernel), ki_M, by decide, by decide, by decide +kernel⟩
theorem y_M_last : xYv wA yM_last cM_last 7 none 2 "HomeComputerModel" := ⟨wA_in 868 (by decide +kernel) (by decide +kernel), wA_in 867 (by decide +kernel) (by decide +kernel), wA_sel 92 (by decide +kernel) (by decide +kernel), ki_M, by decide, by decide, by decide +kernel⟩
theorem y_M_odd : xYv wA yM_odd cM_odd 3 none 1 "HomeComputerModel" := ⟨wA_in 872 (by decide +kernel) (by decide +kernel), wA_in 871 (by decide +kernel) (by decide +kernel), wA_sel 93 (by decide +kernel) (by decide +kernel), ki_M, by decide, by decide, by decide +kernel⟩
theorem y_M_rotation : xYv wA yM_rotation cM_rotation 7 none 0 "HomeComputerModel" := ⟨wA_in 801 (by decide +kernel) (by decide +kernel), wA_in 800 (by decide +kernel) (by decide +kernel), wA_sel 76 (by decide +kernel) (by decide +kernel), ki_M, by decide, by decide, by decide +kernel⟩
theorem y_M_more : xYv wA yM_more cM_more 8 none 1 "HomeComputerModel" := ⟨wA_in 710 (by decide +kernel) (by decide +kernel), wA_in 709 (by decide +kernel) (by decide +kernel), wA_sel 55 (by decide +kernel) (by decide +kernel), ki_M, by decide, by decide, by decide +kernel⟩
theorem y_M_special : xYv wA yM_special cM_special 4 none 1 "HomeComputerModel" := ⟨wA_in 797 (by decide +kernel) (by decide +kernel), wA_in 796 (by decide +kernel) (by decide +kernel), wA_sel 75 (by decide +kernel) (by decide +kernel), ki_M, by decide, by decide, by decide +kernel⟩
theorem y_M_move : xYv wA yM_move cM_move 9 none 2 "HomeComputerModel" := ⟨wA_in 714 (by decide +kernel) (by decide +kernel), wA_in 713 (by decide +kernel) (by decide +kernel), wA_sel 56 (by decide +kernel) (by decide +kernel), ki_M, by decide, by decide, by decide +kernel⟩
theorem y_M_poke : xYv wA yM_poke cM_poke 3 none 2 "HomeComputerModel" := ⟨wA_in 621 (by decide +kernel) (by decide +kernel), wA_in 619 (by decide +kernel) (by decide +kernel), wA_in 620 (by decide +kernel) (by decide +kernel), ki_M, by decide, by decide, by decide +kernel⟩
theorem y_M_load : xYv wA yM_load cM_load 5 (some .boolean) 3 "HomeComputerModel" := ⟨wA_in 625 (by decide +kernel) (by decide +kernel), wA_in 623 (by decide +kernel) (by decide +kernel), wA_in 624 (by decide +kernel) (by decide +kernel), ki_M, by decide, by decide, by decide +kernel⟩
theorem y_M_peek : xYv wA yM_peek cM_peek 2 (some .int) 1 "HomeComputerModel" := ⟨wA_in 629 (by decide +kernel) (by decide +kernel), wA_in 627 (by decide +kernel) (by decide +kernel), wA_in 628 (by decide +kernel) (by decide +kernel), ki_M, by decide, by decide, by decide +kernel⟩
theorem y_M_set : xYv wA yM_set cM_set 3 (some .boolean) 2 "HomeComputerModel" := ⟨wA_in 633 (by decide +kernel) (by decide +kernel), wA_in 631 (by decide +kernel) (by decide +kernel), wA_in 632 (by decide +kernel) (by decide +kernel), ki_M, by decide, by decide, by decide +kernel⟩
theorem y_M_register : xYv wA yM_register cM_register 2 (some .int) 1 "HomeComputerModel" := ⟨wA_in 638 (by decide +kernel) (by decide +kernel), wA_in 636 (by decide +kernel) (by decide +kernel), wA_in 637 (by decide +kernel) (by decide +kernel), ki_M, by decide, by decide, by decide +kernel⟩
theorem y_M_key : xYv wA yM_key cM_key 4 (some .boolean) 3 "HomeComputerModel" := ⟨wA_in 642 (by decide +kernel) (by decide +kernel), wA_in 640 (by decide +kernel) (by decide +kernel), wA_in 641 (by decide +kernel) (by decide +kernel), ki_M, by decide, by decide, by decide +kernel⟩
theorem y_M_pulse : xYv wA yM_pulse cM_pulse 2 (some .boolean) 1 "HomeComputerModel" := ⟨wA_in 646 (by decide +kernel) (by decide +kernel), wA_in 644 (by decide +kernel) (by decide +kernel), wA_in 645 (by decide +kernel) (by decide +kernel), ki_M, by decide, by decide, by decide +kernel⟩
theorem y_M_tape : xYv wA yM_tape cM_tape 2 (some .boolean) 1 "HomeComputerModel" := ⟨wA_in 658 (by decide +kernel) (by decide +kernel), wA_in 656 (by decide +kernel) (by decide +kernel), wA_in 657 (by decide +kernel) (by decide +kernel), ki_M, by decide, by decide, by decide +kernel⟩
theorem y_M_step : xYv wA yM_step cM_step 4 (some .int) 1 "HomeComputerModel" := ⟨wA_in 662 (by decide +kernel) (by decide +kernel), wA_in 660 (by decide +kernel) (by decide +kernel), wA_in 661 (by decide +kernel) (by decide +kernel), ki_M, by decide, by decide, by decide +kernel⟩
theorem y_M_frame : xYv wA yM_frame cM_frame 3 (some .int) 0 "HomeComputerModel" := ⟨wA_in 876 (by decide +kernel) (by decide +kernel), wA_in 874 (by decide +kernel) (by decide +kernel), wA_in 875 (by decide +kernel) (by decide +kernel), ki_M, by decide, by decide, by decide +kernel⟩
theorem y_M_look : xYv wA yM_look cM_look 2 (some .int) 1 "HomeComputerModel" := ⟨wA_in 880 (by decide +kernel) (by decide +kernel), wA_in 878 (by decide +kernel) (by decide +kernel), wA_in 879 (by decide +kernel) (by decide +kernel), ki_M, by decide, by decide, by decide +kernel⟩
theorem y_M_stripe : xYv wA yM_stripe cM_stripe 2 (some .int) 1 "HomeComputerModel" := ⟨wA_in 884 (by decide +kernel) (by decide +kernel), wA_in 882 (by decide +kernel) (by decide +kernel), wA_in 883 (by decide +kernel) (by decide +kernel), ki_M, by decide, by decide, by decide +kernel⟩
theorem y_A_by : xYs wA yA_by cA_by 1 (some .int) 1 := ⟨wA_in 327 (by decide +kernel) (by decide +kernel), wA_in 326 (by decide +kernel) (by decide +kernel), ki_A, by decide, by decide, by decide +kernel⟩
theorem y_A_byWithParity : xYs wA yA_byWithParity cA_byWithParity 1 (some .int) 1 := ⟨wA_in 324 (by decide +kernel) (by decide +kernel), wA_in 323 (by decide +kernel) (by decide +kernel), ki_A, by decide, by decide, by decide +kernel⟩
theorem y_A_plus : xYs wA yA_plus cA_plus 6 (some .int) 3 := ⟨wA_in 489 (by decide +kernel) (by decide +kernel), wA_in 488 (by decide +kernel) (by decide +kernel), ki_A, by decide, by decide, by decide +kernel⟩
theorem y_A_minus : xYs wA yA_minus cA_minus 6 (some .int) 3 := ⟨wA_in 375 (by decide +kernel) (by decide +kernel), wA_in 374 (by decide +kernel) (by decide +kernel), ki_A, by decide, by decide, by decide +kernel⟩
theorem y_A_compared : xYs wA yA_compared cA_compared 2 (some .int) 2 := ⟨wA_in 506 (by decide +kernel) (by decide +kernel), wA_in 505 (by decide +kernel) (by decide +kernel), ki_A, by decide, by decide, by decide +kernel⟩
theorem y_A_logic : xYs wA yA_logic cA_logic 1 (some .int) 1 := ⟨wA_in 503 (by decide +kernel) (by decide +kernel), wA_in 502 (by decide +kernel) (by decide +kernel), ki_A, by decide, by decide, by decide +kernel⟩
theorem y_A_plusWide : xYs wA yA_plusWide cA_plusWide 6 (some .int) 3 := ⟨wA_in 409 (by decide +kernel) (by decide +kernel), wA_in 408 (by decide +kernel) (by decide +kernel), ki_A, by decide, by decide, by decide +kernel⟩
theorem y_A_minusWide : xYs wA yA_minusWide cA_minusWide 6 (some .int) 3 := ⟨wA_in 417 (by decide +kernel) (by decide +kernel), wA_in 416 (by decide +kernel) (by decide +kernel), ki_A, by decide, by decide, by decide +kernel⟩
theorem y_A_byWide : xYs wA yA_byWide cA_byWide 1 (some .int) 1 := ⟨wA_in 413 (by decide +kernel) (by decide +kernel), wA_in 412 (by decide +kernel) (by decide +kernel), ki_A, by decide, by decide, by decide +kernel⟩
theorem y_A_turned : xYs wA yA_turned cA_turned 7 (some .int) 3 := ⟨wA_in 318 (by decide +kernel) (by decide +kernel), wA_in 317 (by decide +kernel) (by decide +kernel), ki_A, by decide, by decide, by decide +kernel⟩
theorem y_A_comesIn : xYs wA yA_comesIn cA_comesIn 4 (some .int) 4 := ⟨wA_in 321 (by decide +kernel) (by decide +kernel), wA_in 320 (by decide +kernel) (by decide +kernel), ki_A, by decide, by decide, by decide +kernel⟩
theorem y_A_bitFlags : xYs wA yA_bitFlags cA_bitFlags 4 (some .int) 3 := ⟨wA_in 311 (by decide +kernel) (by decide +kernel), wA_in 310 (by decide +kernel) (by decide +kernel), ki_A, by decide, by decide, by decide +kernel⟩
theorem y_A_adjusted : xYs wA yA_adjusted cA_adjusted 5 (some .int) 2 := ⟨wA_in 496 (by decide +kernel) (by decide +kernel), wA_in 495 (by decide +kernel) (by decide +kernel), ki_A, by decide, by decide, by decide +kernel⟩
theorem y_B_byteAt : xYv wA yB_byteAt cB_byteAt 2 (some .int) 1 "HomeComputer$Board" := ⟨wA_in 155 (by decide +kernel) (by decide +kernel), wA_in 153 (by decide +kernel) (by decide +kernel), wA_in 154 (by decide +kernel) (by decide +kernel), ki_B, by decide, by decide, by decide +kernel⟩
theorem y_B_place : xYv wA yB_place cB_place 3 none 2 "HomeComputer$Board" := ⟨wA_in 143 (by decide +kernel) (by decide +kernel), wA_in 141 (by decide +kernel) (by decide +kernel), wA_in 142 (by decide +kernel) (by decide +kernel), ki_B, by decide, by decide, by decide +kernel⟩
theorem y_B_frames : xYv wA yB_frames cB_frames 1 (some .int) 0 "HomeComputer$Board" := ⟨wA_in 536 (by decide +kernel) (by decide +kernel), wA_in 534 (by decide +kernel) (by decide +kernel), wA_in 535 (by decide +kernel) (by decide +kernel), ki_B, by decide, by decide, by decide +kernel⟩
theorem y_B_tickOfFrame : xYv wA yB_tickOfFrame cB_tickOfFrame 1 (some .int) 0 "HomeComputer$Board" := ⟨wA_in 215 (by decide +kernel) (by decide +kernel), wA_in 213 (by decide +kernel) (by decide +kernel), wA_in 214 (by decide +kernel) (by decide +kernel), ki_B, by decide, by decide, by decide +kernel⟩
theorem y_B_pass : xYv wA yB_pass cB_pass 3 none 1 "HomeComputer$Board" := ⟨wA_in 227 (by decide +kernel) (by decide +kernel), wA_in 225 (by decide +kernel) (by decide +kernel), wA_in 226 (by decide +kernel) (by decide +kernel), ki_B, by decide, by decide, by decide +kernel⟩
theorem y_B_fetchAt : xYv wA yB_fetchAt cB_fetchAt 2 (some .int) 1 "HomeComputer$Board" := ⟨wA_in 258 (by decide +kernel) (by decide +kernel), wA_in 256 (by decide +kernel) (by decide +kernel), wA_in 257 (by decide +kernel) (by decide +kernel), ki_B, by decide, by decide, by decide +kernel⟩
theorem y_B_read : xYv wA yB_read cB_read 2 (some .int) 1 "HomeComputer$Board" := ⟨wA_in 253 (by decide +kernel) (by decide +kernel), wA_in 251 (by decide +kernel) (by decide +kernel), wA_in 252 (by decide +kernel) (by decide +kernel), ki_B, by decide, by decide, by decide +kernel⟩
theorem y_B_write : xYv wA yB_write cB_write 3 none 2 "HomeComputer$Board" := ⟨wA_in 236 (by decide +kernel) (by decide +kernel), wA_in 234 (by decide +kernel) (by decide +kernel), wA_in 235 (by decide +kernel) (by decide +kernel), ki_B, by decide, by decide, by decide +kernel⟩
theorem y_B_readPort : xYv wA yB_readPort cB_readPort 3 (some .int) 1 "HomeComputer$Board" := ⟨wA_in 383 (by decide +kernel) (by decide +kernel), wA_in 381 (by decide +kernel) (by decide +kernel), wA_in 382 (by decide +kernel) (by decide +kernel), ki_B, by decide, by decide, by decide +kernel⟩
theorem y_B_writePort : xYv wA yB_writePort cB_writePort 4 none 2 "HomeComputer$Board" := ⟨wA_in 397 (by decide +kernel) (by decide +kernel), wA_in 395 (by decide +kernel) (by decide +kernel), wA_in 396 (by decide +kernel) (by decide +kernel), ki_B, by decide, by decide, by decide +kernel⟩
theorem y_B_isShared : xYs wA yB_isShared cB_isShared 1 (some .boolean) 1 := ⟨wA_in 239 (by decide +kernel) (by decide +kernel), wA_in 238 (by decide +kernel) (by decide +kernel), ki_B, by decide, by decide, by decide +kernel⟩
theorem y_B_delay : xYv wA yB_delay cB_delay 4 (some .int) 1 "HomeComputer$Board" := ⟨wA_in 243 (by decide +kernel) (by decide +kernel), wA_in 242 (by decide +kernel) (by decide +kernel), wA_sel 3 (by decide +kernel) (by decide +kernel), ki_B, by decide, by decide, by decide +kernel⟩
theorem y_K_move : xYv wA yK_move cK_move 5 (some .boolean) 3 "HomeComputer$Keyboard" := ⟨wA_in 183 (by decide +kernel) (by decide +kernel), wA_in 181 (by decide +kernel) (by decide +kernel), wA_in 182 (by decide +kernel) (by decide +kernel), ki_K, by decide, by decide, by decide +kernel⟩
theorem y_K_upIn : xYv wA yK_upIn cK_upIn 4 (some .int) 1 "HomeComputer$Keyboard" := ⟨wA_in 392 (by decide +kernel) (by decide +kernel), wA_in 390 (by decide +kernel) (by decide +kernel), wA_in 391 (by decide +kernel) (by decide +kernel), ki_K, by decide, by decide, by decide +kernel⟩
theorem y_P_next : xYv wA yP_next cP_next 5 none 0 "HomeComputer$Processor" := ⟨wA_in 211 (by decide +kernel) (by decide +kernel), wA_in 209 (by decide +kernel) (by decide +kernel), wA_in 210 (by decide +kernel) (by decide +kernel), ki_P, by decide, by decide, by decide +kernel⟩
theorem y_P_takeInterrupt : xYv wA yP_takeInterrupt cP_takeInterrupt 1 none 0 "HomeComputer$Processor" := ⟨wA_in 219 (by decide +kernel) (by decide +kernel), wA_in 218 (by decide +kernel) (by decide +kernel), wA_sel 0 (by decide +kernel) (by decide +kernel), ki_P, by decide, by decide, by decide +kernel⟩
theorem y_P_refresh : xYv wA yP_refresh cP_refresh 2 none 0 "HomeComputer$Processor" := ⟨wA_in 223 (by decide +kernel) (by decide +kernel), wA_in 222 (by decide +kernel) (by decide +kernel), wA_sel 1 (by decide +kernel) (by decide +kernel), ki_P, by decide, by decide, by decide +kernel⟩
theorem y_P_fetch : xYv wA yP_fetch cP_fetch 2 (some .int) 0 "HomeComputer$Processor" := ⟨wA_in 266 (by decide +kernel) (by decide +kernel), wA_in 265 (by decide +kernel) (by decide +kernel), wA_sel 6 (by decide +kernel) (by decide +kernel), ki_P, by decide, by decide, by decide +kernel⟩
theorem y_P_fetchBehindPrefixes : xYv wA yP_fetchBehindPrefixes cP_fetchBehindPrefixes 3 (some .int) 0 "HomeComputer$Processor" := ⟨wA_in 262 (by decide +kernel) (by decide +kernel), wA_in 261 (by decide +kernel) (by decide +kernel), wA_sel 5 (by decide +kernel) (by decide +kernel), ki_P, by decide, by decide, by decide +kernel⟩
theorem y_P_isPrefix : xYs wA yP_isPrefix cP_isPrefix 1 (some .boolean) 1 := ⟨wA_in 273 (by decide +kernel) (by decide +kernel), wA_in 272 (by decide +kernel) (by decide +kernel), ki_P, by decide, by decide, by decide +kernel⟩
theorem y_P_hasM : xYs wA yP_hasM cP_hasM 3 (some .boolean) 1 := ⟨wA_in 276 (by decide +kernel) (by decide +kernel), wA_in 275 (by decide +kernel) (by decide +kernel), ki_P, by decide, by decide, by decide +kernel⟩
theorem y_P_findM : xYv wA yP_findM cP_findM 1 none 0 "HomeComputer$Processor" := ⟨wA_in 280 (by decide +kernel) (by decide +kernel), wA_in 279 (by decide +kernel) (by decide +kernel), wA_sel 8 (by decide +kernel) (by decide +kernel), ki_P, by decide, by decide, by decide +kernel⟩
theorem y_P_movePc : xYv wA yP_movePc cP_movePc 2 none 1 "HomeComputer$Processor" := ⟨wA_in 270 (by decide +kernel) (by decide +kernel), wA_in 269 (by decide +kernel) (by decide +kernel), wA_sel 7 (by decide +kernel) (by decide +kernel), ki_P, by decide, by decide, by decide +kernel⟩
theorem y_P_nextByte : xYv wA yP_nextByte cP_nextByte 2 (some .int) 0 "HomeComputer$Processor" := ⟨wA_in 292 (by decide +kernel) (by decide +kernel), wA_in 291 (by decide +kernel) (by decide +kernel), wA_sel 9 (by decide +kernel) (by decide +kernel), ki_P, by decide, by decide, by decide +kernel⟩
theorem y_P_nextWord : xYv wA yP_nextWord cP_nextWord 3 (some .int) 0 "HomeComputer$Processor" := ⟨wA_in 425 (by decide +kernel) (by decide +kernel), wA_in 424 (by decide +kernel) (by decide +kernel), wA_sel 23 (by decide +kernel) (by decide +kernel), ki_P, by decide, by decide, by decide +kernel⟩
theorem y_P_readWord : xYv wA yP_readWord cP_readWord 3 (some .int) 1 "HomeComputer$Processor" := ⟨wA_in 249 (by decide +kernel) (by decide +kernel), wA_in 248 (by decide +kernel) (by decide +kernel), wA_sel 4 (by decide +kernel) (by decide +kernel), ki_P, by decide, by decide, by decide +kernel⟩
theorem y_P_writeWord : xYv wA yP_writeWord cP_writeWord 3 none 2 "HomeComputer$Processor" := ⟨wA_in 434 (by decide +kernel) (by decide +kernel), wA_in 433 (by decide +kernel) (by decide +kernel), wA_sel 24 (by decide +kernel) (by decide +kernel), ki_P, by decide, by decide, by decide +kernel⟩
theorem y_P_operand : xYv wA yP_operand cP_operand 2 (some .int) 1 "HomeComputer$Processor" := ⟨wA_in 300 (by decide +kernel) (by decide +kernel), wA_in 299 (by decide +kernel) (by decide +kernel), wA_sel 11 (by decide +kernel) (by decide +kernel), ki_P, by decide, by decide, by decide +kernel⟩
theorem y_P_setOperand : xYv wA yP_setOperand cP_setOperand 3 none 2 "HomeComputer$Processor" := ⟨wA_in 337 (by decide +kernel) (by decide +kernel), wA_in 336 (by decide +kernel) (by decide +kernel), wA_sel 14 (by decide +kernel) (by decide +kernel), ki_P, by decide, by decide, by decide +kernel⟩
theorem y_P_push : xYv wA yP_push cP_push 2 none 1 "HomeComputer$Processor" := ⟨wA_in 231 (by decide +kernel) (by decide +kernel), wA_in 230 (by decide +kernel) (by decide +kernel), wA_sel 2 (by decide +kernel) (by decide +kernel), ki_P, by decide, by decide, by decide +kernel⟩
theorem y_P_pop : xYv wA yP_pop cP_pop 2 (some .int) 0 "HomeComputer$Processor" := ⟨wA_in 438 (by decide +kernel) (by decide +kernel), wA_in 437 (by decide +kernel) (by decide +kernel), wA_sel 25 (by decide +kernel) (by decide +kernel), ki_P, by decide, by decide, by decide +kernel⟩
theorem y_P_call : xYv wA yP_call cP_call 2 none 1 "HomeComputer$Processor" := ⟨wA_in 524 (by decide +kernel) (by decide +kernel), wA_in 523 (by decide +kernel) (by decide +kernel), wA_sel 40 (by decide +kernel) (by decide +kernel), ki_P, by decide, by decide, by decide +kernel⟩
theorem y_P_condition : xYv wA yP_condition cP_condition 3 (some .boolean) 1 "HomeComputer$Processor" := ⟨wA_in 470 (by decide +kernel) (by decide +kernel), wA_in 469 (by decide +kernel) (by decide +kernel), wA_sel 30 (by decide +kernel) (by decide +kernel), ki_P, by decide, by decide, by decide +kernel⟩
theorem y_P_carry : xYv wA yP_carry cP_carry 1 (some .int) 0 "HomeComputer$Processor" := ⟨wA_in 308 (by decide +kernel) (by decide +kernel), wA_in 307 (by decide +kernel) (by decide +kernel), wA_sel 12 (by decide +kernel) (by decide +kernel), ki_P, by decide, by decide, by decide +kernel⟩
theorem y_P_setFlags : xYv wA yP_setFlags cP_setFlags 3 none 2 "HomeComputer$Processor" := ⟨wA_in 368 (by decide +kernel) (by decide +kernel), wA_in 367 (by decide +kernel) (by decide +kernel), wA_sel 18 (by decide +kernel) (by decide +kernel), ki_P, by decide, by decide, by decide +kernel⟩
theorem y_P_doFirst : xYv wA yP_doFirst cP_doFirst 5 none 2 "HomeComputer$Processor" := ⟨wA_in 454 (by decide +kernel) (by decide +kernel), wA_in 453 (by decide +kernel) (by decide +kernel), wA_sel 28 (by decide +kernel) (by decide +kernel), ki_P, by decide, by decide, by decide +kernel⟩
theorem y_P_moveNear : xYv wA yP_moveNear cP_moveNear 4 none 1 "HomeComputer$Processor" := ⟨wA_in 458 (by decide +kernel) (by decide +kernel), wA_in 457 (by decide +kernel) (by decide +kernel), wA_sel 29 (by decide +kernel) (by decide +kernel), ki_P, by decide, by decide, by decide +kernel⟩
theorem y_P_addPair : xYv wA yP_addPair cP_addPair 4 none 1 "HomeComputer$Processor" := ⟨wA_in 474 (by decide +kernel) (by decide +kernel), wA_in 473 (by decide +kernel) (by decide +kernel), wA_sel 31 (by decide +kernel) (by decide +kernel), ki_P, by decide, by decide, by decide +kernel⟩
theorem y_P_putAt : xYv wA yP_putAt cP_putAt 3 none 1 "HomeComputer$Processor" := ⟨wA_in 482 (by decide +kernel) (by decide +kernel), wA_in 481 (by decide +kernel) (by decide +kernel), wA_sel 33 (by decide +kernel) (by decide +kernel), ki_P, by decide, by decide, by decide +kernel⟩
theorem y_P_takeFrom : xYv wA yP_takeFrom cP_takeFrom 3 none 1 "HomeComputer$Processor" := ⟨wA_in 478 (by decide +kernel) (by decide +kernel), wA_in 477 (by decide +kernel) (by decide +kernel), wA_sel 32 (by decide +kernel) (by decide +kernel), ki_P, by decide, by decide, by decide +kernel⟩
theorem y_P_count : xYv wA yP_count cP_count 5 none 2 "HomeComputer$Processor" := ⟨wA_in 486 (by decide +kernel) (by decide +kernel), wA_in 485 (by decide +kernel) (by decide +kernel), wA_sel 34 (by decide +kernel) (by decide +kernel), ki_P, by decide, by decide, by decide +kernel⟩
theorem y_P_changeA : xYv wA yP_changeA cP_changeA 5 none 1 "HomeComputer$Processor" := ⟨wA_in 493 (by decide +kernel) (by decide +kernel), wA_in 492 (by decide +kernel) (by decide +kernel), wA_sel 35 (by decide +kernel) (by decide +kernel), ki_P, by decide, by decide, by decide +kernel⟩
theorem y_P_operate : xYv wA yP_operate cP_operate 5 none 2 "HomeComputer$Processor" := ⟨wA_in 500 (by decide +kernel) (by decide +kernel), wA_in 499 (by decide +kernel) (by decide +kernel), wA_sel 36 (by decide +kernel) (by decide +kernel), ki_P, by decide, by decide, by decide +kernel⟩
theorem y_P_doLast : xYv wA yP_doLast cP_doLast 4 none 2 "HomeComputer$Processor" := ⟨wA_in 528 (by decide +kernel) (by decide +kernel), wA_in 527 (by decide +kernel) (by decide +kernel), wA_sel 41 (by decide +kernel) (by decide +kernel), ki_P, by decide, by decide, by decide +kernel⟩
theorem y_P_popOrGo : xYv wA yP_popOrGo cP_popOrGo 2 none 1 "HomeComputer$Processor" := ⟨wA_in 511 (by decide +kernel) (by decide +kernel), wA_in 510 (by decide +kernel) (by decide +kernel), wA_sel 37 (by decide +kernel) (by decide +kernel), ki_P, by decide, by decide, by decide +kernel⟩
theorem y_P_pushOrCall : xYv wA yP_pushOrCall cP_pushOrCall 2 none 1 "HomeComputer$Processor" := ⟨wA_in 520 (by decide +kernel) (by decide +kernel), wA_in 519 (by decide +kernel) (by decide +kernel), wA_sel 39 (by decide +kernel) (by decide +kernel), ki_P, by decide, by decide, by decide +kernel⟩
theorem y_P_doMixed : xYv wA yP_doMixed cP_doMixed 4 none 1 "HomeComputer$Processor" := ⟨wA_in 515 (by decide +kernel) (by decide +kernel), wA_in 514 (by decide +kernel) (by decide +kernel), wA_sel 38 (by decide +kernel) (by decide +kernel), ki_P, by decide, by decide, by decide +kernel⟩
theorem y_P_rotate : xYv wA yP_rotate cP_rotate 7 none 0 "HomeComputer$Processor" := ⟨wA_in 296 (by decide +kernel) (by decide +kernel), wA_in 295 (by decide +kernel) (by decide +kernel), wA_sel 10 (by decide +kernel) (by decide +kernel), ki_P, by decide, by decide, by decide +kernel⟩
theorem y_P_changedByte : xYv wA yP_changedByte cP_changedByte 5 (some .int) 3 "HomeComputer$Processor" := ⟨wA_in 315 (by decide +kernel) (by decide +kernel), wA_in 314 (by decide +kernel) (by decide +kernel), wA_sel 13 (by decide +kernel) (by decide +kernel), ki_P, by decide, by decide, by decide +kernel⟩
theorem y_P_more : xYv wA yP_more cP_more 4 none 1 "HomeComputer$Processor" := ⟨wA_in 346 (by decide +kernel) (by decide +kernel), wA_in 345 (by decide +kernel) (by decide +kernel), wA_sel 15 (by decide +kernel) (by decide +kernel), ki_P, by decide, by decide, by decide +kernel⟩
theorem y_P_takeFromPort : xYv wA yP_takeFromPort cP_takeFromPort 3 none 1 "HomeComputer$Processor" := ⟨wA_in 379 (by decide +kernel) (by decide +kernel), wA_in 378 (by decide +kernel) (by decide +kernel), wA_sel 20 (by decide +kernel) (by decide +kernel), ki_P, by decide, by decide, by decide +kernel⟩
theorem y_P_sumWithCarry : xYv wA yP_sumWithCarry cP_sumWithCarry 4 none 1 "HomeComputer$Processor" := ⟨wA_in 401 (by decide +kernel) (by decide +kernel), wA_in 400 (by decide +kernel) (by decide +kernel), wA_sel 21 (by decide +kernel) (by decide +kernel), ki_P, by decide, by decide, by decide +kernel⟩
theorem y_P_passPair : xYv wA yP_passPair cP_passPair 3 none 1 "HomeComputer$Processor" := ⟨wA_in 421 (by decide +kernel) (by decide +kernel), wA_in 420 (by decide +kernel) (by decide +kernel), wA_sel 22 (by decide +kernel) (by decide +kernel), ki_P, by decide, by decide, by decide +kernel⟩
theorem y_P_doSpecial : xYv wA yP_doSpecial cP_doSpecial 3 none 1 "HomeComputer$Processor" := ⟨wA_in 445 (by decide +kernel) (by decide +kernel), wA_in 444 (by decide +kernel) (by decide +kernel), wA_sel 26 (by decide +kernel) (by decide +kernel), ki_P, by decide, by decide, by decide +kernel⟩
theorem y_P_turnTwelveBits : xYv wA yP_turnTwelveBits cP_turnTwelveBits 5 none 1 "HomeComputer$Processor" := ⟨wA_in 450 (by decide +kernel) (by decide +kernel), wA_in 449 (by decide +kernel) (by decide +kernel), wA_sel 27 (by decide +kernel) (by decide +kernel), ki_P, by decide, by decide, by decide +kernel⟩
theorem y_P_moveByte : xYv wA yP_moveByte cP_moveByte 5 none 1 "HomeComputer$Processor" := ⟨wA_in 350 (by decide +kernel) (by decide +kernel), wA_in 349 (by decide +kernel) (by decide +kernel), wA_sel 16 (by decide +kernel) (by decide +kernel), ki_P, by decide, by decide, by decide +kernel⟩
theorem y_P_lookAtByte : xYv wA yP_lookAtByte cP_lookAtByte 6 none 1 "HomeComputer$Processor" := ⟨wA_in 372 (by decide +kernel) (by decide +kernel), wA_in 371 (by decide +kernel) (by decide +kernel), wA_sel 19 (by decide +kernel) (by decide +kernel), ki_P, by decide, by decide, by decide +kernel⟩
theorem y_P_advance : xYv wA yP_advance cP_advance 4 (some .int) 2 "HomeComputer$Processor" := ⟨wA_in 359 (by decide +kernel) (by decide +kernel), wA_in 358 (by decide +kernel) (by decide +kernel), wA_sel 17 (by decide +kernel) (by decide +kernel), ki_P, by decide, by decide, by decide +kernel⟩
theorem y_T_append : xYv wA yT_append cT_append 2 (some .boolean) 1 "HomeComputer$Recorder" := ⟨wA_in 195 (by decide +kernel) (by decide +kernel), wA_in 193 (by decide +kernel) (by decide +kernel), wA_in 194 (by decide +kernel) (by decide +kernel), ki_T, by decide, by decide, by decide +kernel⟩
theorem y_T_command : xYv wA yT_command cT_command 3 (some .boolean) 2 "HomeComputer$Recorder" := ⟨wA_in 203 (by decide +kernel) (by decide +kernel), wA_in 201 (by decide +kernel) (by decide +kernel), wA_in 202 (by decide +kernel) (by decide +kernel), ki_T, by decide, by decide, by decide +kernel⟩
theorem y_T_follow : xYv wA yT_follow cT_follow 2 none 1 "HomeComputer$Recorder" := ⟨wA_in 191 (by decide +kernel) (by decide +kernel), wA_in 189 (by decide +kernel) (by decide +kernel), wA_in 190 (by decide +kernel) (by decide +kernel), ki_T, by decide, by decide, by decide +kernel⟩
theorem y_T_level : xYv wA yT_level cT_level 1 (some .int) 0 "HomeComputer$Recorder" := ⟨wA_in 388 (by decide +kernel) (by decide +kernel), wA_in 386 (by decide +kernel) (by decide +kernel), wA_in 387 (by decide +kernel) (by decide +kernel), ki_T, by decide, by decide, by decide +kernel⟩
theorem y_G_change : xYv wA yG_change cG_change 3 (some .boolean) 2 "HomeComputer$Registers" := ⟨wA_in 163 (by decide +kernel) (by decide +kernel), wA_in 161 (by decide +kernel) (by decide +kernel), wA_in 162 (by decide +kernel) (by decide +kernel), ki_G, by decide, by decide, by decide +kernel⟩
theorem y_G_widest : xYs wA yG_widest cG_widest 1 (some .int) 1 := ⟨wA_in 166 (by decide +kernel) (by decide +kernel), wA_in 165 (by decide +kernel) (by decide +kernel), ki_G, by decide, by decide, by decide +kernel⟩
theorem y_G_tell : xYv wA yG_tell cG_tell 2 (some .int) 1 "HomeComputer$Registers" := ⟨wA_in 175 (by decide +kernel) (by decide +kernel), wA_in 173 (by decide +kernel) (by decide +kernel), wA_in 174 (by decide +kernel) (by decide +kernel), ki_G, by decide, by decide, by decide +kernel⟩
theorem y_G_joined : xYv wA yG_joined cG_joined 2 (some .int) 1 "HomeComputer$Registers" := ⟨wA_in 288 (by decide +kernel) (by decide +kernel), wA_in 286 (by decide +kernel) (by decide +kernel), wA_in 287 (by decide +kernel) (by decide +kernel), ki_G, by decide, by decide, by decide +kernel⟩
theorem y_G_split : xYv wA yG_split cG_split 3 none 2 "HomeComputer$Registers" := ⟨wA_in 355 (by decide +kernel) (by decide +kernel), wA_in 353 (by decide +kernel) (by decide +kernel), wA_in 354 (by decide +kernel) (by decide +kernel), ki_G, by decide, by decide, by decide +kernel⟩
theorem y_G_hl : xYv wA yG_hl cG_hl 1 (some .int) 0 "HomeComputer$Registers" := ⟨wA_in 284 (by decide +kernel) (by decide +kernel), wA_in 282 (by decide +kernel) (by decide +kernel), wA_in 283 (by decide +kernel) (by decide +kernel), ki_G, by decide, by decide, by decide +kernel⟩
theorem y_G_setHl : xYv wA yG_setHl cG_setHl 2 none 1 "HomeComputer$Registers" := ⟨wA_in 363 (by decide +kernel) (by decide +kernel), wA_in 361 (by decide +kernel) (by decide +kernel), wA_in 362 (by decide +kernel) (by decide +kernel), ki_G, by decide, by decide, by decide +kernel⟩
theorem y_G_pair : xYv wA yG_pair cG_pair 2 (some .int) 1 "HomeComputer$Registers" := ⟨wA_in 405 (by decide +kernel) (by decide +kernel), wA_in 403 (by decide +kernel) (by decide +kernel), wA_in 404 (by decide +kernel) (by decide +kernel), ki_G, by decide, by decide, by decide +kernel⟩
theorem y_G_setPair : xYv wA yG_setPair cG_setPair 3 none 2 "HomeComputer$Registers" := ⟨wA_in 429 (by decide +kernel) (by decide +kernel), wA_in 427 (by decide +kernel) (by decide +kernel), wA_in 428 (by decide +kernel) (by decide +kernel), ki_G, by decide, by decide, by decide +kernel⟩
theorem y_G_single : xYv wA yG_single cG_single 2 (some .int) 1 "HomeComputer$Registers" := ⟨wA_in 304 (by decide +kernel) (by decide +kernel), wA_in 302 (by decide +kernel) (by decide +kernel), wA_in 303 (by decide +kernel) (by decide +kernel), ki_G, by decide, by decide, by decide +kernel⟩
theorem y_G_setSingle : xYv wA yG_setSingle cG_setSingle 3 none 2 "HomeComputer$Registers" := ⟨wA_in 341 (by decide +kernel) (by decide +kernel), wA_in 339 (by decide +kernel) (by decide +kernel), wA_in 340 (by decide +kernel) (by decide +kernel), ki_G, by decide, by decide, by decide +kernel⟩
theorem y_G_swap : xYv wA yG_swap cG_swap 4 none 2 "HomeComputer$Registers" := ⟨wA_in 466 (by decide +kernel) (by decide +kernel), wA_in 464 (by decide +kernel) (by decide +kernel), wA_in 465 (by decide +kernel) (by decide +kernel), ki_G, by decide, by decide, by decide +kernel⟩
theorem y_G_swapWithSecond : xYv wA yG_swapWithSecond cG_swapWithSecond 4 none 2 "HomeComputer$Registers" := ⟨wA_in 462 (by decide +kernel) (by decide +kernel), wA_in 460 (by decide +kernel) (by decide +kernel), wA_in 461 (by decide +kernel) (by decide +kernel), ki_G, by decide, by decide, by decide +kernel⟩
theorem y_I_bitCount : xYs wA yI_bitCount cI_bitCount 1 (some .int) 1 := ⟨wA_in 330 (by decide +kernel) (by decide +kernel), wA_in 329 (by decide +kernel) (by decide +kernel), ki_I, by decide, by decide, by decide +kernel⟩
theorem kx_static : Cond.static Lib.Math.max.name ∈ wA := wA_in 440 (by decide +kernel) (by decide +kernel)
theorem kx_code : Cond.code Lib.Math.max.name Lib.Math.max.code 2 (some .int) ∈ wA := wA_in 441 (by decide +kernel) (by decide +kernel)
end

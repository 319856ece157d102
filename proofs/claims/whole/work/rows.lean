section
-- ===== PART A: goes FIRST, ahead of the names: the tables' words, and 'selects' of the private methods out of them =====
/-- a private method of a class that the tables say can be made, by its rows of tables_1 -/
def lw_okq (q : MethodName × Nat) : Prop := (q.1.cls ≠ "java/lang/invoke/MethodHandle" ∧ q.1.cls ≠ "java/lang/invoke/VarHandle") ∧ Cond.instantiable q.1.cls q.2 ∈ tables_1 ∧ Cond.privateMethod q.1 ∈ tables_1 ∧ Cond.instanceMethod q.1 ∈ tables_1
theorem lw_p0 : lw_okq (⟨"InvaderBoard", "resetParts", "()V"⟩, 4) := ⟨⟨by decide +kernel, by decide +kernel⟩, List.mem_of_getElem? (i := 15) (by decide +kernel), List.mem_of_getElem? (i := 135) (by decide +kernel), List.mem_of_getElem? (i := 136) (by decide +kernel)⟩
theorem lw_p1 : lw_okq (⟨"InvaderBoard", "advance", "(I)I"⟩, 4) := ⟨⟨by decide +kernel, by decide +kernel⟩, List.mem_of_getElem? (i := 15) (by decide +kernel), List.mem_of_getElem? (i := 159) (by decide +kernel), List.mem_of_getElem? (i := 160) (by decide +kernel)⟩
theorem lw_p2 : lw_okq (⟨"InvaderBoard$Processor", "push", "(I)V"⟩, 9) := ⟨⟨by decide +kernel, by decide +kernel⟩, List.mem_of_getElem? (i := 63) (by decide +kernel), List.mem_of_getElem? (i := 171) (by decide +kernel), List.mem_of_getElem? (i := 172) (by decide +kernel)⟩
theorem lw_p3 : lw_okq (⟨"InvaderBoard$Processor", "fetch", "()I"⟩, 9) := ⟨⟨by decide +kernel, by decide +kernel⟩, List.mem_of_getElem? (i := 63) (by decide +kernel), List.mem_of_getElem? (i := 196) (by decide +kernel), List.mem_of_getElem? (i := 197) (by decide +kernel)⟩
theorem lw_p4 : lw_okq (⟨"InvaderBoard$Processor", "executeLow", "(I)V"⟩, 9) := ⟨⟨by decide +kernel, by decide +kernel⟩, List.mem_of_getElem? (i := 63) (by decide +kernel), List.mem_of_getElem? (i := 207) (by decide +kernel), List.mem_of_getElem? (i := 208) (by decide +kernel)⟩
theorem lw_p5 : lw_okq (⟨"InvaderBoard$Processor", "pairOrSp", "(I)I"⟩, 9) := ⟨⟨by decide +kernel, by decide +kernel⟩, List.mem_of_getElem? (i := 63) (by decide +kernel), List.mem_of_getElem? (i := 211) (by decide +kernel), List.mem_of_getElem? (i := 212) (by decide +kernel)⟩
theorem lw_p6 : lw_okq (⟨"InvaderBoard$Processor", "pairAt", "(I)I"⟩, 9) := ⟨⟨by decide +kernel, by decide +kernel⟩, List.mem_of_getElem? (i := 63) (by decide +kernel), List.mem_of_getElem? (i := 215) (by decide +kernel), List.mem_of_getElem? (i := 216) (by decide +kernel)⟩
theorem lw_p7 : lw_okq (⟨"InvaderBoard$Processor", "addToHl", "(I)V"⟩, 9) := ⟨⟨by decide +kernel, by decide +kernel⟩, List.mem_of_getElem? (i := 63) (by decide +kernel), List.mem_of_getElem? (i := 219) (by decide +kernel), List.mem_of_getElem? (i := 220) (by decide +kernel)⟩
theorem lw_p8 : lw_okq (⟨"InvaderBoard$Processor", "setPairAt", "(II)V"⟩, 9) := ⟨⟨by decide +kernel, by decide +kernel⟩, List.mem_of_getElem? (i := 63) (by decide +kernel), List.mem_of_getElem? (i := 223) (by decide +kernel), List.mem_of_getElem? (i := 224) (by decide +kernel)⟩
theorem lw_p9 : lw_okq (⟨"InvaderBoard$Processor", "setCarry", "(I)V"⟩, 9) := ⟨⟨by decide +kernel, by decide +kernel⟩, List.mem_of_getElem? (i := 63) (by decide +kernel), List.mem_of_getElem? (i := 227) (by decide +kernel), List.mem_of_getElem? (i := 228) (by decide +kernel)⟩
theorem lw_p10 : lw_okq (⟨"InvaderBoard$Processor", "fetchWord", "()I"⟩, 9) := ⟨⟨by decide +kernel, by decide +kernel⟩, List.mem_of_getElem? (i := 63) (by decide +kernel), List.mem_of_getElem? (i := 231) (by decide +kernel), List.mem_of_getElem? (i := 232) (by decide +kernel)⟩
theorem lw_p11 : lw_okq (⟨"InvaderBoard$Processor", "setPairOrSp", "(II)V"⟩, 9) := ⟨⟨by decide +kernel, by decide +kernel⟩, List.mem_of_getElem? (i := 63) (by decide +kernel), List.mem_of_getElem? (i := 240) (by decide +kernel), List.mem_of_getElem? (i := 241) (by decide +kernel)⟩
theorem lw_p12 : lw_okq (⟨"InvaderBoard$Processor", "loadOrStore", "(I)V"⟩, 9) := ⟨⟨by decide +kernel, by decide +kernel⟩, List.mem_of_getElem? (i := 63) (by decide +kernel), List.mem_of_getElem? (i := 244) (by decide +kernel), List.mem_of_getElem? (i := 245) (by decide +kernel)⟩
theorem lw_p13 : lw_okq (⟨"InvaderBoard$Processor", "operand", "(I)I"⟩, 9) := ⟨⟨by decide +kernel, by decide +kernel⟩, List.mem_of_getElem? (i := 63) (by decide +kernel), List.mem_of_getElem? (i := 249) (by decide +kernel), List.mem_of_getElem? (i := 250) (by decide +kernel)⟩
theorem lw_p14 : lw_okq (⟨"InvaderBoard$Processor", "increment", "(I)I"⟩, 9) := ⟨⟨by decide +kernel, by decide +kernel⟩, List.mem_of_getElem? (i := 63) (by decide +kernel), List.mem_of_getElem? (i := 253) (by decide +kernel), List.mem_of_getElem? (i := 254) (by decide +kernel)⟩
theorem lw_p15 : lw_okq (⟨"InvaderBoard$Processor", "setOperand", "(II)V"⟩, 9) := ⟨⟨by decide +kernel, by decide +kernel⟩, List.mem_of_getElem? (i := 63) (by decide +kernel), List.mem_of_getElem? (i := 266) (by decide +kernel), List.mem_of_getElem? (i := 267) (by decide +kernel)⟩
def lw_privs_1 : List (MethodName × Nat) := [(⟨"InvaderBoard", "resetParts", "()V"⟩, 4), (⟨"InvaderBoard", "advance", "(I)I"⟩, 4), (⟨"InvaderBoard$Processor", "push", "(I)V"⟩, 9), (⟨"InvaderBoard$Processor", "fetch", "()I"⟩, 9), (⟨"InvaderBoard$Processor", "executeLow", "(I)V"⟩, 9), (⟨"InvaderBoard$Processor", "pairOrSp", "(I)I"⟩, 9), (⟨"InvaderBoard$Processor", "pairAt", "(I)I"⟩, 9), (⟨"InvaderBoard$Processor", "addToHl", "(I)V"⟩, 9), (⟨"InvaderBoard$Processor", "setPairAt", "(II)V"⟩, 9), (⟨"InvaderBoard$Processor", "setCarry", "(I)V"⟩, 9), (⟨"InvaderBoard$Processor", "fetchWord", "()I"⟩, 9), (⟨"InvaderBoard$Processor", "setPairOrSp", "(II)V"⟩, 9), (⟨"InvaderBoard$Processor", "loadOrStore", "(I)V"⟩, 9), (⟨"InvaderBoard$Processor", "operand", "(I)I"⟩, 9), (⟨"InvaderBoard$Processor", "increment", "(I)I"⟩, 9), (⟨"InvaderBoard$Processor", "setOperand", "(II)V"⟩, 9)]
theorem lw_r1 : ∀ q ∈ lw_privs_1, lw_okq q := List.forall_mem_cons.mpr ⟨lw_p0, List.forall_mem_cons.mpr ⟨lw_p1, List.forall_mem_cons.mpr ⟨lw_p2, List.forall_mem_cons.mpr ⟨lw_p3, List.forall_mem_cons.mpr ⟨lw_p4, List.forall_mem_cons.mpr ⟨lw_p5, List.forall_mem_cons.mpr ⟨lw_p6, List.forall_mem_cons.mpr ⟨lw_p7, List.forall_mem_cons.mpr ⟨lw_p8, List.forall_mem_cons.mpr ⟨lw_p9, List.forall_mem_cons.mpr ⟨lw_p10, List.forall_mem_cons.mpr ⟨lw_p11, List.forall_mem_cons.mpr ⟨lw_p12, List.forall_mem_cons.mpr ⟨lw_p13, List.forall_mem_cons.mpr ⟨lw_p14, List.forall_mem_cons.mpr ⟨lw_p15, fun _ h => absurd h List.not_mem_nil⟩⟩⟩⟩⟩⟩⟩⟩⟩⟩⟩⟩⟩⟩⟩⟩
theorem lw_p16 : lw_okq (⟨"InvaderBoard$Processor", "decrement", "(I)I"⟩, 9) := ⟨⟨by decide +kernel, by decide +kernel⟩, List.mem_of_getElem? (i := 63) (by decide +kernel), List.mem_of_getElem? (i := 270) (by decide +kernel), List.mem_of_getElem? (i := 271) (by decide +kernel)⟩
theorem lw_p17 : lw_okq (⟨"InvaderBoard$Processor", "changeAccumulator", "(I)V"⟩, 9) := ⟨⟨by decide +kernel, by decide +kernel⟩, List.mem_of_getElem? (i := 63) (by decide +kernel), List.mem_of_getElem? (i := 274) (by decide +kernel), List.mem_of_getElem? (i := 275) (by decide +kernel)⟩
theorem lw_p18 : lw_okq (⟨"InvaderBoard$Processor", "setRotated", "(II)V"⟩, 9) := ⟨⟨by decide +kernel, by decide +kernel⟩, List.mem_of_getElem? (i := 63) (by decide +kernel), List.mem_of_getElem? (i := 278) (by decide +kernel), List.mem_of_getElem? (i := 279) (by decide +kernel)⟩
theorem lw_p19 : lw_okq (⟨"InvaderBoard$Processor", "adjustDecimal", "()V"⟩, 9) := ⟨⟨by decide +kernel, by decide +kernel⟩, List.mem_of_getElem? (i := 63) (by decide +kernel), List.mem_of_getElem? (i := 282) (by decide +kernel), List.mem_of_getElem? (i := 283) (by decide +kernel)⟩
theorem lw_p20 : lw_okq (⟨"InvaderBoard$Processor", "executeMove", "(I)V"⟩, 9) := ⟨⟨by decide +kernel, by decide +kernel⟩, List.mem_of_getElem? (i := 63) (by decide +kernel), List.mem_of_getElem? (i := 286) (by decide +kernel), List.mem_of_getElem? (i := 287) (by decide +kernel)⟩
theorem lw_p21 : lw_okq (⟨"InvaderBoard$Processor", "calculate", "(II)V"⟩, 9) := ⟨⟨by decide +kernel, by decide +kernel⟩, List.mem_of_getElem? (i := 63) (by decide +kernel), List.mem_of_getElem? (i := 290) (by decide +kernel), List.mem_of_getElem? (i := 291) (by decide +kernel)⟩
theorem lw_p22 : lw_okq (⟨"InvaderBoard$Processor", "add", "(IIII)I"⟩, 9) := ⟨⟨by decide +kernel, by decide +kernel⟩, List.mem_of_getElem? (i := 63) (by decide +kernel), List.mem_of_getElem? (i := 294) (by decide +kernel), List.mem_of_getElem? (i := 295) (by decide +kernel)⟩
theorem lw_p23 : lw_okq (⟨"InvaderBoard$Processor", "setLogical", "(II)V"⟩, 9) := ⟨⟨by decide +kernel, by decide +kernel⟩, List.mem_of_getElem? (i := 63) (by decide +kernel), List.mem_of_getElem? (i := 298) (by decide +kernel), List.mem_of_getElem? (i := 299) (by decide +kernel)⟩
theorem lw_p24 : lw_okq (⟨"InvaderBoard$Processor", "executeHigh", "(I)I"⟩, 9) := ⟨⟨by decide +kernel, by decide +kernel⟩, List.mem_of_getElem? (i := 63) (by decide +kernel), List.mem_of_getElem? (i := 302) (by decide +kernel), List.mem_of_getElem? (i := 303) (by decide +kernel)⟩
theorem lw_p25 : lw_okq (⟨"InvaderBoard$Processor", "holds", "(I)Z"⟩, 9) := ⟨⟨by decide +kernel, by decide +kernel⟩, List.mem_of_getElem? (i := 63) (by decide +kernel), List.mem_of_getElem? (i := 306) (by decide +kernel), List.mem_of_getElem? (i := 307) (by decide +kernel)⟩
theorem lw_p26 : lw_okq (⟨"InvaderBoard$Processor", "returnIf", "(Z)I"⟩, 9) := ⟨⟨by decide +kernel, by decide +kernel⟩, List.mem_of_getElem? (i := 63) (by decide +kernel), List.mem_of_getElem? (i := 310) (by decide +kernel), List.mem_of_getElem? (i := 311) (by decide +kernel)⟩
theorem lw_p27 : lw_okq (⟨"InvaderBoard$Processor", "pop", "()I"⟩, 9) := ⟨⟨by decide +kernel, by decide +kernel⟩, List.mem_of_getElem? (i := 63) (by decide +kernel), List.mem_of_getElem? (i := 314) (by decide +kernel), List.mem_of_getElem? (i := 315) (by decide +kernel)⟩
theorem lw_p28 : lw_okq (⟨"InvaderBoard$Processor", "popOrReturn", "(I)V"⟩, 9) := ⟨⟨by decide +kernel, by decide +kernel⟩, List.mem_of_getElem? (i := 63) (by decide +kernel), List.mem_of_getElem? (i := 318) (by decide +kernel), List.mem_of_getElem? (i := 319) (by decide +kernel)⟩
theorem lw_p29 : lw_okq (⟨"InvaderBoard$Processor", "setStatusWord", "(I)V"⟩, 9) := ⟨⟨by decide +kernel, by decide +kernel⟩, List.mem_of_getElem? (i := 63) (by decide +kernel), List.mem_of_getElem? (i := 322) (by decide +kernel), List.mem_of_getElem? (i := 323) (by decide +kernel)⟩
theorem lw_p30 : lw_okq (⟨"InvaderBoard$Processor", "jumpIf", "(Z)V"⟩, 9) := ⟨⟨by decide +kernel, by decide +kernel⟩, List.mem_of_getElem? (i := 63) (by decide +kernel), List.mem_of_getElem? (i := 326) (by decide +kernel), List.mem_of_getElem? (i := 327) (by decide +kernel)⟩
theorem lw_p31 : lw_okq (⟨"InvaderBoard$Processor", "executeSingle", "(I)V"⟩, 9) := ⟨⟨by decide +kernel, by decide +kernel⟩, List.mem_of_getElem? (i := 63) (by decide +kernel), List.mem_of_getElem? (i := 330) (by decide +kernel), List.mem_of_getElem? (i := 331) (by decide +kernel)⟩
def lw_privs_2 : List (MethodName × Nat) := [(⟨"InvaderBoard$Processor", "decrement", "(I)I"⟩, 9), (⟨"InvaderBoard$Processor", "changeAccumulator", "(I)V"⟩, 9), (⟨"InvaderBoard$Processor", "setRotated", "(II)V"⟩, 9), (⟨"InvaderBoard$Processor", "adjustDecimal", "()V"⟩, 9), (⟨"InvaderBoard$Processor", "executeMove", "(I)V"⟩, 9), (⟨"InvaderBoard$Processor", "calculate", "(II)V"⟩, 9), (⟨"InvaderBoard$Processor", "add", "(IIII)I"⟩, 9), (⟨"InvaderBoard$Processor", "setLogical", "(II)V"⟩, 9), (⟨"InvaderBoard$Processor", "executeHigh", "(I)I"⟩, 9), (⟨"InvaderBoard$Processor", "holds", "(I)Z"⟩, 9), (⟨"InvaderBoard$Processor", "returnIf", "(Z)I"⟩, 9), (⟨"InvaderBoard$Processor", "pop", "()I"⟩, 9), (⟨"InvaderBoard$Processor", "popOrReturn", "(I)V"⟩, 9), (⟨"InvaderBoard$Processor", "setStatusWord", "(I)V"⟩, 9), (⟨"InvaderBoard$Processor", "jumpIf", "(Z)V"⟩, 9), (⟨"InvaderBoard$Processor", "executeSingle", "(I)V"⟩, 9)]
theorem lw_r2 : ∀ q ∈ lw_privs_2, lw_okq q := List.forall_mem_cons.mpr ⟨lw_p16, List.forall_mem_cons.mpr ⟨lw_p17, List.forall_mem_cons.mpr ⟨lw_p18, List.forall_mem_cons.mpr ⟨lw_p19, List.forall_mem_cons.mpr ⟨lw_p20, List.forall_mem_cons.mpr ⟨lw_p21, List.forall_mem_cons.mpr ⟨lw_p22, List.forall_mem_cons.mpr ⟨lw_p23, List.forall_mem_cons.mpr ⟨lw_p24, List.forall_mem_cons.mpr ⟨lw_p25, List.forall_mem_cons.mpr ⟨lw_p26, List.forall_mem_cons.mpr ⟨lw_p27, List.forall_mem_cons.mpr ⟨lw_p28, List.forall_mem_cons.mpr ⟨lw_p29, List.forall_mem_cons.mpr ⟨lw_p30, List.forall_mem_cons.mpr ⟨lw_p31, fun _ h => absurd h List.not_mem_nil⟩⟩⟩⟩⟩⟩⟩⟩⟩⟩⟩⟩⟩⟩⟩⟩
theorem lw_p32 : lw_okq (⟨"InvaderBoard$Ports", "setLatch", "(II)V"⟩, 6) := ⟨⟨by decide +kernel, by decide +kernel⟩, List.mem_of_getElem? (i := 37) (by decide +kernel), List.mem_of_getElem? (i := 338) (by decide +kernel), List.mem_of_getElem? (i := 339) (by decide +kernel)⟩
theorem lw_p33 : lw_okq (⟨"InvaderBoard$Processor", "exchangeTop", "(I)I"⟩, 9) := ⟨⟨by decide +kernel, by decide +kernel⟩, List.mem_of_getElem? (i := 63) (by decide +kernel), List.mem_of_getElem? (i := 350) (by decide +kernel), List.mem_of_getElem? (i := 351) (by decide +kernel)⟩
theorem lw_p34 : lw_okq (⟨"InvaderBoard$Processor", "exchangePairs", "()V"⟩, 9) := ⟨⟨by decide +kernel, by decide +kernel⟩, List.mem_of_getElem? (i := 63) (by decide +kernel), List.mem_of_getElem? (i := 354) (by decide +kernel), List.mem_of_getElem? (i := 355) (by decide +kernel)⟩
theorem lw_p35 : lw_okq (⟨"InvaderBoard$Processor", "callIf", "(Z)I"⟩, 9) := ⟨⟨by decide +kernel, by decide +kernel⟩, List.mem_of_getElem? (i := 63) (by decide +kernel), List.mem_of_getElem? (i := 358) (by decide +kernel), List.mem_of_getElem? (i := 359) (by decide +kernel)⟩
theorem lw_p36 : lw_okq (⟨"InvaderBoard$Processor", "statusWord", "()I"⟩, 9) := ⟨⟨by decide +kernel, by decide +kernel⟩, List.mem_of_getElem? (i := 63) (by decide +kernel), List.mem_of_getElem? (i := 362) (by decide +kernel), List.mem_of_getElem? (i := 363) (by decide +kernel)⟩
theorem lw_p37 : lw_okq (⟨"java/lang/Throwable", "fillInStackTrace", "(I)Ljava/lang/Throwable;"⟩, 6) := ⟨⟨by decide +kernel, by decide +kernel⟩, List.mem_of_getElem? (i := 451) (by decide +kernel), List.mem_of_getElem? (i := 449) (by decide +kernel), List.mem_of_getElem? (i := 450) (by decide +kernel)⟩
theorem lw_p38 : lw_okq (⟨"InvaderBoardModel", "worked", "()I"⟩, 24) := ⟨⟨by decide +kernel, by decide +kernel⟩, List.mem_of_getElem? (i := 568) (by decide +kernel), List.mem_of_getElem? (i := 655) (by decide +kernel), List.mem_of_getElem? (i := 656) (by decide +kernel)⟩
theorem lw_p39 : lw_okq (⟨"InvaderBoardModel", "push", "(I)V"⟩, 24) := ⟨⟨by decide +kernel, by decide +kernel⟩, List.mem_of_getElem? (i := 568) (by decide +kernel), List.mem_of_getElem? (i := 659) (by decide +kernel), List.mem_of_getElem? (i := 660) (by decide +kernel)⟩
theorem lw_p40 : lw_okq (⟨"InvaderBoardModel", "write", "(II)V"⟩, 24) := ⟨⟨by decide +kernel, by decide +kernel⟩, List.mem_of_getElem? (i := 568) (by decide +kernel), List.mem_of_getElem? (i := 664) (by decide +kernel), List.mem_of_getElem? (i := 665) (by decide +kernel)⟩
theorem lw_p41 : lw_okq (⟨"InvaderBoardModel", "one", "()I"⟩, 24) := ⟨⟨by decide +kernel, by decide +kernel⟩, List.mem_of_getElem? (i := 568) (by decide +kernel), List.mem_of_getElem? (i := 668) (by decide +kernel), List.mem_of_getElem? (i := 669) (by decide +kernel)⟩
theorem lw_p42 : lw_okq (⟨"InvaderBoardModel", "next", "()I"⟩, 24) := ⟨⟨by decide +kernel, by decide +kernel⟩, List.mem_of_getElem? (i := 568) (by decide +kernel), List.mem_of_getElem? (i := 672) (by decide +kernel), List.mem_of_getElem? (i := 673) (by decide +kernel)⟩
theorem lw_p43 : lw_okq (⟨"InvaderBoardModel", "read", "(I)I"⟩, 24) := ⟨⟨by decide +kernel, by decide +kernel⟩, List.mem_of_getElem? (i := 568) (by decide +kernel), List.mem_of_getElem? (i := 676) (by decide +kernel), List.mem_of_getElem? (i := 677) (by decide +kernel)⟩
theorem lw_p44 : lw_okq (⟨"InvaderBoardModel", "get", "(I)I"⟩, 24) := ⟨⟨by decide +kernel, by decide +kernel⟩, List.mem_of_getElem? (i := 568) (by decide +kernel), List.mem_of_getElem? (i := 680) (by decide +kernel), List.mem_of_getElem? (i := 681) (by decide +kernel)⟩
theorem lw_p45 : lw_okq (⟨"InvaderBoardModel", "hl", "()I"⟩, 24) := ⟨⟨by decide +kernel, by decide +kernel⟩, List.mem_of_getElem? (i := 568) (by decide +kernel), List.mem_of_getElem? (i := 684) (by decide +kernel), List.mem_of_getElem? (i := 685) (by decide +kernel)⟩
theorem lw_p46 : lw_okq (⟨"InvaderBoardModel", "set", "(II)V"⟩, 24) := ⟨⟨by decide +kernel, by decide +kernel⟩, List.mem_of_getElem? (i := 568) (by decide +kernel), List.mem_of_getElem? (i := 688) (by decide +kernel), List.mem_of_getElem? (i := 689) (by decide +kernel)⟩
theorem lw_p47 : lw_okq (⟨"InvaderBoardModel", "alu", "(II)V"⟩, 24) := ⟨⟨by decide +kernel, by decide +kernel⟩, List.mem_of_getElem? (i := 568) (by decide +kernel), List.mem_of_getElem? (i := 692) (by decide +kernel), List.mem_of_getElem? (i := 693) (by decide +kernel)⟩
def lw_privs_3 : List (MethodName × Nat) := [(⟨"InvaderBoard$Ports", "setLatch", "(II)V"⟩, 6), (⟨"InvaderBoard$Processor", "exchangeTop", "(I)I"⟩, 9), (⟨"InvaderBoard$Processor", "exchangePairs", "()V"⟩, 9), (⟨"InvaderBoard$Processor", "callIf", "(Z)I"⟩, 9), (⟨"InvaderBoard$Processor", "statusWord", "()I"⟩, 9), (⟨"java/lang/Throwable", "fillInStackTrace", "(I)Ljava/lang/Throwable;"⟩, 6), (⟨"InvaderBoardModel", "worked", "()I"⟩, 24), (⟨"InvaderBoardModel", "push", "(I)V"⟩, 24), (⟨"InvaderBoardModel", "write", "(II)V"⟩, 24), (⟨"InvaderBoardModel", "one", "()I"⟩, 24), (⟨"InvaderBoardModel", "next", "()I"⟩, 24), (⟨"InvaderBoardModel", "read", "(I)I"⟩, 24), (⟨"InvaderBoardModel", "get", "(I)I"⟩, 24), (⟨"InvaderBoardModel", "hl", "()I"⟩, 24), (⟨"InvaderBoardModel", "set", "(II)V"⟩, 24), (⟨"InvaderBoardModel", "alu", "(II)V"⟩, 24)]
theorem lw_r3 : ∀ q ∈ lw_privs_3, lw_okq q := List.forall_mem_cons.mpr ⟨lw_p32, List.forall_mem_cons.mpr ⟨lw_p33, List.forall_mem_cons.mpr ⟨lw_p34, List.forall_mem_cons.mpr ⟨lw_p35, List.forall_mem_cons.mpr ⟨lw_p36, List.forall_mem_cons.mpr ⟨lw_p37, List.forall_mem_cons.mpr ⟨lw_p38, List.forall_mem_cons.mpr ⟨lw_p39, List.forall_mem_cons.mpr ⟨lw_p40, List.forall_mem_cons.mpr ⟨lw_p41, List.forall_mem_cons.mpr ⟨lw_p42, List.forall_mem_cons.mpr ⟨lw_p43, List.forall_mem_cons.mpr ⟨lw_p44, List.forall_mem_cons.mpr ⟨lw_p45, List.forall_mem_cons.mpr ⟨lw_p46, List.forall_mem_cons.mpr ⟨lw_p47, fun _ h => absurd h List.not_mem_nil⟩⟩⟩⟩⟩⟩⟩⟩⟩⟩⟩⟩⟩⟩⟩⟩
theorem lw_p48 : lw_okq (⟨"InvaderBoardModel", "signs", "(I)V"⟩, 24) := ⟨⟨by decide +kernel, by decide +kernel⟩, List.mem_of_getElem? (i := 568) (by decide +kernel), List.mem_of_getElem? (i := 696) (by decide +kernel), List.mem_of_getElem? (i := 697) (by decide +kernel)⟩
theorem lw_p49 : lw_okq (⟨"InvaderBoardModel", "low", "(II)I"⟩, 24) := ⟨⟨by decide +kernel, by decide +kernel⟩, List.mem_of_getElem? (i := 568) (by decide +kernel), List.mem_of_getElem? (i := 700) (by decide +kernel), List.mem_of_getElem? (i := 701) (by decide +kernel)⟩
theorem lw_p50 : lw_okq (⟨"InvaderBoardModel", "pair", "(I)I"⟩, 24) := ⟨⟨by decide +kernel, by decide +kernel⟩, List.mem_of_getElem? (i := 568) (by decide +kernel), List.mem_of_getElem? (i := 704) (by decide +kernel), List.mem_of_getElem? (i := 705) (by decide +kernel)⟩
theorem lw_p51 : lw_okq (⟨"InvaderBoardModel", "setPair", "(II)V"⟩, 24) := ⟨⟨by decide +kernel, by decide +kernel⟩, List.mem_of_getElem? (i := 568) (by decide +kernel), List.mem_of_getElem? (i := 708) (by decide +kernel), List.mem_of_getElem? (i := 709) (by decide +kernel)⟩
theorem lw_p52 : lw_okq (⟨"InvaderBoardModel", "nextTwo", "()I"⟩, 24) := ⟨⟨by decide +kernel, by decide +kernel⟩, List.mem_of_getElem? (i := 568) (by decide +kernel), List.mem_of_getElem? (i := 712) (by decide +kernel), List.mem_of_getElem? (i := 713) (by decide +kernel)⟩
theorem lw_p53 : lw_okq (⟨"InvaderBoardModel", "moved", "(I)I"⟩, 24) := ⟨⟨by decide +kernel, by decide +kernel⟩, List.mem_of_getElem? (i := 568) (by decide +kernel), List.mem_of_getElem? (i := 716) (by decide +kernel), List.mem_of_getElem? (i := 717) (by decide +kernel)⟩
theorem lw_p54 : lw_okq (⟨"InvaderBoardModel", "count", "(II)V"⟩, 24) := ⟨⟨by decide +kernel, by decide +kernel⟩, List.mem_of_getElem? (i := 568) (by decide +kernel), List.mem_of_getElem? (i := 720) (by decide +kernel), List.mem_of_getElem? (i := 721) (by decide +kernel)⟩
theorem lw_p55 : lw_okq (⟨"InvaderBoardModel", "turn", "(I)V"⟩, 24) := ⟨⟨by decide +kernel, by decide +kernel⟩, List.mem_of_getElem? (i := 568) (by decide +kernel), List.mem_of_getElem? (i := 724) (by decide +kernel), List.mem_of_getElem? (i := 725) (by decide +kernel)⟩
theorem lw_p56 : lw_okq (⟨"InvaderBoardModel", "adjust", "()V"⟩, 24) := ⟨⟨by decide +kernel, by decide +kernel⟩, List.mem_of_getElem? (i := 568) (by decide +kernel), List.mem_of_getElem? (i := 728) (by decide +kernel), List.mem_of_getElem? (i := 729) (by decide +kernel)⟩
theorem lw_p57 : lw_okq (⟨"InvaderBoardModel", "high", "(II)I"⟩, 24) := ⟨⟨by decide +kernel, by decide +kernel⟩, List.mem_of_getElem? (i := 568) (by decide +kernel), List.mem_of_getElem? (i := 732) (by decide +kernel), List.mem_of_getElem? (i := 733) (by decide +kernel)⟩
theorem lw_p58 : lw_okq (⟨"InvaderBoardModel", "holds", "(I)Z"⟩, 24) := ⟨⟨by decide +kernel, by decide +kernel⟩, List.mem_of_getElem? (i := 568) (by decide +kernel), List.mem_of_getElem? (i := 736) (by decide +kernel), List.mem_of_getElem? (i := 737) (by decide +kernel)⟩
theorem lw_p59 : lw_okq (⟨"InvaderBoardModel", "pop", "()I"⟩, 24) := ⟨⟨by decide +kernel, by decide +kernel⟩, List.mem_of_getElem? (i := 568) (by decide +kernel), List.mem_of_getElem? (i := 740) (by decide +kernel), List.mem_of_getElem? (i := 741) (by decide +kernel)⟩
theorem lw_p60 : lw_okq (⟨"InvaderBoardModel", "popped", "(I)I"⟩, 24) := ⟨⟨by decide +kernel, by decide +kernel⟩, List.mem_of_getElem? (i := 568) (by decide +kernel), List.mem_of_getElem? (i := 744) (by decide +kernel), List.mem_of_getElem? (i := 745) (by decide +kernel)⟩
theorem lw_p61 : lw_okq (⟨"InvaderBoardModel", "setFlags", "(I)V"⟩, 24) := ⟨⟨by decide +kernel, by decide +kernel⟩, List.mem_of_getElem? (i := 568) (by decide +kernel), List.mem_of_getElem? (i := 748) (by decide +kernel), List.mem_of_getElem? (i := 749) (by decide +kernel)⟩
theorem lw_p62 : lw_okq (⟨"InvaderBoardModel", "odd", "(I)I"⟩, 24) := ⟨⟨by decide +kernel, by decide +kernel⟩, List.mem_of_getElem? (i := 568) (by decide +kernel), List.mem_of_getElem? (i := 752) (by decide +kernel), List.mem_of_getElem? (i := 753) (by decide +kernel)⟩
theorem lw_p63 : lw_okq (⟨"InvaderBoardModel", "single", "(I)I"⟩, 24) := ⟨⟨by decide +kernel, by decide +kernel⟩, List.mem_of_getElem? (i := 568) (by decide +kernel), List.mem_of_getElem? (i := 756) (by decide +kernel), List.mem_of_getElem? (i := 757) (by decide +kernel)⟩
def lw_privs_4 : List (MethodName × Nat) := [(⟨"InvaderBoardModel", "signs", "(I)V"⟩, 24), (⟨"InvaderBoardModel", "low", "(II)I"⟩, 24), (⟨"InvaderBoardModel", "pair", "(I)I"⟩, 24), (⟨"InvaderBoardModel", "setPair", "(II)V"⟩, 24), (⟨"InvaderBoardModel", "nextTwo", "()I"⟩, 24), (⟨"InvaderBoardModel", "moved", "(I)I"⟩, 24), (⟨"InvaderBoardModel", "count", "(II)V"⟩, 24), (⟨"InvaderBoardModel", "turn", "(I)V"⟩, 24), (⟨"InvaderBoardModel", "adjust", "()V"⟩, 24), (⟨"InvaderBoardModel", "high", "(II)I"⟩, 24), (⟨"InvaderBoardModel", "holds", "(I)Z"⟩, 24), (⟨"InvaderBoardModel", "pop", "()I"⟩, 24), (⟨"InvaderBoardModel", "popped", "(I)I"⟩, 24), (⟨"InvaderBoardModel", "setFlags", "(I)V"⟩, 24), (⟨"InvaderBoardModel", "odd", "(I)I"⟩, 24), (⟨"InvaderBoardModel", "single", "(I)I"⟩, 24)]
theorem lw_r4 : ∀ q ∈ lw_privs_4, lw_okq q := List.forall_mem_cons.mpr ⟨lw_p48, List.forall_mem_cons.mpr ⟨lw_p49, List.forall_mem_cons.mpr ⟨lw_p50, List.forall_mem_cons.mpr ⟨lw_p51, List.forall_mem_cons.mpr ⟨lw_p52, List.forall_mem_cons.mpr ⟨lw_p53, List.forall_mem_cons.mpr ⟨lw_p54, List.forall_mem_cons.mpr ⟨lw_p55, List.forall_mem_cons.mpr ⟨lw_p56, List.forall_mem_cons.mpr ⟨lw_p57, List.forall_mem_cons.mpr ⟨lw_p58, List.forall_mem_cons.mpr ⟨lw_p59, List.forall_mem_cons.mpr ⟨lw_p60, List.forall_mem_cons.mpr ⟨lw_p61, List.forall_mem_cons.mpr ⟨lw_p62, List.forall_mem_cons.mpr ⟨lw_p63, fun _ h => absurd h List.not_mem_nil⟩⟩⟩⟩⟩⟩⟩⟩⟩⟩⟩⟩⟩⟩⟩⟩
theorem lw_p64 : lw_okq (⟨"InvaderBoardModel", "out", "(II)V"⟩, 24) := ⟨⟨by decide +kernel, by decide +kernel⟩, List.mem_of_getElem? (i := 568) (by decide +kernel), List.mem_of_getElem? (i := 760) (by decide +kernel), List.mem_of_getElem? (i := 761) (by decide +kernel)⟩
theorem lw_p65 : lw_okq (⟨"InvaderBoardModel", "in", "(I)I"⟩, 24) := ⟨⟨by decide +kernel, by decide +kernel⟩, List.mem_of_getElem? (i := 568) (by decide +kernel), List.mem_of_getElem? (i := 764) (by decide +kernel), List.mem_of_getElem? (i := 765) (by decide +kernel)⟩
theorem lw_p66 : lw_okq (⟨"InvaderBoardModel", "call", "(I)I"⟩, 24) := ⟨⟨by decide +kernel, by decide +kernel⟩, List.mem_of_getElem? (i := 568) (by decide +kernel), List.mem_of_getElem? (i := 768) (by decide +kernel), List.mem_of_getElem? (i := 769) (by decide +kernel)⟩
theorem lw_p67 : lw_okq (⟨"InvaderBoardModel", "flags", "()I"⟩, 24) := ⟨⟨by decide +kernel, by decide +kernel⟩, List.mem_of_getElem? (i := 568) (by decide +kernel), List.mem_of_getElem? (i := 772) (by decide +kernel), List.mem_of_getElem? (i := 773) (by decide +kernel)⟩
theorem lw_p68 : lw_okq (⟨"InvaderBoardModel", "clear", "()V"⟩, 24) := ⟨⟨by decide +kernel, by decide +kernel⟩, List.mem_of_getElem? (i := 568) (by decide +kernel), List.mem_of_getElem? (i := 777) (by decide +kernel), List.mem_of_getElem? (i := 778) (by decide +kernel)⟩
theorem lw_p69 : lw_okq (⟨"InvaderBoardModel", "bit", "(II)I"⟩, 24) := ⟨⟨by decide +kernel, by decide +kernel⟩, List.mem_of_getElem? (i := 568) (by decide +kernel), List.mem_of_getElem? (i := 815) (by decide +kernel), List.mem_of_getElem? (i := 816) (by decide +kernel)⟩
def lw_privs_5 : List (MethodName × Nat) := [(⟨"InvaderBoardModel", "out", "(II)V"⟩, 24), (⟨"InvaderBoardModel", "in", "(I)I"⟩, 24), (⟨"InvaderBoardModel", "call", "(I)I"⟩, 24), (⟨"InvaderBoardModel", "flags", "()I"⟩, 24), (⟨"InvaderBoardModel", "clear", "()V"⟩, 24), (⟨"InvaderBoardModel", "bit", "(II)I"⟩, 24)]
theorem lw_r5 : ∀ q ∈ lw_privs_5, lw_okq q := List.forall_mem_cons.mpr ⟨lw_p64, List.forall_mem_cons.mpr ⟨lw_p65, List.forall_mem_cons.mpr ⟨lw_p66, List.forall_mem_cons.mpr ⟨lw_p67, List.forall_mem_cons.mpr ⟨lw_p68, List.forall_mem_cons.mpr ⟨lw_p69, fun _ h => absurd h List.not_mem_nil⟩⟩⟩⟩⟩⟩
def lw_privs : List (MethodName × Nat) := lw_privs_1 ++ (lw_privs_2 ++ (lw_privs_3 ++ (lw_privs_4 ++ (lw_privs_5))))
def lw_tbl : List Cond := k2_sels lw_privs ++ tables_1
theorem lw_privs_ok : ∀ q ∈ lw_privs, lw_okq q := by
  show ∀ q ∈ lw_privs_1 ++ (lw_privs_2 ++ (lw_privs_3 ++ (lw_privs_4 ++ (lw_privs_5)))), lw_okq q
  exact List.forall_mem_append.mpr ⟨lw_r1, List.forall_mem_append.mpr ⟨lw_r2, List.forall_mem_append.mpr ⟨lw_r3, List.forall_mem_append.mpr ⟨lw_r4, lw_r5⟩⟩⟩⟩
end
section
/-! ===== BEGIN words of one list among another's, by their places ===== -/
theorem goodIn_r {big : List Cond} (ws : List Cond) (ps : List Nat) (hp : ws = ps.filterMap (fun i => big[i]?)) (h : ws.all goodWord = true) : GoodIn big ws := by
  intro w hw
  have h1 := List.all_eq_true.mp h w hw
  rw [hp] at hw
  obtain ⟨i, -, hi⟩ := List.mem_filterMap.mp hw
  have hm : w ∈ big := by first | exact List.mem_of_getElem? hi | exact List.getElem?_mem hi
  exact ⟨hm, good_of_word h1⟩
theorem goodIn_app {big a b : List Cond} (ha : GoodIn big a) (hb : GoodIn big b) : GoodIn big (a ++ b) := fun w h => (List.mem_append.mp h).elim (ha w) (hb w)
theorem goodIn_ca {big a b : List Cond} {c : Cond} (ha : GoodIn big (c :: a)) (hb : GoodIn big b) : GoodIn big (c :: (a ++ b)) := fun w h => (List.mem_cons.mp h).elim (fun e => ha w (List.mem_cons.mpr (Or.inl e))) (fun h => (List.mem_append.mp h).elim (fun h => ha w (List.mem_cons.mpr (Or.inr h))) (hb w))
theorem goodIn_sub {big ws : List Cond} (hm : ∀ w ∈ ws, w ∈ big) (h : ws.all goodWord = true) : GoodIn big ws := fun w hw => ⟨hm w hw, good_of_word (List.all_eq_true.mp h w hw)⟩
/-! ===== END ===== -/

/-! ===== BEGIN exceptions that leave a method, and their catching by the caller (launches without stack traces) ===== -/
section VXA
/-! The laws vx_back, vx_callV, vx_callS, vx_callSW, vx_throw0, vx_throwS follow proofs of the library, with one case more: JvmDerived/Free/Laws.lean (Back.of_free), Shelf42/LK1.lean (callV, callS), Shelf/KitTraced.lean (throwNew0V, throwNewS). -/
/-- where a method has thrown q: the class by its name, the cell, what was written, the world -/
def vx_T (XC : String → State → State → Prop) (st : State) (q : Addr) (t : State) (mc ms : Nat) (free : Addr → Prop) : Prop :=
  ∃ (E : String) (ce : Cell) (L : List Loc), XC E st t ∧ t.heap[q]? = some ce ∧ ce.vm = .none ∧ st.vm.findClass E = some ce.cls ∧ st.WarmedH t.vm ∧ st.sameButNew ({ t with vm := st.vm } : State) L mc ms ∧ ∀ z ∈ L, free z.base
def vx_Q (Qc : Array Value → State → Outcome → State → Prop) (XC : String → State → State → Prop) (mc ms : Nat) (free : Addr → Prop) : Array Value → State → Outcome → State → Prop := fun a st o t =>
  (Qc a st o t ∧ ∃ L, FrameEnd st o t L mc ms ∧ ∀ q ∈ L, free q.base) ∨ ∃ q, o = .threw q ∧ vx_T XC st q t mc ms free
/-- a callee that returns or throws -/
def vx_Met (l : Launch) (y : MethodName) (ws : List Cond) (rm : Room) (Pc : Array Value → State → Prop) (Qc : Array Value → State → Outcome → State → Prop) (XC : String → State → State → Prop) (mc ms : Nat) (free : Addr → Prop) : Prop :=
  MetFree l y (headSpec ws rm) Pc (fun _ _ _ _ _ => True) (vx_Q Qc XC mc ms free)
def vx_Post (XC : String → State → State → Prop) (mc ms : Nat) (free : Addr → Prop) : Pt → Array Value → Addr → Pt → Prop := fun A a q B =>
  ∃ (g : JFrame) (mk : MethodId) (t : State) (L : List Loc) (E : String) (ce : Cell), B.U.heap = t.heap ∧ B.U.vm = t.vm ∧ XC E (A.U.calling g mk a) t ∧ t.heap[q]? = some ce ∧ ce.vm = .none ∧ A.U.vm.findClass E = some ce.cls ∧ B.locs = A.locs ++ L ∧ (∀ z ∈ L, free z.base) ∧ B.cells = A.cells + mc ∧ B.slots = A.slots + ms
def vx_Back (l : Launch) (R : Room) (p : Program) (e : Env) (below : List Frame) (s : State) (sargs : Array Value) (y : MethodName) (len W9 : Nat)
    (Pre : Pt → Array Value → Prop) (Post : Pt → Array Value → Option Value → Pt → Prop) (PostX : Pt → Array Value → Addr → Pt → Prop) : Prop :=
  ∀ (m : MethodId) (meth : Method) (c : Code) (A : Pt) (g : JFrame) (ig : Instr) (mk : MethodId) (a : Array Value),
    Stand p l e R s m sargs below meth c A.U A.locs A.cells A.slots → g.method = m → g.locals.size = c.maxLocals → decode c.code g.pc = .ok (ig, len) →
    2 * g.monitorRoom + (g.stack.map fun v => v.category).sum ≤ W9 → A.U.methodNamed? y = some mk → Pre A a →
    (∃ (v : Option Value) (B : Pt), Stand p l e R s m sargs below meth c B.U B.locs B.cells B.slots ∧ Post A a v B ∧
      Steps p.tables e below (doInvoke e (A.U.setTop g) [] mk a).1 (B.U.setTop { g with pc := g.pc + len, stack := v.toList ++ g.stack })) ∨
    (∃ (q : Addr) (B : Pt), Stand p l e R s m sargs below meth c B.U B.locs B.cells B.slots ∧ PostX A a q B ∧
      Steps p.tables e below (doInvoke e (A.U.setTop g) [] mk a).1 ((B.U.setTop g).pushFrame (.throwing q)))
section Payer
variable {l : Launch} {R : Room} {p : Program} {e : Env} {below : List Frame} {s : State} {sargs : Array Value} {y : MethodName} {len W9 : Nat}
theorem vx_back {ws : List Cond} {rm : Room} {Pc : Array Value → State → Prop} {Qc : Array Value → State → Outcome → State → Prop} {XC : String → State → State → Prop} {mc ms : Nat} {free : Addr → Prop} {bytes : ByteArray} {maxL : Nat} {ret : Option FieldType}
    (hM : vx_Met l y ws rm Pc Qc XC mc ms free) (hblind : FrameBlind Pc) (hrc : rm.cells = mc) (hrs : rm.slots = ms)
    (hframes : rm.frames + 1 ≤ R.frames) (hlocals : W9 + (maxL + 11) + rm.locals ≤ R.locals)
    (hws : ∀ w ∈ ws, ∀ a' U, s.WarmedH U.vm → w.before a' U = true) (hcode : Cond.code y bytes maxL ret ∈ ws) (hinit : ∀ a' U, s.WarmedH U.vm → (Cond.initialized y.cls).before a' U = true) :
    vx_Back l R p e below s sargs y len W9 (PreOf R mc ms Pc) (PostOf Qc mc ms free) (vx_Post XC mc ms free) := by
  intro m meth c A g ig mk a X hg hsize hdg hW hn hp
  have h1 : (headSpec ws rm).pre.before a A.U = true := atoms_intro fun w hw => hws w hw _ _ X.warmed
  have h2 : (Cond.code y bytes maxL ret).before a A.U = true := hws _ hcode _ _ X.warmed
  have h3 : (Cond.initialized y.cls).before a A.U = true := hinit _ _ X.warmed
  have h4 : A.cells + (headSpec ws rm).room.cells ≤ R.cells := by rw [show (headSpec ws rm).room.cells = mc from hrc]; exact hp.1
  have h5 : A.slots + (headSpec ws rm).room.slots ≤ R.slots := by rw [show (headSpec ws rm).room.slots = ms from hrs]; exact hp.2.1
  have hPc : Pc a (A.U.calling g mk a) := hblind _ _ _ _ hp.2.2
  obtain ⟨U, Ls, c0, s0⟩ := A
  dsimp only [Pt.U, Pt.locs, Pt.cells, Pt.slots] at h1 h2 h3 h4 h5 X hn hPc ⊢
  obtain ⟨methY, cY, hmY, hcY, -, hlY, -, -, -, -⟩ := Cond.code_spec hn h2
  obtain ⟨kY, hkY, -⟩ := className_of_methodNamed hn
  have hinitY : kY.init = .initialized := Cond.initialized_spec (findClass_of_methodNamed hn) hkY h3
  have h : At U g.method c below := by rw [hg]; exact X.here
  have hlocals9 : W9 + (maxL + 11) + (headSpec ws rm).room.locals ≤ R.locals := hlocals
  have happ : (headSpec ws rm).appliesLoose y e.platform (U.calling g mk a) = true :=
    Spec.appliesLoose_calling (g := g) h hdg hn hkY hinitY
      (X.room_calling (g := g) (R' := (headSpec ws rm).room) hsize hmY hcY hframes (by rw [hlY]; omega) h4 h5) h1
  obtain ⟨mid, hmid⟩ := h.above
  have hfr : (U.setTop g).frames = (.java g :: mid) ++ below := by rw [State.frames_setTop' g h.top, hmid]; rfl
  obtain ⟨o, s₂, hsteps, -, hend, hq⟩ := Steps.callFree hM p X.admits X.cas X.clock (acts := []) hfr happ hPc trivial
  have hq' : vx_Q Qc XC mc ms free a (U.calling g mk a) o s₂ := hq
  rw [State.frames_setTop' g h.top] at hend
  obtain ⟨g₀, hg0⟩ := Option.isSome_iff_exists.mp h.top
  obtain ⟨r, hr⟩ := State.topJava?_eq_some.mp hg0
  have hr' : (({ U with heap := s₂.heap, slotsUsed := s₂.slotsUsed } : State).setVm s₂.vm).frames = .java g₀ :: r := hr
  rcases hq' with ⟨hqc, L, hfe, hL⟩ | ⟨q, rfl, E, ce, L, hx, hce, hcv, hcl, hW₂, hsm, hL⟩
  · obtain ⟨⟨v, rfl⟩, hW₂, e2, q2, q3, q4, q5, q6⟩ := id hfe
    have e3 : s₂ = ({ (U.calling g mk a).setFrames s₂.frames with heap := s₂.heap, slotsUsed := s₂.slotsUsed } : State).setVm s₂.vm := by
      have : s₂ = ({ s₂ with vm := (U.calling g mk a).vm } : State).setVm s₂.vm := rfl
      rw [e2] at this
      exact this
    obtain ⟨c₂, i₂, len₂, hc₂, hd₂, hf₂⟩ := hend
    have hW' : U.WarmedH s₂.vm := hW₂
    have hcc : c₂ = c := by
      have h1 : s₂.code? g.method = U.code? g.method := by
        rw [State.code?_eq, State.code?_eq, hW'.alike.method?]
      exact Option.some.inj (hc₂.symm.trans (h1.trans h.code))
    subst hcc
    have hlen : len₂ = len := by rw [hdg] at hd₂; cases hd₂; rfl
    subst hlen
    have hs₂ : s₂ = (({ U with heap := s₂.heap, slotsUsed := s₂.slotsUsed } : State).setVm s₂.vm).setTop { g with pc := g.pc + len₂, stack := v.toList ++ g.stack } := by
      refine e3.trans ?_
      rw [hf₂, State.calling_eq h.top, State.setFrames_setFrames, State.setTop_of_frames _ hr', hr]
      rfl
    have hsame : U.sameButNew ({ U with heap := s₂.heap, slotsUsed := s₂.slotsUsed } : State) L mc ms := by
      refine ⟨?_, q2, q3, q4, q5, q6⟩
      obtain ⟨t, ht, -⟩ := State.frames_cons hr
      show ({ U with heap := s₂.heap, slotsUsed := s₂.slotsUsed } : State) = { U.setFrames U.frames with heap := s₂.heap, slotsUsed := s₂.slotsUsed }
      rw [State.setFrames_self ht]
    subst hg
    refine Or.inl ⟨v, ⟨(({ U with heap := s₂.heap, slotsUsed := s₂.slotsUsed } : State).setVm s₂.vm), Ls ++ L, c0 + mc, s0 + ms⟩,
      ⟨X.admits, X.cas, X.clock, X.frames, X.room, X.hears, X.method, X.code, (X.here.setHeapUsed s₂.heap s₂.slotsUsed).setVm hW'.alike, X.tail, State.WarmedH.trans X.warmed hW', X.limits, X.bytes, X.same.trans (hsame.setVm s.vm)⟩,
      ⟨g, mk, s₂, L, rfl, rfl, hqc, rfl, hL, rfl, rfl⟩, ?_⟩
    show Steps p.tables e below _ ((({ U with heap := s₂.heap, slotsUsed := s₂.slotsUsed } : State).setVm s₂.vm).setTop { g with pc := g.pc + len₂, stack := v.toList ++ g.stack })
    rw [← hs₂]
    exact hsteps
  · obtain ⟨e2, q2, q3, q4, q5, q6⟩ := id hsm
    have e3 : s₂ = ({ (U.calling g mk a).setFrames s₂.frames with heap := s₂.heap, slotsUsed := s₂.slotsUsed } : State).setVm s₂.vm := by
      have : s₂ = ({ s₂ with vm := (U.calling g mk a).vm } : State).setVm s₂.vm := rfl
      rw [e2] at this
      exact this
    have hf₂ : s₂.frames = .throwing q :: .java g :: U.frames.tail := hend
    have hW' : U.WarmedH s₂.vm := hW₂
    have hs₂ : s₂ = ((({ U with heap := s₂.heap, slotsUsed := s₂.slotsUsed } : State).setVm s₂.vm).setTop g).pushFrame (.throwing q) := by
      refine e3.trans ?_
      rw [hf₂, State.calling_eq h.top, State.setFrames_setFrames, State.pushFrame, State.frames_setTop _ hr', State.setTop_of_frames _ hr', State.setFrames_setFrames, hr]
      rfl
    have hsame : U.sameButNew ({ U with heap := s₂.heap, slotsUsed := s₂.slotsUsed } : State) L mc ms := by
      refine ⟨?_, q2, q3, q4, q5, q6⟩
      obtain ⟨t, ht, -⟩ := State.frames_cons hr
      show ({ U with heap := s₂.heap, slotsUsed := s₂.slotsUsed } : State) = { U.setFrames U.frames with heap := s₂.heap, slotsUsed := s₂.slotsUsed }
      rw [State.setFrames_self ht]
    subst hg
    refine Or.inr ⟨q, ⟨(({ U with heap := s₂.heap, slotsUsed := s₂.slotsUsed } : State).setVm s₂.vm), Ls ++ L, c0 + mc, s0 + ms⟩,
      ⟨X.admits, X.cas, X.clock, X.frames, X.room, X.hears, X.method, X.code, (X.here.setHeapUsed s₂.heap s₂.slotsUsed).setVm hW'.alike, X.tail, State.WarmedH.trans X.warmed hW', X.limits, X.bytes, X.same.trans (hsame.setVm s.vm)⟩,
      ⟨g, mk, s₂, L, E, ce, rfl, rfl, hx, hce, hcv, hcl, rfl, hL, rfl, rfl⟩, ?_⟩
    show Steps p.tables e below _ (((({ U with heap := s₂.heap, slotsUsed := s₂.slotsUsed } : State).setVm s₂.vm).setTop g).pushFrame (.throwing q))
    rw [← hs₂]
    exact hsteps
end Payer
section Calls
variable {p : Program} {l : Launch} {e : Env} {R : Room} {s : State} {m : MethodId} {args : Array Value} {below : List Frame} {meth : Method} {c : Code} {T : State} {locs : List Loc} {cells slots : Nat}
theorem vx_callV (X : Stand p l e R s m args below meth c T locs cells slots) (hexec : p.tables.exec = Jvm.exec) {own C : String} {index : Nat} {y : MethodName} {bytes : ByteArray} {maxL : Nat} {ret : Option FieldType}
    (hown : s.vm.findClass own = some m.cls) (hlink : (Cond.methodLink own index y).before args s = true) (hinst : (Cond.instanceMethod y).before args s = true) (hsel : (Cond.selects C y y).before args s = true)
    (hcode : (Cond.code y bytes maxL ret).before args s = true) (hy : y.cls ≠ "java/lang/invoke/MethodHandle" ∧ y.cls ≠ "java/lang/invoke/VarHandle")
    {W9 : Nat} {Pre : Pt → Array Value → Prop} {Post : Pt → Array Value → Option Value → Pt → Prop} {PostX : Pt → Array Value → Addr → Pt → Prop} (hK : vx_Back l R p e below s args y 3 W9 Pre Post PostX)
    {b : Addr} {cellB : Cell} (hcell : T.heap[b]? = some cellB) (hobj : cellB.vm.isStatics = false) (hcls : s.vm.findClass C = some cellB.cls)
    {g : JFrame} (hg : g.method = m) (hsize : g.locals.size = c.maxLocals) {argsL rest : List Value} (hlen : ∀ sig, parseMethodDescriptor y.desc = some sig → argsL.length = sig.parameters.length)
    (hstack : g.stack = argsL.reverse ++ .ref b :: rest) (hW : 2 * g.monitorRoom + (rest.map fun v => v.category).sum ≤ W9) (hdg : decode c.code g.pc = .ok (.invokevirtual index, 3))
    (hpre : ∀ vm₁, s.WarmedH vm₁ → Pre ⟨T.setVm vm₁, locs, cells, slots⟩ (Value.ref b :: argsL).toArray) :
    (∃ (v : Option Value) (vm₁ : Vm) (B : Pt), s.WarmedH vm₁ ∧ Stand p l e R s m args below meth c B.U B.locs B.cells B.slots ∧ Post ⟨T.setVm vm₁, locs, cells, slots⟩ (Value.ref b :: argsL).toArray v B ∧
      ∀ target, Steps p.tables e below (B.U.setTop { g with pc := g.pc + 3, stack := v.toList ++ rest }) target → Steps p.tables e below (T.setTop g) target) ∨
    (∃ (q : Addr) (vm₁ : Vm) (B : Pt), s.WarmedH vm₁ ∧ Stand p l e R s m args below meth c B.U B.locs B.cells B.slots ∧ PostX ⟨T.setVm vm₁, locs, cells, slots⟩ (Value.ref b :: argsL).toArray q B ∧
      Steps p.tables e below (T.setTop g) ((B.U.setTop { g with stack := rest }).pushFrame (.throwing q))) := by
  obtain ⟨mk, methM, hnamed, hmethM, hstM, habM⟩ := Cond.instanceMethod_spec hinst
  obtain ⟨methM', cM, hmethM', -, -, -, -, -, -, hsigM⟩ := Cond.code_spec hnamed hcode
  cases hmethM.symm.trans hmethM'
  obtain ⟨c2, r2, m2, q1, q2, q3, q4, kP, hkP, hkPi⟩ := Cond.selects_spec hsel
  cases hcls.symm.trans q1
  cases (State.methodFound?_of_named hnamed hy).symm.trans q2
  cases hnamed.symm.trans q3
  have hselP : selectMethod e.platform s.vm cellB.cls mk = .method mk := by rw [Launch.admits_selectMethod X.admits]; exact q4
  obtain ⟨vm₁, X₁, hstep₁⟩ := X.invokevirtual hexec hown hlink hnamed hmethM hstM hkP hkPi hy (a := b) (cell := cellB) hcell
    (fun z h => by rw [h] at hobj; cases hobj) hselP hmethM habM hkP hkPi (g := g) hg (argsL := argsL) (rest := rest) (hlen _ hsigM) hstack hdg
  rcases hK m meth c ⟨T.setVm vm₁, locs, cells, slots⟩ { g with stack := rest } (.invokevirtual index) mk (Value.ref b :: argsL).toArray X₁ hg hsize hdg hW (X₁.named hnamed) (hpre vm₁ X₁.warmed) with ⟨v, B, X', hpost, hsteps⟩ | ⟨q, B, X', hpost, hsteps⟩
  · exact Or.inl ⟨v, vm₁, B, X₁.warmed, X', hpost, fun target h => hstep₁ _ fun acts => by rw [doInvoke_state]; exact hsteps.trans h⟩
  · exact Or.inr ⟨q, vm₁, B, X₁.warmed, X', hpost, hstep₁ _ fun acts => by rw [doInvoke_state]; exact hsteps⟩
theorem vx_callS (X : Stand p l e R s m args below meth c T locs cells slots) (hexec : p.tables.exec = Jvm.exec) {own : String} {index : Nat} {y : MethodName} {bytes : ByteArray} {maxL : Nat} {ret : Option FieldType}
    (hown : s.vm.findClass own = some m.cls) (hlink : (Cond.methodLink own index y).before args s = true) (hstat : (Cond.static y).before args s = true) (hinit : (Cond.initialized y.cls).before args s = true)
    (hcode : (Cond.code y bytes maxL ret).before args s = true) (hy : y.cls ≠ "java/lang/invoke/MethodHandle" ∧ y.cls ≠ "java/lang/invoke/VarHandle")
    {W9 : Nat} {Pre : Pt → Array Value → Prop} {Post : Pt → Array Value → Option Value → Pt → Prop} {PostX : Pt → Array Value → Addr → Pt → Prop} (hK : vx_Back l R p e below s args y 3 W9 Pre Post PostX)
    {g : JFrame} (hg : g.method = m) (hsize : g.locals.size = c.maxLocals) {argsL rest : List Value} (hlen : ∀ sig, parseMethodDescriptor y.desc = some sig → argsL.length = sig.parameters.length)
    (hstack : g.stack = argsL.reverse ++ rest) (hW : 2 * g.monitorRoom + (rest.map fun v => v.category).sum ≤ W9) (hdg : decode c.code g.pc = .ok (.invokestatic index, 3))
    (hpre : ∀ vm₁, s.WarmedH vm₁ → Pre ⟨T.setVm vm₁, locs, cells, slots⟩ argsL.toArray) :
    (∃ (v : Option Value) (vm₁ : Vm) (B : Pt), s.WarmedH vm₁ ∧ Stand p l e R s m args below meth c B.U B.locs B.cells B.slots ∧ Post ⟨T.setVm vm₁, locs, cells, slots⟩ argsL.toArray v B ∧
      ∀ target, Steps p.tables e below (B.U.setTop { g with pc := g.pc + 3, stack := v.toList ++ rest }) target → Steps p.tables e below (T.setTop g) target) ∨
    (∃ (q : Addr) (vm₁ : Vm) (B : Pt), s.WarmedH vm₁ ∧ Stand p l e R s m args below meth c B.U B.locs B.cells B.slots ∧ PostX ⟨T.setVm vm₁, locs, cells, slots⟩ argsL.toArray q B ∧
      Steps p.tables e below (T.setTop g) ((B.U.setTop { g with stack := rest }).pushFrame (.throwing q))) := by
  obtain ⟨mk, hnamed⟩ := Cond.code_named hcode
  obtain ⟨methM, cM, hmethM, -, -, -, -, -, -, hsigM⟩ := Cond.code_spec hnamed hcode
  have hstatic : methM.isStatic = true := Cond.static_spec hnamed hmethM hstat
  obtain ⟨kP, hkP, -⟩ := className_of_methodNamed hnamed
  have hinitP : kP.init = .initialized := Cond.initialized_spec (findClass_of_methodNamed hnamed) hkP hinit
  obtain ⟨vm₁, X₁, hstep₁⟩ := X.invokestatic hexec hown hlink hnamed hmethM hstatic hkP hinitP hy (g := g) hg (argsL := argsL) (rest := rest) (hlen _ hsigM) hstack hdg
  rcases hK m meth c ⟨T.setVm vm₁, locs, cells, slots⟩ { g with stack := rest } (.invokestatic index) mk argsL.toArray X₁ hg hsize hdg hW (X₁.named hnamed) (hpre vm₁ X₁.warmed) with ⟨v, B, X', hpost, hsteps⟩ | ⟨q, B, X', hpost, hsteps⟩
  · exact Or.inl ⟨v, vm₁, B, X₁.warmed, X', hpost, fun target h => hstep₁ _ fun acts => by rw [doInvoke_state]; exact hsteps.trans h⟩
  · exact Or.inr ⟨q, vm₁, B, X₁.warmed, X', hpost, hstep₁ _ fun acts => by rw [doInvoke_state]; exact hsteps⟩
end Calls
theorem vx_cls {s : State} {T : State} {vm₁ : Vm} {E : String} {k : ClassId} (hW : s.WarmedH vm₁) (h : (T.setVm vm₁).vm.findClass E = some k) : s.vm.findClass E = some k := by
  have h1 : vm₁.findClass E = some k := h
  rw [hW.alike.findClass] at h1
  exact h1
/-- the method's frame g, with q thrown over it -/
def vx_W (p : Program) (l : Launch) (e : Env) (R : Room) (s : State) (m : MethodId) (args : Array Value) (below : List Frame) (meth : Method) (c : Code) (H : Heap) (locs : List Loc) (cells slots : Nat) (Q : State → Prop) (g : JFrame) (q : Addr) : Prop :=
  ∀ T : State, T.heap = H → Stand p l e R s m args below meth c T locs cells slots → ∃ t, Steps p.tables e below ((T.setTop g).pushFrame (.throwing q)) t ∧ Q t
def vx_Run (p : Program) (l : Launch) (e : Env) (R : Room) (s : State) (m : MethodId) (args : Array Value) (below : List Frame) (meth : Method) (c : Code) (H : Heap) (locs : List Loc) (cells slots mc ms : Nat) (g : JFrame) (rest : List Value) (Qa : State → Outcome → State → Prop) (XC : String → State → State → Prop) (free : Addr → Prop) : Prop :=
  ∀ T : State, T.heap = H → Stand p l e R s m args below meth c T locs cells slots →
    (∃ (v : Option Value) (st₀ t T' : State) (L : List Loc), st₀.heap = H ∧ Stand p l e R s m args below meth c T' (locs ++ L) (cells + mc) (slots + ms) ∧ (∀ q ∈ L, free q.base) ∧ T'.heap = t.heap ∧ T'.vm = t.vm ∧ Qa st₀ (.returned v) t ∧
      Goes p e below T g T' { g with pc := g.pc + 3, stack := v.toList ++ rest }) ∨
    (∃ (q : Addr) (st₀ t T' : State) (L : List Loc) (E : String) (ce : Cell), st₀.heap = H ∧ Stand p l e R s m args below meth c T' (locs ++ L) (cells + mc) (slots + ms) ∧ (∀ z ∈ L, free z.base) ∧ T'.heap = t.heap ∧ T'.vm = t.vm ∧ XC E st₀ t ∧ t.heap[q]? = some ce ∧ ce.vm = .none ∧ s.vm.findClass E = some ce.cls ∧
      Steps p.tables e below (T.setTop g) ((T'.setTop { g with stack := rest }).pushFrame (.throwing q)))
def vx_X {S : Type} (px : S → Prop) (B : String → S → State → Prop) (A : Nat → Prop) : String → State → State → Prop := fun E st t => ∃ u : S, px u ∧ B E u t ∧ va_F A st t
section Runs
variable {p : Program} {l : Launch} {e : Env} {R : Room} {s : State} {m : MethodId} {args : Array Value} {below : List Frame} {meth : Method} {c : Code} {H : Heap} {locs : List Loc} {cells slots : Nat}
variable {y : MethodName} {bytes cc : ByteArray} {maxL nL mc ms n index : Nat} {ret : Option FieldType} {ws : List Cond} {rm : Room} {Pc : Array Value → State → Prop} {Qc : Array Value → State → Outcome → State → Prop} {XC : String → State → State → Prop} {free : Addr → Prop} {Ts : List Cond} {own C : String} {b : Addr} {As rest : List Value} {g : JFrame}
theorem vx_callBack (cb : CallB R s args own index y bytes maxL ret ws rm mc ms n) (hM : vx_Met l y ws rm Pc Qc XC mc ms free) (hbl : FrameBlind Pc) : vx_Back l R p e below s args y 3 8 (PreOf R mc ms Pc) (PostOf Qc mc ms free) (vx_Post XC mc ms free) := by
  obtain ⟨hrc, hrs, hfr, hlo, hws, hcw, -, hini, -⟩ := cb
  exact vx_back (bytes := bytes) (maxL := maxL) (ret := ret) hM hbl hrc hrs hfr hlo hws hcw (fun a' U hW => word_at hW (Or.inl (by first | rfl | simp [Cond.onTables, Cond.keeps, Cond.steady])) hini)
theorem vx_runV (S : CallFix p m c cc nL s args Ts own) (hM : vx_Met l y ws rm Pc Qc XC mc ms free) (cw : CallW R s args own C index y bytes maxL ret ws rm mc ms n) (hp : PreV s H C b Pc As)
    (hg : g.method = m) (hn : As.length = n) (hsize : g.locals.size = nL) (hstack : g.stack = As.reverse ++ .ref b :: rest) (hW : 2 * g.monitorRoom + (rest.map fun v => v.category).sum ≤ 8) (hdg : decode cc g.pc = .ok (.invokevirtual index, 3)) (hf : cells + mc ≤ R.cells ∧ slots + ms ≤ R.slots) :
    vx_Run p l e R s m args below meth c H locs cells slots mc ms g rest (Qc (Value.ref b :: As).toArray) XC free := by
  have hK : vx_Back l R p e below s args y 3 8 (PreOf R mc ms Pc) (PostOf Qc mc ms free) (vx_Post XC mc ms free) := vx_callBack cw.1 hM hp.1
  obtain ⟨⟨-, -, -, -, -, -, hcode, -, hy, hlen, hl⟩, hin, hse⟩ := cw
  obtain ⟨hx, hb, hml, ho, -⟩ := S
  obtain ⟨-, ⟨cellB, hcB, hoB, hclB⟩, hPc⟩ := hp
  intro T hT X
  rcases vx_callV X hx (C := C) (bytes := bytes) (maxL := maxL) (ret := ret) ho hl hin hse hcode hy hK (by rw [hT]; exact hcB) hoB hclB hg (hsize.trans hml.symm) (argsL := As) (rest := rest) (fun sig h => hn.trans (hlen sig h)) hstack hW (by rw [hb]; exact hdg)
    (fun vm₁ hW₁ => ⟨hf.1, hf.2, hPc (T.setVm vm₁) hT hW₁⟩) with ⟨v, vm₁, ⟨U', l2, c2, s2⟩, hW₁, X', ⟨g', mk, t, L, e1, e2, hq, h1, hL, h2, h3⟩, st⟩ | ⟨q, vm₁, ⟨U', l2, c2, s2⟩, hW₁, X', ⟨g', mk, t, L, E, ce, e1, e2, hq, hce, hcv, hcl, h1, hL, h2, h3⟩, st⟩
  · dsimp only [Pt.U, Pt.locs, Pt.cells, Pt.slots] at X' e1 e2 h1 h2 h3 st
    subst h1; subst h2; subst h3
    exact Or.inl ⟨v, (T.setVm vm₁).calling g' mk (Value.ref b :: As).toArray, t, U', L, hT, X', hL, e1, e2, hq, st⟩
  · dsimp only [Pt.U, Pt.locs, Pt.cells, Pt.slots] at X' e1 e2 h1 h2 h3 st hcl
    subst h1; subst h2; subst h3
    exact Or.inr ⟨q, (T.setVm vm₁).calling g' mk (Value.ref b :: As).toArray, t, U', L, E, ce, hT, X', hL, e1, e2, hq, hce, hcv, vx_cls hW₁ hcl, st⟩
theorem vx_runS (S : CallFix p m c cc nL s args Ts own) (hM : vx_Met l y ws rm Pc Qc XC mc ms free) (cw : CallB R s args own index y bytes maxL ret ws rm mc ms n ∧ (Cond.static y).before args s = true) (hp : PreS s H Pc As)
    (hg : g.method = m) (hn : As.length = n) (hsize : g.locals.size = nL) (hstack : g.stack = As.reverse ++ rest) (hW : 2 * g.monitorRoom + (rest.map fun v => v.category).sum ≤ 8) (hdg : decode cc g.pc = .ok (.invokestatic index, 3)) (hf : cells + mc ≤ R.cells ∧ slots + ms ≤ R.slots) :
    vx_Run p l e R s m args below meth c H locs cells slots mc ms g rest (Qc As.toArray) XC free := by
  have hK : vx_Back l R p e below s args y 3 8 (PreOf R mc ms Pc) (PostOf Qc mc ms free) (vx_Post XC mc ms free) := vx_callBack cw.1 hM hp.1
  obtain ⟨⟨-, -, -, -, -, -, hcode, hini, hy, hlen, hl⟩, hstt⟩ := cw
  obtain ⟨hx, hb, hml, ho, -⟩ := S
  intro T hT X
  rcases vx_callS X hx (bytes := bytes) (maxL := maxL) (ret := ret) ho hl hstt hini hcode hy hK hg (hsize.trans hml.symm) (argsL := As) (rest := rest) (fun sig h => hn.trans (hlen sig h)) hstack hW (by rw [hb]; exact hdg)
    (fun vm₁ hW₁ => ⟨hf.1, hf.2, hp.2 (T.setVm vm₁) hT hW₁⟩) with ⟨v, vm₁, ⟨U', l2, c2, s2⟩, hW₁, X', ⟨g', mk, t, L, e1, e2, hq, h1, hL, h2, h3⟩, st⟩ | ⟨q, vm₁, ⟨U', l2, c2, s2⟩, hW₁, X', ⟨g', mk, t, L, E, ce, e1, e2, hq, hce, hcv, hcl, h1, hL, h2, h3⟩, st⟩
  · dsimp only [Pt.U, Pt.locs, Pt.cells, Pt.slots] at X' e1 e2 h1 h2 h3 st
    subst h1; subst h2; subst h3
    exact Or.inl ⟨v, (T.setVm vm₁).calling g' mk As.toArray, t, U', L, hT, X', hL, e1, e2, hq, st⟩
  · dsimp only [Pt.U, Pt.locs, Pt.cells, Pt.slots] at X' e1 e2 h1 h2 h3 st hcl
    subst h1; subst h2; subst h3
    exact Or.inr ⟨q, (T.setVm vm₁).calling g' mk As.toArray, t, U', L, E, ce, hT, X', hL, e1, e2, hq, hce, hcv, vx_cls hW₁ hcl, st⟩
end Runs
section Rows
variable {p : Program} {l : Launch} {e : Env} {R : Room} {s : State} {m : MethodId} {args : Array Value} {below : List Frame} {meth : Method} {c : Code} {H : Heap} {locs : List Loc} {cells slots : Nat} {Q : State → Prop}
variable {mc ms : Nat} {free : Addr → Prop} {A0 A1 : Nat → Prop} {H0 : Heap} {a : Array Value} {pc : Nat} {ls : Array Slot} {st0 rest : List Value}
theorem vx_keep {st₀ t T' : State} {L : List Loc} (h0 : st₀.heap = H) (e1 : T'.heap = t.heap) (hS : va_S A0 H0 H locs) (hA : ∀ q, q < H.size → A1 q → A0 q) (hf : ∀ q, free q → A0 q) (hL : ∀ q ∈ L, free q.base) (hF : va_F A1 st₀ t) :
    H.size ≤ T'.heap.size ∧ (∀ q : Nat, q < H.size → ¬ A1 q → T'.heap[q]? = H[q]?) ∧ va_S A0 H0 T'.heap (locs ++ L) := by
  obtain ⟨hz, hk⟩ := hF
  rw [h0] at hz hk
  exact ⟨by rw [e1]; exact hz, fun q h1 h2 => by rw [e1]; exact hk q h1 h2,
    ⟨Nat.le_trans hS.1 (by rw [e1]; exact hz), fun q h1 h2 => by rw [e1, hk q (Nat.lt_of_lt_of_le h1 hS.1) (fun z => h2 (hA q (Nat.lt_of_lt_of_le h1 hS.1) z))]; exact hS.2.1 q h1 h2, fun q hq => by
      rcases List.mem_append.mp hq with h | h
      · exact hS.2.2 q h
      · exact hf _ (hL q h)⟩⟩
theorem vx_calli {S SX : Type} {post : Int32 → S → Prop} {px : SX → Prop} {B : S → State → Prop} {BX : String → SX → State → Prop} {AX : Nat → Prop} (hr : vx_Run p l e R s m args below meth c H locs cells slots mc ms (F0 m pc ls st0) rest (va_Qi post B A1 a) (vx_X px BX AX) free) (hS : va_S A0 H0 H locs) (hA : ∀ q, q < H.size → A1 q → A0 q) (hf : ∀ q, free q → A0 q) (hAX : ∀ q, q < H.size → AX q → A0 q)
    (kx : ∀ (E : String) (ce : Cell) (q9 : Addr) (u : SX) (t : State) (H1 : Heap) (locs1 : List Loc), t.heap = H1 → s.vm.Alike t.vm → px u → BX E u t → H.size ≤ H1.size → (∀ q : Nat, q < H.size → ¬ AX q → H1[q]? = H[q]?) → va_S A0 H0 H1 locs1 → H1[q9]? = some ce → ce.vm = .none → s.vm.findClass E = some ce.cls → vx_W p l e R s m args below meth c H1 locs1 (cells + mc) (slots + ms) Q (F0 m pc ls rest) q9)
    (kk : ∀ (r : Int32) (u : S) (t : State) (H1 : Heap) (locs1 : List Loc), t.heap = H1 → s.vm.Alike t.vm → post r u → B u t → H.size ≤ H1.size → (∀ q : Nat, q < H.size → ¬ A1 q → H1[q]? = H[q]?) → va_S A0 H0 H1 locs1 → W p l e R s m args below meth c H1 locs1 (cells + mc) (slots + ms) Q (F0 m (pc + 3) ls (.int r :: rest))) : W p l e R s m args below meth c H locs cells slots Q (F0 m pc ls st0) := by
  intro T hT X
  rcases hr T hT X with ⟨v, st₀, t, T', L, h0, X', hL, e1, e2, ⟨⟨r, u, hv, hp, hb⟩, hF⟩, st⟩ | ⟨q, st₀, t, T', L, E, ce, h0, X', hL, e1, e2, ⟨u, hp, hb, hF⟩, hce, hcv, hcl, st⟩
  · cases hv
    obtain ⟨k1, k2, k3⟩ := vx_keep h0 e1 hS hA hf hL hF
    obtain ⟨t2, a1, b1⟩ := kk r u t T'.heap (locs ++ L) e1.symm (by rw [← e2]; exact X'.warmed.alike) hp hb k1 k2 k3 T' rfl X'
    exact ⟨t2, st t2 a1, b1⟩
  · obtain ⟨k1, k2, k3⟩ := vx_keep h0 e1 hS hAX hf hL hF
    obtain ⟨t2, a1, b1⟩ := kx E ce q u t T'.heap (locs ++ L) e1.symm (by rw [← e2]; exact X'.warmed.alike) hp hb k1 k2 k3 (by rw [e1]; exact hce) hcv hcl T' rfl X'
    exact ⟨t2, st.trans a1, b1⟩
theorem vx_calll {S SX : Type} {post : Int64 → S → Prop} {px : SX → Prop} {B : S → State → Prop} {BX : String → SX → State → Prop} {AX : Nat → Prop} (hr : vx_Run p l e R s m args below meth c H locs cells slots mc ms (F0 m pc ls st0) rest (va_Ql post B A1 a) (vx_X px BX AX) free) (hS : va_S A0 H0 H locs) (hA : ∀ q, q < H.size → A1 q → A0 q) (hf : ∀ q, free q → A0 q) (hAX : ∀ q, q < H.size → AX q → A0 q)
    (kx : ∀ (E : String) (ce : Cell) (q9 : Addr) (u : SX) (t : State) (H1 : Heap) (locs1 : List Loc), t.heap = H1 → s.vm.Alike t.vm → px u → BX E u t → H.size ≤ H1.size → (∀ q : Nat, q < H.size → ¬ AX q → H1[q]? = H[q]?) → va_S A0 H0 H1 locs1 → H1[q9]? = some ce → ce.vm = .none → s.vm.findClass E = some ce.cls → vx_W p l e R s m args below meth c H1 locs1 (cells + mc) (slots + ms) Q (F0 m pc ls rest) q9)
    (kk : ∀ (r : Int64) (u : S) (t : State) (H1 : Heap) (locs1 : List Loc), t.heap = H1 → s.vm.Alike t.vm → post r u → B u t → H.size ≤ H1.size → (∀ q : Nat, q < H.size → ¬ A1 q → H1[q]? = H[q]?) → va_S A0 H0 H1 locs1 → W p l e R s m args below meth c H1 locs1 (cells + mc) (slots + ms) Q (F0 m (pc + 3) ls (.long r :: rest))) : W p l e R s m args below meth c H locs cells slots Q (F0 m pc ls st0) := by
  intro T hT X
  rcases hr T hT X with ⟨v, st₀, t, T', L, h0, X', hL, e1, e2, ⟨⟨r, u, hv, hp, hb⟩, hF⟩, st⟩ | ⟨q, st₀, t, T', L, E, ce, h0, X', hL, e1, e2, ⟨u, hp, hb, hF⟩, hce, hcv, hcl, st⟩
  · cases hv
    obtain ⟨k1, k2, k3⟩ := vx_keep h0 e1 hS hA hf hL hF
    obtain ⟨t2, a1, b1⟩ := kk r u t T'.heap (locs ++ L) e1.symm (by rw [← e2]; exact X'.warmed.alike) hp hb k1 k2 k3 T' rfl X'
    exact ⟨t2, st t2 a1, b1⟩
  · obtain ⟨k1, k2, k3⟩ := vx_keep h0 e1 hS hAX hf hL hF
    obtain ⟨t2, a1, b1⟩ := kx E ce q u t T'.heap (locs ++ L) e1.symm (by rw [← e2]; exact X'.warmed.alike) hp hb k1 k2 k3 (by rw [e1]; exact hce) hcv hcl T' rfl X'
    exact ⟨t2, st.trans a1, b1⟩
theorem vx_callf {S SX : Type} {post : UInt32 → S → Prop} {px : SX → Prop} {B : S → State → Prop} {BX : String → SX → State → Prop} {AX : Nat → Prop} (hr : vx_Run p l e R s m args below meth c H locs cells slots mc ms (F0 m pc ls st0) rest (va_Qf post B A1 a) (vx_X px BX AX) free) (hS : va_S A0 H0 H locs) (hA : ∀ q, q < H.size → A1 q → A0 q) (hf : ∀ q, free q → A0 q) (hAX : ∀ q, q < H.size → AX q → A0 q)
    (kx : ∀ (E : String) (ce : Cell) (q9 : Addr) (u : SX) (t : State) (H1 : Heap) (locs1 : List Loc), t.heap = H1 → s.vm.Alike t.vm → px u → BX E u t → H.size ≤ H1.size → (∀ q : Nat, q < H.size → ¬ AX q → H1[q]? = H[q]?) → va_S A0 H0 H1 locs1 → H1[q9]? = some ce → ce.vm = .none → s.vm.findClass E = some ce.cls → vx_W p l e R s m args below meth c H1 locs1 (cells + mc) (slots + ms) Q (F0 m pc ls rest) q9)
    (kk : ∀ (r : UInt32) (u : S) (t : State) (H1 : Heap) (locs1 : List Loc), t.heap = H1 → s.vm.Alike t.vm → post r u → B u t → H.size ≤ H1.size → (∀ q : Nat, q < H.size → ¬ A1 q → H1[q]? = H[q]?) → va_S A0 H0 H1 locs1 → W p l e R s m args below meth c H1 locs1 (cells + mc) (slots + ms) Q (F0 m (pc + 3) ls (.float r :: rest))) : W p l e R s m args below meth c H locs cells slots Q (F0 m pc ls st0) := by
  intro T hT X
  rcases hr T hT X with ⟨v, st₀, t, T', L, h0, X', hL, e1, e2, ⟨⟨r, u, hv, hp, hb⟩, hF⟩, st⟩ | ⟨q, st₀, t, T', L, E, ce, h0, X', hL, e1, e2, ⟨u, hp, hb, hF⟩, hce, hcv, hcl, st⟩
  · cases hv
    obtain ⟨k1, k2, k3⟩ := vx_keep h0 e1 hS hA hf hL hF
    obtain ⟨t2, a1, b1⟩ := kk r u t T'.heap (locs ++ L) e1.symm (by rw [← e2]; exact X'.warmed.alike) hp hb k1 k2 k3 T' rfl X'
    exact ⟨t2, st t2 a1, b1⟩
  · obtain ⟨k1, k2, k3⟩ := vx_keep h0 e1 hS hAX hf hL hF
    obtain ⟨t2, a1, b1⟩ := kx E ce q u t T'.heap (locs ++ L) e1.symm (by rw [← e2]; exact X'.warmed.alike) hp hb k1 k2 k3 (by rw [e1]; exact hce) hcv hcl T' rfl X'
    exact ⟨t2, st.trans a1, b1⟩
theorem vx_calld {S SX : Type} {post : UInt64 → S → Prop} {px : SX → Prop} {B : S → State → Prop} {BX : String → SX → State → Prop} {AX : Nat → Prop} (hr : vx_Run p l e R s m args below meth c H locs cells slots mc ms (F0 m pc ls st0) rest (va_Qd post B A1 a) (vx_X px BX AX) free) (hS : va_S A0 H0 H locs) (hA : ∀ q, q < H.size → A1 q → A0 q) (hf : ∀ q, free q → A0 q) (hAX : ∀ q, q < H.size → AX q → A0 q)
    (kx : ∀ (E : String) (ce : Cell) (q9 : Addr) (u : SX) (t : State) (H1 : Heap) (locs1 : List Loc), t.heap = H1 → s.vm.Alike t.vm → px u → BX E u t → H.size ≤ H1.size → (∀ q : Nat, q < H.size → ¬ AX q → H1[q]? = H[q]?) → va_S A0 H0 H1 locs1 → H1[q9]? = some ce → ce.vm = .none → s.vm.findClass E = some ce.cls → vx_W p l e R s m args below meth c H1 locs1 (cells + mc) (slots + ms) Q (F0 m pc ls rest) q9)
    (kk : ∀ (r : UInt64) (u : S) (t : State) (H1 : Heap) (locs1 : List Loc), t.heap = H1 → s.vm.Alike t.vm → post r u → B u t → H.size ≤ H1.size → (∀ q : Nat, q < H.size → ¬ A1 q → H1[q]? = H[q]?) → va_S A0 H0 H1 locs1 → W p l e R s m args below meth c H1 locs1 (cells + mc) (slots + ms) Q (F0 m (pc + 3) ls (.double r :: rest))) : W p l e R s m args below meth c H locs cells slots Q (F0 m pc ls st0) := by
  intro T hT X
  rcases hr T hT X with ⟨v, st₀, t, T', L, h0, X', hL, e1, e2, ⟨⟨r, u, hv, hp, hb⟩, hF⟩, st⟩ | ⟨q, st₀, t, T', L, E, ce, h0, X', hL, e1, e2, ⟨u, hp, hb, hF⟩, hce, hcv, hcl, st⟩
  · cases hv
    obtain ⟨k1, k2, k3⟩ := vx_keep h0 e1 hS hA hf hL hF
    obtain ⟨t2, a1, b1⟩ := kk r u t T'.heap (locs ++ L) e1.symm (by rw [← e2]; exact X'.warmed.alike) hp hb k1 k2 k3 T' rfl X'
    exact ⟨t2, st t2 a1, b1⟩
  · obtain ⟨k1, k2, k3⟩ := vx_keep h0 e1 hS hAX hf hL hF
    obtain ⟨t2, a1, b1⟩ := kx E ce q u t T'.heap (locs ++ L) e1.symm (by rw [← e2]; exact X'.warmed.alike) hp hb k1 k2 k3 (by rw [e1]; exact hce) hcv hcl T' rfl X'
    exact ⟨t2, st.trans a1, b1⟩
theorem vx_callv {S SX : Type} {post : S → Prop} {px : SX → Prop} {B : S → State → Prop} {BX : String → SX → State → Prop} {AX : Nat → Prop} (hr : vx_Run p l e R s m args below meth c H locs cells slots mc ms (F0 m pc ls st0) rest (va_Qv post B A1 a) (vx_X px BX AX) free) (hS : va_S A0 H0 H locs) (hA : ∀ q, q < H.size → A1 q → A0 q) (hf : ∀ q, free q → A0 q) (hAX : ∀ q, q < H.size → AX q → A0 q)
    (kx : ∀ (E : String) (ce : Cell) (q9 : Addr) (u : SX) (t : State) (H1 : Heap) (locs1 : List Loc), t.heap = H1 → s.vm.Alike t.vm → px u → BX E u t → H.size ≤ H1.size → (∀ q : Nat, q < H.size → ¬ AX q → H1[q]? = H[q]?) → va_S A0 H0 H1 locs1 → H1[q9]? = some ce → ce.vm = .none → s.vm.findClass E = some ce.cls → vx_W p l e R s m args below meth c H1 locs1 (cells + mc) (slots + ms) Q (F0 m pc ls rest) q9)
    (kk : ∀ (u : S) (t : State) (H1 : Heap) (locs1 : List Loc), t.heap = H1 → s.vm.Alike t.vm → post u → B u t → H.size ≤ H1.size → (∀ q : Nat, q < H.size → ¬ A1 q → H1[q]? = H[q]?) → va_S A0 H0 H1 locs1 → W p l e R s m args below meth c H1 locs1 (cells + mc) (slots + ms) Q (F0 m (pc + 3) ls (rest))) : W p l e R s m args below meth c H locs cells slots Q (F0 m pc ls st0) := by
  intro T hT X
  rcases hr T hT X with ⟨v, st₀, t, T', L, h0, X', hL, e1, e2, ⟨⟨u, hv, hp, hb⟩, hF⟩, st⟩ | ⟨q, st₀, t, T', L, E, ce, h0, X', hL, e1, e2, ⟨u, hp, hb, hF⟩, hce, hcv, hcl, st⟩
  · cases hv
    obtain ⟨k1, k2, k3⟩ := vx_keep h0 e1 hS hA hf hL hF
    obtain ⟨t2, a1, b1⟩ := kk u t T'.heap (locs ++ L) e1.symm (by rw [← e2]; exact X'.warmed.alike) hp hb k1 k2 k3 T' rfl X'
    exact ⟨t2, st t2 a1, b1⟩
  · obtain ⟨k1, k2, k3⟩ := vx_keep h0 e1 hS hAX hf hL hF
    obtain ⟨t2, a1, b1⟩ := kx E ce q u t T'.heap (locs ++ L) e1.symm (by rw [← e2]; exact X'.warmed.alike) hp hb k1 k2 k3 (by rw [e1]; exact hce) hcv hcl T' rfl X'
    exact ⟨t2, st.trans a1, b1⟩
end Rows
section Ends
variable {p : Program} {l : Launch} {e : Env} {R : Room} {s : State} {m : MethodId} {args : Array Value} {below : List Frame} {meth : Method} {c : Code} {H : Heap} {locs : List Loc} {cells slots : Nat} {Q : State → Prop}
variable {mc ms : Nat} {free : Addr → Prop} {A0 A1 : Nat → Prop} {H0 : Heap} {a : Array Value} {ls : Array Slot} {st0 rest : List Value}
variable {Qc : Array Value → State → Outcome → State → Prop} {XC : String → State → State → Prop}
/-- what a body that may throw owes at its end -/
def vx_MQ (below : List Frame) (Qc : Array Value → State → Outcome → State → Prop) (XC : String → State → State → Prop) (a : Array Value) (s : State) (mc ms : Nat) (free : Addr → Prop) : State → Prop := fun t =>
  ∃ o, t.status = .running ∧ Ended t below o ∧ vx_Q Qc XC mc ms free a s o t
theorem vx_ret {g : JFrame} {mc ms : Nat} (k : W p l e R s m args below meth c H locs cells slots (MQ below Qc args s mc ms free) g) : W p l e R s m args below meth c H locs cells slots (vx_MQ below Qc XC args s mc ms free) g := by
  intro T hT X
  obtain ⟨t, a1, o, b1, b2, b3, b4⟩ := k T hT X
  exact ⟨t, a1, o, b1, b2, Or.inl ⟨b3, b4⟩⟩
/-- not caught here: it goes on to the caller -/
theorem vx_widen {g : JFrame} {q : Addr} {k n : Nat} (h1 : cells ≤ k) (h2 : slots ≤ n) (kk : vx_W p l e R s m args below meth c H locs k n Q g q) : vx_W p l e R s m args below meth c H locs cells slots Q g q := fun T hT X => kk T hT (stand_widen X h1 h2)
theorem vx_out {pc : Nat} {E : String} {ce : Cell} {q : Addr} {mc ms : Nat} (hout : ∀ x ∈ c.exceptionTable.toList, covers x pc = false) (hlocks : meth.locks = false) (hcell : H[q]? = some ce) (hv : ce.vm = .none) (hcl : s.vm.findClass E = some ce.cls)
    (hx : ∀ t : State, t.heap = H → s.vm.Alike t.vm → XC E s t) (hf : ∀ z ∈ locs, free z.base) (hc : cells ≤ mc) (hs : slots ≤ ms) :
    vx_W p l e R s m args below meth c H locs cells slots (vx_MQ below Qc XC args s mc ms free) (F0 m pc ls rest) q := by
  intro T hT X
  obtain ⟨st1, hrun, hend, hW, hsm⟩ := X.leaveThrown q (g := F0 m pc ls rest) rfl rfl rfl hout hlocks
  have hcell9 : (T.setFrames (.throwing q :: below)).heap[q]? = some ce := by
    show T.heap[q]? = some ce
    rw [hT]; exact hcell
  exact ⟨_, st1, .threw q, hrun, hend, Or.inr ⟨q, rfl, E, ce, locs, hx _ hT hW.alike, hcell9, hv, hcl, hW, hsm.mono hc hs, hf⟩⟩
theorem vx_frame {U : State} {k n : Nat} (h : s.sameButNew ({ U with vm := s.vm } : State) locs k n) : s.heap.size ≤ U.heap.size ∧ ∀ q : Nat, q < s.heap.size → (∀ z ∈ locs, z.base ≠ q) → U.heap[q]? = s.heap[q]? := by
  obtain ⟨-, h2, -, -, -, h6⟩ := h
  refine ⟨h2, fun q hq hz => ?_⟩
  obtain ⟨c9, e1, e2, e3, e4⟩ := h6 q _ (Array.getElem?_eq_getElem hq)
  have hs : c9.slots = (s.heap[q]).slots := Array.ext_getElem? fun i => e4 i fun hm => hz _ hm rfl
  have h9 : c9 = s.heap[q] := by
    rw [hs] at e2
    exact e2
  have e5 : U.heap[q]? = some c9 := e1
  rw [e5, h9, Array.getElem?_eq_getElem hq]
/-- the words of a throw but the four that speak of the heap -/
def vx_no (w : Cond) : Bool := decide (w ≠ .isRef (.static Bundle.tN "UNASSIGNED_STACK" Bundle.steD)) && decide (w ≠ .isRef (.static Bundle.tN "SUPPRESSED_SENTINEL" Bundle.listD)) && decide (w ≠ .laysStatic Bundle.tN "UNASSIGNED_STACK" Bundle.steD) && decide (w ≠ .laysStatic Bundle.tN "SUPPRESSED_SENTINEL" Bundle.listD)
def vx_at0 (own : String) (ic : Nat) (X : String) (names : List String) : List Cond := (Bundle.ownAtoms0 own ic X names).filter vx_no
def vx_atS (own : String) (ic : Nat) (X : String) (names : List String) : List Cond := (Bundle.ownAtoms own ic X names).filter vx_no
/-- a word that the tables alone decide, or a good one -/
def vx_ot (w : Cond) : Bool := w.onTables || goodWord w
theorem vx_ot_at {args a' : Array Value} {s U : State} {w : Cond} (hW : s.WarmedH U.vm) (hvm : s.vm = U.vm) (hg : vx_ot w = true) (h : w.before args s = true) : w.before a' U = true := by
  simp only [vx_ot, Bool.or_eq_true] at hg
  rcases hg with hg | hg
  · exact va_tabs hg hvm h
  · exact word_at hW (good_of_word hg) h
/-- a list's words: the good ones out of the method's own list, the others by premises of their own -/
theorem vx_hat {args : Array Value} {s : State} {L B : List Cond} (h1 : ∀ w ∈ L.filter goodWord, w.before args s = true) (h2 : ∀ w ∈ L.filter (fun w => !goodWord w), w ∈ B) (h3 : ∀ w ∈ B, w.before args s = true) : ∀ w ∈ L, w.before args s = true := by
  intro w hw
  by_cases g : goodWord w = true
  · exact h1 w (List.mem_filter.mpr ⟨hw, g⟩)
  · refine h3 w (h2 w (List.mem_filter.mpr ⟨hw, ?_⟩))
    show (!goodWord w) = true
    cases hgw : goodWord w
    · rfl
    · exact absurd hgw g
theorem vx_c {args : Array Value} {s : State} {w : Cond} {B : List Cond} (h : w.before args s = true) (t : ∀ w ∈ B, w.before args s = true) : ∀ w' ∈ w :: B, w'.before args s = true := fun w' h' => (List.mem_cons.mp h').elim (fun e => by rw [e]; exact h) (t w')
theorem vx_n {args : Array Value} {s : State} : ∀ w ∈ ([] : List Cond), w.before args s = true := fun _ h => nomatch h
theorem vx_own {args : Array Value} {s : State} {L : List Cond} (h1 : ∀ w ∈ L.filter vx_no, w.before args s = true)
    (hU : (Cond.isRef (.static Bundle.tN "UNASSIGNED_STACK" Bundle.steD)).before args s = true) (hN : (Cond.isRef (.static Bundle.tN "SUPPRESSED_SENTINEL" Bundle.listD)).before args s = true)
    (lU : (Cond.laysStatic Bundle.tN "UNASSIGNED_STACK" Bundle.steD).before args s = true) (lN : (Cond.laysStatic Bundle.tN "SUPPRESSED_SENTINEL" Bundle.listD).before args s = true) : ∀ w ∈ L, w.before args s = true := by
  intro w hw
  by_cases e1 : w = .isRef (.static Bundle.tN "UNASSIGNED_STACK" Bundle.steD)
  · rw [e1]; exact hU
  · by_cases e2 : w = .isRef (.static Bundle.tN "SUPPRESSED_SENTINEL" Bundle.listD)
    · rw [e2]; exact hN
    · by_cases e3 : w = .laysStatic Bundle.tN "UNASSIGNED_STACK" Bundle.steD
      · rw [e3]; exact lU
      · by_cases e4 : w = .laysStatic Bundle.tN "SUPPRESSED_SENTINEL" Bundle.listD
        · rw [e4]; exact lN
        · exact h1 w (List.mem_filter.mpr ⟨hw, by unfold vx_no; rw [decide_eq_true e1, decide_eq_true e2, decide_eq_true e3, decide_eq_true e4]; rfl⟩)
/-- where a static field lies, its class's statics cell in H -/
def vx_L (C n d : String) (A : Nat → Prop) (U : State) (H : Heap) : Prop := ∃ (c : ClassId) (k : Class) (i : Nat) (f : Field) (a : Nat) (cell : Cell), U.vm.findClass C = some c ∧ U.fieldFound? C n d = some (c, k, i, f) ∧ f.isStatic = true ∧ k.statics = some a ∧ H[a]? = some cell ∧ cell.vm.isStatics = true ∧ cell.cls = c ∧ f.slot < cell.slots.size ∧ k.staticTypes[f.slot]? = some f.type ∧ ¬ A a
theorem vx_L.moved {C n d : String} {A : Nat → Prop} {u U : State} {H : Heap} (hvm : u.vm.Alike U.vm) (h : vx_L C n d A u H) : vx_L C n d A U H := by
  obtain ⟨c, k, i, f, a, cell, h1, h2, h3, h4, h5, h6, h7, h8, h9, h10⟩ := h
  obtain ⟨k', hi', he⟩ := State.fieldFound?_setVm hvm h2
  exact ⟨c, k', i, f, a, cell, by rw [hvm.findClass]; exact h1, hi', h3, by rw [he]; exact h4, h5, h6, h7, h8, by rw [he]; exact h9, h10⟩
theorem vx_L.kept {C n d : String} {A : Nat → Prop} {U : State} {H H1 : Heap} (h : vx_L C n d A U H) (hq : ∀ a : Nat, a < H.size → ¬ A a → H1[a]? = H[a]?) : vx_L C n d A U H1 := by
  obtain ⟨c, k, i, f, a, cell, h1, h2, h3, h4, h5, h6, h7, h8, h9, h10⟩ := h
  exact ⟨c, k, i, f, a, cell, h1, h2, h3, h4, by rw [hq a (Array.getElem?_eq_some_iff.mp h5).1 h10]; exact h5, h6, h7, h8, h9, h10⟩
theorem vx_L.narrow {C n d : String} {A B : Nat → Prop} {U : State} {H : Heap} (h : vx_L C n d A U H) (hAB : ∀ q, B q → A q) : vx_L C n d B U H := by
  obtain ⟨c, k, i, f, a, cell, h1, h2, h3, h4, h5, h6, h7, h8, h9, h10⟩ := h
  exact ⟨c, k, i, f, a, cell, h1, h2, h3, h4, h5, h6, h7, h8, h9, fun z => h10 (hAB _ z)⟩
theorem vx_L.word {C n d : String} {A : Nat → Prop} {s : State} {args : Array Value} (h : vx_L C n d A s s.heap) : (Cond.laysStatic C n d).before args s = true := by
  obtain ⟨c, k, i, f, a, cell, h1, h2, h3, h4, h5, h6, h7, h8, h9, -⟩ := h
  show (Cond.laysStatic C n d).holds args s none s [] = true
  exact Cond.laysStatic_of h1 h2 h3 h4 h5 h6 h7 h8 h9
/-- .. and what it holds: null or some reference -/
def vx_Zq (C n d : String) (A : Nat → Prop) (U : State) (H : Heap) : Prop := va_Zq C n d A U H ∧ vx_L C n d A U H
theorem vx_Zq.moved {C n d : String} {A : Nat → Prop} {u U : State} {H : Heap} (hvm : u.vm.Alike U.vm) (h : vx_Zq C n d A u H) : vx_Zq C n d A U H := ⟨va_Zq.moved hvm h.1, vx_L.moved hvm h.2⟩
theorem vx_Zq.kept {C n d : String} {A : Nat → Prop} {U : State} {H H1 : Heap} (h : vx_Zq C n d A U H) (hq : ∀ a : Nat, a < H.size → ¬ A a → H1[a]? = H[a]?) : vx_Zq C n d A U H1 := ⟨va_Zq.kept h.1 hq, vx_L.kept h.2 hq⟩
theorem vx_Zq.narrow {C n d : String} {A B : Nat → Prop} {U : State} {H : Heap} (h : vx_Zq C n d A U H) (hAB : ∀ q, B q → A q) : vx_Zq C n d B U H := ⟨va_Zq.narrow h.1 hAB, vx_L.narrow h.2 hAB⟩
theorem vx_Zqof {args : Array Value} {s : State} {C n d : String} {A : Nat → Prop} (hl : (Cond.laysStatic C n d).before args s = true) (hini : (Cond.initialized C).before args s = true) (h : (Cond.isRef (.static C n d)).before args s = true) (hA : ∀ a : Nat, a < s.heap.size → ¬ A a) : vx_Zq C n d A s s.heap := by
  refine ⟨va_Zqof hl hini h hA, ?_⟩
  obtain ⟨c, k, i, f, a, cell, h1, h2, h3, h4, h5, h6, h7, h8, h9⟩ := Cond.laysStatic_spec hl
  exact ⟨c, k, i, f, a, cell, h1, h2, h3, h4, h5, h6, h7, h8, h9, hA a (Array.getElem?_eq_some_iff.mp h5).1⟩
theorem vx_isRef {C n d : String} {v : Value} {A : Nat → Prop} {s : State} {args : Array Value} (h : va_Z C n d v A s s.heap) (hv : v.isRef = true) : (Cond.isRef (.static C n d)).before args s = true := by
  obtain ⟨cf, kf, fi, f, a, cell, h1, h2, h3, h4, h5, h6, h7, -⟩ := h
  have he : (Term.static C n d).eval args s none [] s = some v := by
    simp [Term.eval, State.fieldNamed?, h1, h2, h4, h5, h6, h7]
  simp only [Cond.before, Cond.holds, Cond.value, he]
  cases v <;> simp_all [Value.isRef]
theorem vx_isRefq {C n d : String} {A : Nat → Prop} {s : State} {args : Array Value} (h : va_Zq C n d A s s.heap) : (Cond.isRef (.static C n d)).before args s = true := by
  rcases h with h | ⟨t, h⟩
  · exact vx_isRef h rfl
  · exact vx_isRef h rfl
/-- the same frame, seen from here: as if the method were called anew in this heap -/
theorem vx_rebase {T : State} (X : Stand p l e R s m args below meth c T locs cells slots) {R' : Room} (hf : R'.frames ≤ R.frames) (hl : R'.locals ≤ R.locals) (hc : cells + R'.cells ≤ R.cells) (hs : slots + R'.slots ≤ R.slots) :
    Stand p l e R' ((T.setVm s.vm).setFrames (.invoking m args :: below)) m args below meth c T [] 0 0 := by
  have htop : (T.setVm s.vm).topJava?.isSome := X.here.top
  have hF : ((T.setVm s.vm).setFrames (.invoking m args :: below)).frames = .invoking m args :: below := State.frames_setFrames _ (State.cur_lt_of_top htop)
  obtain ⟨g₀, hg0⟩ := Option.isSome_iff_exists.mp htop
  obtain ⟨r, hr⟩ := State.topJava?_eq_some.mp hg0
  have hl9 : e.platform.stackLimits (T.setVm s.vm).me = e.platform.stackLimits s.me := X.limits
  have hb9 : (T.setVm s.vm).me.stackBytes = s.me.stackBytes := X.bytes
  refine ⟨X.admits, X.cas, X.clock, hF, ?_, X.hears, X.method, X.code, X.here, X.tail, X.warmed, ?_, ?_, ?_⟩
  · have h := X.room
    have hU : ((T.setVm s.vm).setFrames (.invoking m args :: below)).localsInUse = s.localsInUse := by
      rw [State.localsInUse_invoking hF (meth := meth) (c := c) X.method X.code, State.localsInUse_invoking X.frames X.method X.code]
    simp only [State.hasRoom, Bool.and_eq_true, decide_eq_true_eq] at h ⊢
    obtain ⟨⟨⟨⟨h1, h2, h3, h4, h5, h6⟩, h7⟩, h8⟩, h9⟩ := h
    rw [X.frames, List.length_cons] at h2 h3
    have q1 := X.heapSize
    have q2 := X.used
    simp only [hF, hU, List.length_cons, State.stackLimits_setFrames, State.stackBytes_setFrames, hl9, hb9]
    refine ⟨⟨⟨⟨by omega, by omega, by omega, by omega, by omega, h6⟩, ?_⟩, ?_⟩, X.book⟩
    · show T.heap.size + R'.cells ≤ e.platform.maxCells
      omega
    · show T.slotsUsed + R'.slots ≤ e.platform.maxSlots
      omega
  · rw [State.stackLimits_setFrames]; rfl
  · rw [State.stackBytes_setFrames]; rfl
  · refine ⟨?_, Nat.le_refl _, Nat.le_refl _, ?_, ?_, fun a c9 h9 => ⟨c9, h9, rfl, rfl, fun _ _ => rfl⟩⟩
    · obtain ⟨t, ht, -⟩ := State.frames_cons hr
      show T.setVm s.vm = { ((T.setVm s.vm).setFrames (.invoking m args :: below)).setFrames (T.setVm s.vm).frames with heap := T.heap, slotsUsed := T.slotsUsed }
      rw [State.setFrames_setFrames, State.setFrames_self ht]
      rfl
    · show T.slotsUsed = T.slotsUsed + ((T.heap.toList.drop T.heap.size).map (·.slots.size)).sum
      rw [List.drop_eq_nil_of_le (Nat.le_of_eq Array.length_toList)]
      rfl
    · show ((T.heap.toList.drop T.heap.size).map (·.slots.size)).sum ≤ 0
      rw [List.drop_eq_nil_of_le (Nat.le_of_eq Array.length_toList)]
      exact Nat.le_refl _
/-- 'throw new E()': new; dup; invokespecial; athrow -/
theorem vx_throw0 {cc : ByteArray} {pc : Nat} (hexec : p.tables.exec = Jvm.exec) (hb : c.code = cc) (hl : l.stackTraces = false) {own cls : String} {names : List String} {ik ic mc ms : Nat} {A : Nat → Prop}
    (hown : s.vm.findClass own = some m.cls) (hcls : Bundle.fit cls = true) (hnames : ∀ n ∈ names, Bundle.fit n = true)
    (hk : (Cond.classLink own ik cls).before args s = true) (hini : (Cond.initialized cls).before args s = true) (hat : ∀ w ∈ vx_at0 own ic cls names, w.before args s = true)
    (hgood : ∀ w ∈ Cond.classLink own ik cls :: Cond.initialized cls :: vx_at0 own ic cls names, vx_ot w = true)
    (hU : vx_Zq Bundle.tN "UNASSIGNED_STACK" Bundle.steD A s s.heap) (hN : vx_Zq Bundle.tN "SUPPRESSED_SENTINEL" Bundle.listD A s s.heap) (hS : va_S A s.heap H locs) (hsize : ls.size = c.maxLocals)
    (d0 : decode cc pc = .ok (.new ik, 3)) (d3 : decode cc (pc + 3) = .ok (.dup, 1)) (d4 : decode cc (pc + 4) = .ok (.invokespecial ic, 3)) (d7 : decode cc (pc + 7) = .ok (.athrow, 1))
    (hout : ∀ x ∈ c.exceptionTable.toList, covers x (pc + 7) = false)
    (hRframes : names.length + 3 < R.frames) (hRlocals : (rest.map fun v => v.category).sum + (13 * (names.length + 1) + 42) ≤ R.locals) (hRcells : cells + 1 ≤ R.cells) (hRslots : slots + 6 ≤ R.slots) (hlocks : meth.locks = false)
    (hx : ∀ t : State, s.vm.Alike t.vm → H.size ≤ t.heap.size → (∀ q : Nat, q < H.size → t.heap[q]? = H[q]?) → XC cls s t)
    (hf : ∀ z ∈ locs, free z.base) (hc : cells + 1 ≤ mc) (hs : slots + 6 ≤ ms) :
    W p l e R s m args below meth c H locs cells slots (vx_MQ below Qc XC args s mc ms free) (F0 m pc ls rest) := by
  intro T hT X
  have htr : e.platform.stackTraces = false := (show e.platform.stackTraces = l.stackTraces by rw [X.admits.platform]).trans hl
  have Y := vx_rebase X (R' := { frames := R.frames, locals := R.locals, cells := 1, slots := 6 }) (Nat.le_refl _) (Nat.le_refl _) hRcells hRslots
  obtain ⟨s', hA⟩ : ∃ z, z = (T.setVm s.vm).setFrames (.invoking m args :: below) := ⟨_, rfl⟩
  rw [← hA] at Y
  have hvm : s'.vm = s.vm := by rw [hA]; rfl
  have hhp : s'.heap = H := by rw [hA]; exact hT
  have hW0 : s.WarmedH s'.vm := by rw [hvm]; exact State.WarmedH.refl s
  have hat' : ∀ w ∈ vx_at0 own ic cls names, w.before args s' = true := fun w hw => vx_ot_at hW0 hvm.symm (hgood w (List.mem_cons_of_mem _ (List.mem_cons_of_mem _ hw))) (hat w hw)
  have hk' : (Cond.classLink own ik cls).before args s' = true := vx_ot_at hW0 hvm.symm (hgood _ List.mem_cons_self) hk
  have hini' : (Cond.initialized cls).before args s' = true := vx_ot_at hW0 hvm.symm (hgood _ (List.mem_cons_of_mem _ List.mem_cons_self)) hini
  have hU' : vx_Zq Bundle.tN "UNASSIGNED_STACK" Bundle.steD A s' s'.heap := by rw [hhp]; exact vx_Zq.moved hW0.alike (hU.kept hS.2.1)
  have hN' : vx_Zq Bundle.tN "SUPPRESSED_SENTINEL" Bundle.listD A s' s'.heap := by rw [hhp]; exact vx_Zq.moved hW0.alike (hN.kept hS.2.1)
  have h : ∀ w ∈ Bundle.ownAtoms0 own ic cls names, w.before args s' = true := vx_own hat' (vx_isRefq hU'.1) (vx_isRefq hN'.1) hU'.2.word hN'.2.word
  have hown' : s'.vm.findClass own = some m.cls := by rw [hvm]; exact hown
  have hins : (Cond.instantiable cls 6).before args s' = true := h _ (by simp [Bundle.ownAtoms0])
  obtain ⟨vm₁, cX, kX, hfX, hkX, -, -, X₁, st1⟩ := Y.newCold hexec (own := own) (C := cls) (index := ik) (n := 6) hown' hk' hins hini'
    (g := F0 m pc ls rest) rfl (by rw [hb]; exact d0) (Nat.le_refl _) (Nat.le_refl _)
  generalize hT1 : (T.setVm vm₁).pushCell { cls := cX, slots := kX.instanceTypes.map defaultValue, vm := .none } = T1 at X₁ st1
  have hcat : (Value.ref T.heap.size).category = 1 := rfl
  have hcellA : T1.heap[T.heap.size]? = some (freshCell cX kX) := by rw [← hT1]; exact State.heap_pushCell_size _ _
  have d3' : decode c.code (pc + 3) = .ok (.dup, 1) := by rw [hb]; exact d3
  obtain ⟨U, hsteps, hrun, hend, hW, hsame, ce, hce, hO⟩ := X₁.ctorThrow0 hexec htr (own := own) (cls := cls) (names := names) (ic := ic) hown' hcls hnames h (fun x hx => nomatch hx) hfX hkX hcellA (by rw [hhp, hT]; exact Nat.le_refl _)
    (g := { method := m, pc := pc + 4, locals := ls, stack := .ref T.heap.size :: .ref T.heap.size :: rest, locked := none }) rfl hsize rfl rfl (rest := rest) rfl
    (by rw [hb]; exact d4) (by rw [hb]; exact d7) hout hRframes (by simp only [List.map_cons, List.sum_cons, hcat]; omega) hlocks
  obtain ⟨f1, f2⟩ := vx_frame hsame
  rw [hhp] at f1 f2
  have hWs : s.WarmedH U.vm := State.WarmedH.trans hW0 hW
  have hcl : s.vm.findClass cls = some ce.cls := by
    have h9 := hO.cls
    rw [hvm] at h9
    exact h9
  have hall : s.sameButNew ({ U with vm := s.vm } : State) locs mc ms := by
    subst hA
    obtain ⟨e1, e2⟩ := hsame
    rw [State.setFrames_setFrames] at e1
    have h2 : (T.setVm s.vm).sameButNew ({ U with vm := s.vm } : State) [] (0 + 1) (0 + 6) := ⟨e1, e2⟩
    have h3 := X.same.trans h2
    rw [List.append_nil] at h3
    exact h3.mono hc hs
  refine ⟨U, ?_, .threw T.heap.size, hrun, hend, Or.inr ⟨T.heap.size, rfl, cls, ce, locs, hx U hWs.alike f1 (fun q hq => f2 q hq (fun z hz => nomatch hz)), hce, hO.vm, hcl, hWs, hall, hf⟩⟩
  refine st1 _ ?_
  show Steps p.tables e below (T1.setTop { method := m, pc := pc + 3, locals := ls, stack := .ref T.heap.size :: rest, locked := none }) _
  jvm_step X₁.here [X₁.here.top, hexec, d3', Value.category]
  exact hsteps
/-- 'throw new E("text")': new; dup; ldc; invokespecial; athrow -/
theorem vx_throwS {cc : ByteArray} {pc : Nat} (hexec : p.tables.exec = Jvm.exec) (hb : c.code = cc) (hl : l.stackTraces = false) {own cls text : String} {names : List String} {ik is ic mc ms sa : Nat} {A : Nat → Prop}
    (hown : s.vm.findClass own = some m.cls) (hcls : Bundle.fit cls = true) (hnames : ∀ n ∈ names, Bundle.fit n = true)
    (hk : (Cond.classLink own ik cls).before args s = true) (hini : (Cond.initialized cls).before args s = true) (hstr : vk_R own is text sa s) (hat : ∀ w ∈ vx_atS own ic cls names, w.before args s = true)
    (hgood : ∀ w ∈ Cond.classLink own ik cls :: Cond.initialized cls :: vx_atS own ic cls names, vx_ot w = true)
    (hU : vx_Zq Bundle.tN "UNASSIGNED_STACK" Bundle.steD A s s.heap) (hN : vx_Zq Bundle.tN "SUPPRESSED_SENTINEL" Bundle.listD A s s.heap) (hS : va_S A s.heap H locs) (hsize : ls.size = c.maxLocals)
    (d0 : decode cc pc = .ok (.new ik, 3)) (d3 : decode cc (pc + 3) = .ok (.dup, 1)) (d4 : decode cc (pc + 4) = .ok (.ldc is, 2)) (d6 : decode cc (pc + 6) = .ok (.invokespecial ic, 3)) (d9 : decode cc (pc + 9) = .ok (.athrow, 1))
    (hout : ∀ x ∈ c.exceptionTable.toList, covers x (pc + 9) = false)
    (hRframes : names.length + 3 < R.frames) (hRlocals : (rest.map fun v => v.category).sum + (13 * (names.length + 1) + 43) ≤ R.locals) (hRcells : cells + 1 ≤ R.cells) (hRslots : slots + 6 ≤ R.slots) (hlocks : meth.locks = false)
    (hx : ∀ t : State, s.vm.Alike t.vm → H.size ≤ t.heap.size → (∀ q : Nat, q < H.size → t.heap[q]? = H[q]?) → XC cls s t)
    (hf : ∀ z ∈ locs, free z.base) (hc : cells + 1 ≤ mc) (hs : slots + 6 ≤ ms) :
    W p l e R s m args below meth c H locs cells slots (vx_MQ below Qc XC args s mc ms free) (F0 m pc ls rest) := by
  intro T hT X
  have htr : e.platform.stackTraces = false := (show e.platform.stackTraces = l.stackTraces by rw [X.admits.platform]).trans hl
  have Y := vx_rebase X (R' := { frames := R.frames, locals := R.locals, cells := 1, slots := 6 }) (Nat.le_refl _) (Nat.le_refl _) hRcells hRslots
  obtain ⟨s', hA⟩ : ∃ z, z = (T.setVm s.vm).setFrames (.invoking m args :: below) := ⟨_, rfl⟩
  rw [← hA] at Y
  have hvm : s'.vm = s.vm := by rw [hA]; rfl
  have hhp : s'.heap = H := by rw [hA]; exact hT
  have hW0 : s.WarmedH s'.vm := by rw [hvm]; exact State.WarmedH.refl s
  have hat' : ∀ w ∈ vx_atS own ic cls names, w.before args s' = true := fun w hw => vx_ot_at hW0 hvm.symm (hgood w (List.mem_cons_of_mem _ (List.mem_cons_of_mem _ hw))) (hat w hw)
  have hk' : (Cond.classLink own ik cls).before args s' = true := vx_ot_at hW0 hvm.symm (hgood _ List.mem_cons_self) hk
  have hini' : (Cond.initialized cls).before args s' = true := vx_ot_at hW0 hvm.symm (hgood _ (List.mem_cons_of_mem _ List.mem_cons_self)) hini
  have hU' : vx_Zq Bundle.tN "UNASSIGNED_STACK" Bundle.steD A s' s'.heap := by rw [hhp]; exact vx_Zq.moved hW0.alike (hU.kept hS.2.1)
  have hN' : vx_Zq Bundle.tN "SUPPRESSED_SENTINEL" Bundle.listD A s' s'.heap := by rw [hhp]; exact vx_Zq.moved hW0.alike (hN.kept hS.2.1)
  have h : ∀ w ∈ Bundle.ownAtoms own ic cls names, w.before args s' = true := vx_own hat' (vx_isRefq hU'.1) (vx_isRefq hN'.1) hU'.2.word hN'.2.word
  have hown' : s'.vm.findClass own = some m.cls := by rw [hvm]; exact hown
  have hins : (Cond.instantiable cls 6).before args s' = true := h _ (by simp [Bundle.ownAtoms])
  obtain ⟨vm₁, cX, kX, hfX, hkX, -, -, X₁, st1⟩ := Y.newCold hexec (own := own) (C := cls) (index := ik) (n := 6) hown' hk' hins hini'
    (g := F0 m pc ls rest) rfl (by rw [hb]; exact d0) (Nat.le_refl _) (Nat.le_refl _)
  generalize hT1 : (T.setVm vm₁).pushCell { cls := cX, slots := kX.instanceTypes.map defaultValue, vm := .none } = T1 at X₁ st1
  have hcat : (Value.ref T.heap.size).category = 1 := rfl
  have hcellA : T1.heap[T.heap.size]? = some (freshCell cX kX) := by rw [← hT1]; exact State.heap_pushCell_size _ _
  have d3' : decode c.code (pc + 3) = .ok (.dup, 1) := by rw [hb]; exact d3
  have d4' : decode c.code (pc + 4) = .ok (.ldc is, 2) := by rw [hb]; exact d4
  have hstr' : vk_R own is text sa s' := vk_R.warm hW0 hstr
  obtain ⟨U, hsteps, hrun, hend, hW, hsame, ce, hce, hO⟩ := X₁.ctorThrowS hexec htr (own := own) (cls := cls) (names := names) (ic := ic) hown' hcls hnames h (fun x hx => nomatch hx) hfX hkX hcellA (by rw [hhp, hT]; exact Nat.le_refl _) (msg := .ref sa) rfl
    (g := { method := m, pc := pc + 6, locals := ls, stack := .ref sa :: .ref T.heap.size :: .ref T.heap.size :: rest, locked := none }) rfl hsize rfl rfl (rest := rest) rfl
    (by rw [hb]; exact d6) (by rw [hb]; exact d9) hout hRframes (by simp only [List.map_cons, List.sum_cons, hcat]; omega) hlocks
  obtain ⟨f1, f2⟩ := vx_frame hsame
  rw [hhp] at f1 f2
  have hWs : s.WarmedH U.vm := State.WarmedH.trans hW0 hW
  have hcl : s.vm.findClass cls = some ce.cls := by
    have h9 := hO.cls
    rw [hvm] at h9
    exact h9
  have hall : s.sameButNew ({ U with vm := s.vm } : State) locs mc ms := by
    subst hA
    obtain ⟨e1, e2⟩ := hsame
    rw [State.setFrames_setFrames] at e1
    have h2 : (T.setVm s.vm).sameButNew ({ U with vm := s.vm } : State) [] (0 + 1) (0 + 6) := ⟨e1, e2⟩
    have h3 := X.same.trans h2
    rw [List.append_nil] at h3
    exact h3.mono hc hs
  refine ⟨U, ?_, .threw T.heap.size, hrun, hend, Or.inr ⟨T.heap.size, rfl, cls, ce, locs, hx U hWs.alike f1 (fun q hq => f2 q hq (fun z hz => nomatch hz)), hce, hO.vm, hcl, hWs, hall, hf⟩⟩
  refine st1 _ ?_
  show Steps p.tables e below (T1.setTop { method := m, pc := pc + 3, locals := ls, stack := .ref T.heap.size :: rest, locked := none }) _
  jvm_step X₁.here [X₁.here.top, hexec, d3', Value.category]
  exact X₁.ldcString hexec (own := own) (text := text) (index := is) (a := sa) hown' hstr'.1 hstr'.2
    (g := { method := m, pc := pc + 4, locals := ls, stack := .ref T.heap.size :: .ref T.heap.size :: rest, locked := none }) rfl d4' _ hsteps
/-- 'throw new E("text")', the text by a wide index -/
theorem vx_throwSW {cc : ByteArray} {pc : Nat} (hexec : p.tables.exec = Jvm.exec) (hb : c.code = cc) (hl : l.stackTraces = false) {own cls text : String} {names : List String} {ik is ic mc ms sa : Nat} {A : Nat → Prop}
    (hown : s.vm.findClass own = some m.cls) (hcls : Bundle.fit cls = true) (hnames : ∀ n ∈ names, Bundle.fit n = true)
    (hk : (Cond.classLink own ik cls).before args s = true) (hini : (Cond.initialized cls).before args s = true) (hstr : vk_R own is text sa s) (hat : ∀ w ∈ vx_atS own ic cls names, w.before args s = true)
    (hgood : ∀ w ∈ Cond.classLink own ik cls :: Cond.initialized cls :: vx_atS own ic cls names, vx_ot w = true)
    (hU : vx_Zq Bundle.tN "UNASSIGNED_STACK" Bundle.steD A s s.heap) (hN : vx_Zq Bundle.tN "SUPPRESSED_SENTINEL" Bundle.listD A s s.heap) (hS : va_S A s.heap H locs) (hsize : ls.size = c.maxLocals)
    (d0 : decode cc pc = .ok (.new ik, 3)) (d3 : decode cc (pc + 3) = .ok (.dup, 1)) (d4 : decode cc (pc + 4) = .ok (.ldc_w is, 3)) (d7 : decode cc (pc + 7) = .ok (.invokespecial ic, 3)) (d10 : decode cc (pc + 10) = .ok (.athrow, 1))
    (hout : ∀ x ∈ c.exceptionTable.toList, covers x (pc + 10) = false)
    (hRframes : names.length + 3 < R.frames) (hRlocals : (rest.map fun v => v.category).sum + (13 * (names.length + 1) + 43) ≤ R.locals) (hRcells : cells + 1 ≤ R.cells) (hRslots : slots + 6 ≤ R.slots) (hlocks : meth.locks = false)
    (hx : ∀ t : State, s.vm.Alike t.vm → H.size ≤ t.heap.size → (∀ q : Nat, q < H.size → t.heap[q]? = H[q]?) → XC cls s t)
    (hf : ∀ z ∈ locs, free z.base) (hc : cells + 1 ≤ mc) (hs : slots + 6 ≤ ms) :
    W p l e R s m args below meth c H locs cells slots (vx_MQ below Qc XC args s mc ms free) (F0 m pc ls rest) := by
  intro T hT X
  have htr : e.platform.stackTraces = false := (show e.platform.stackTraces = l.stackTraces by rw [X.admits.platform]).trans hl
  have Y := vx_rebase X (R' := { frames := R.frames, locals := R.locals, cells := 1, slots := 6 }) (Nat.le_refl _) (Nat.le_refl _) hRcells hRslots
  obtain ⟨s', hA⟩ : ∃ z, z = (T.setVm s.vm).setFrames (.invoking m args :: below) := ⟨_, rfl⟩
  rw [← hA] at Y
  have hvm : s'.vm = s.vm := by rw [hA]; rfl
  have hhp : s'.heap = H := by rw [hA]; exact hT
  have hW0 : s.WarmedH s'.vm := by rw [hvm]; exact State.WarmedH.refl s
  have hat' : ∀ w ∈ vx_atS own ic cls names, w.before args s' = true := fun w hw => vx_ot_at hW0 hvm.symm (hgood w (List.mem_cons_of_mem _ (List.mem_cons_of_mem _ hw))) (hat w hw)
  have hk' : (Cond.classLink own ik cls).before args s' = true := vx_ot_at hW0 hvm.symm (hgood _ List.mem_cons_self) hk
  have hini' : (Cond.initialized cls).before args s' = true := vx_ot_at hW0 hvm.symm (hgood _ (List.mem_cons_of_mem _ List.mem_cons_self)) hini
  have hU' : vx_Zq Bundle.tN "UNASSIGNED_STACK" Bundle.steD A s' s'.heap := by rw [hhp]; exact vx_Zq.moved hW0.alike (hU.kept hS.2.1)
  have hN' : vx_Zq Bundle.tN "SUPPRESSED_SENTINEL" Bundle.listD A s' s'.heap := by rw [hhp]; exact vx_Zq.moved hW0.alike (hN.kept hS.2.1)
  have h : ∀ w ∈ Bundle.ownAtoms own ic cls names, w.before args s' = true := vx_own hat' (vx_isRefq hU'.1) (vx_isRefq hN'.1) hU'.2.word hN'.2.word
  have hown' : s'.vm.findClass own = some m.cls := by rw [hvm]; exact hown
  have hins : (Cond.instantiable cls 6).before args s' = true := h _ (by simp [Bundle.ownAtoms])
  obtain ⟨vm₁, cX, kX, hfX, hkX, -, -, X₁, st1⟩ := Y.newCold hexec (own := own) (C := cls) (index := ik) (n := 6) hown' hk' hins hini'
    (g := F0 m pc ls rest) rfl (by rw [hb]; exact d0) (Nat.le_refl _) (Nat.le_refl _)
  generalize hT1 : (T.setVm vm₁).pushCell { cls := cX, slots := kX.instanceTypes.map defaultValue, vm := .none } = T1 at X₁ st1
  have hcat : (Value.ref T.heap.size).category = 1 := rfl
  have hcellA : T1.heap[T.heap.size]? = some (freshCell cX kX) := by rw [← hT1]; exact State.heap_pushCell_size _ _
  have d3' : decode c.code (pc + 3) = .ok (.dup, 1) := by rw [hb]; exact d3
  have d4' : decode c.code (pc + 4) = .ok (.ldc_w is, 3) := by rw [hb]; exact d4
  have hstr' : vk_R own is text sa s' := vk_R.warm hW0 hstr
  obtain ⟨U, hsteps, hrun, hend, hW, hsame, ce, hce, hO⟩ := X₁.ctorThrowS hexec htr (own := own) (cls := cls) (names := names) (ic := ic) hown' hcls hnames h (fun x hx => nomatch hx) hfX hkX hcellA (by rw [hhp, hT]; exact Nat.le_refl _) (msg := .ref sa) rfl
    (g := { method := m, pc := pc + 7, locals := ls, stack := .ref sa :: .ref T.heap.size :: .ref T.heap.size :: rest, locked := none }) rfl hsize rfl rfl (rest := rest) rfl
    (by rw [hb]; exact d7) (by rw [hb]; exact d10) hout hRframes (by simp only [List.map_cons, List.sum_cons, hcat]; omega) hlocks
  obtain ⟨f1, f2⟩ := vx_frame hsame
  rw [hhp] at f1 f2
  have hWs : s.WarmedH U.vm := State.WarmedH.trans hW0 hW
  have hcl : s.vm.findClass cls = some ce.cls := by
    have h9 := hO.cls
    rw [hvm] at h9
    exact h9
  have hall : s.sameButNew ({ U with vm := s.vm } : State) locs mc ms := by
    subst hA
    obtain ⟨e1, e2⟩ := hsame
    rw [State.setFrames_setFrames] at e1
    have h2 : (T.setVm s.vm).sameButNew ({ U with vm := s.vm } : State) [] (0 + 1) (0 + 6) := ⟨e1, e2⟩
    have h3 := X.same.trans h2
    rw [List.append_nil] at h3
    exact h3.mono hc hs
  refine ⟨U, ?_, .threw T.heap.size, hrun, hend, Or.inr ⟨T.heap.size, rfl, cls, ce, locs, hx U hWs.alike f1 (fun q hq => f2 q hq (fun z hz => nomatch hz)), hce, hO.vm, hcl, hWs, hall, hf⟩⟩
  refine st1 _ ?_
  show Steps p.tables e below (T1.setTop { method := m, pc := pc + 3, locals := ls, stack := .ref T.heap.size :: rest, locked := none }) _
  jvm_step X₁.here [X₁.here.top, hexec, d3', Value.category]
  exact X₁.ldcStringW hexec (own := own) (text := text) (index := is) (a := sa) hown' hstr'.1 hstr'.2
    (g := { method := m, pc := pc + 4, locals := ls, stack := .ref T.heap.size :: .ref T.heap.size :: rest, locked := none }) rfl d4' _ hsteps
end Ends
section Bodies
variable {l : Launch}
theorem vx_ofW {y : MethodName} {ws ws' : List Cond} {rm : Room} {Pc : Array Value → State → Prop} {Qc : Array Value → State → Outcome → State → Prop} {XC : String → State → State → Prop} {mc ms : Nat} {free : Addr → Prop} {cc : ByteArray} {maxL : Nat} {ret : Option FieldType}
    (hy : plainName y.cls = true) (hw : ws = Cond.code y cc maxL ret :: ws')
    (body : ∀ p e s m args below meth c s₁, BodyLoose p l y (headSpec ws rm) cc maxL ret e s m args below meth c s₁ → c.maxLocals = maxL → (∀ x ∈ c.exceptionTable.toList, False) → Pc args s →
      W p l e (headSpec ws rm).room s m args below meth c s.heap [] 0 0 (vx_MQ below Qc XC args s mc ms free) (entryFrame m args maxL)) : vx_Met l y ws rm Pc Qc XC mc ms free := by
  refine MetFree.of_bodyS (code := cc) (maxLocals := maxL) (ret := ret) hy ?_ ?_
  · intro args s m h hn
    obtain ⟨meth, c, h1, h2, h3, h4, h5, h6, -, -⟩ := Cond.code_spec hn (atoms_spec (ws := ws) h _ (by rw [hw]; exact List.mem_cons_self))
    exact ⟨meth, c, h1, h2, h3, h4, h5, h6⟩
  · intro p e s m args below meth c s₁ B hml hP _
    have hh0 : s₁.heap = s.heap := by rw [B.state]; rfl
    have ht : ∀ x ∈ c.exceptionTable.toList, False := by
      obtain ⟨meth9, c9, h1, h2, -, -, -, -, h7, -⟩ := Cond.code_spec B.named (atoms_spec (ws := ws) B.pre _ (by rw [hw]; exact List.mem_cons_self))
      cases Option.some.inj (h1.symm.trans B.method)
      cases Option.some.inj (h2.symm.trans (Stand.of_body B).code)
      intro x hx
      rw [Array.isEmpty_iff.mp h7] at hx
      cases hx
    obtain ⟨t, a1, o, b1, b2, b3⟩ := body p e s m args below meth c s₁ B hml ht hP s₁ hh0 (Stand.of_body B)
    exact ⟨t, o, a1, b1, b2, b3⟩
/-- the table of a body with handlers -/
theorem vx_table {p : Program} {x y : MethodName} {S : Spec} {cc bytes : ByteArray} {maxL maxL' : Nat} {ret ret' : Option FieldType} {e : Env} {s s₁ : State} {m : MethodId} {args : Array Value} {below : List Frame} {meth : Method} {c : Code} {hh : List (Nat × Nat × Nat × Nat)}
    (B : BodyLoose p l y S cc maxL ret e s m args below meth c s₁) (h : (Cond.codeWith y bytes maxL' ret' hh).before args s = true) : c.exceptionTable.toList = tableOf hh := by
  obtain ⟨m9, meth9, c9, hn9, h1, h2, -, -, h6, -⟩ := Cond.codeWith_spec h
  cases Option.some.inj (hn9.symm.trans B.named)
  cases Option.some.inj (h1.symm.trans B.method)
  cases Option.some.inj (h2.symm.trans (Stand.of_body B).code)
  rw [← h6, table_eq]
end Bodies
end VXA
/-! ===== END ===== -/
/-! ===== BEGIN a static call of a method with an exception table ===== -/
section VXS
variable {p : Program} {l : Launch} {e : Env} {R : Room} {s : State} {m : MethodId} {args : Array Value} {below : List Frame} {meth : Method} {c : Code} {T : State} {H : Heap} {locs : List Loc} {cells slots : Nat}
abbrev vx_CSW (R : Room) (s : State) (args : Array Value) (own : String) (index : Nat) (y : MethodName) (bytes : ByteArray) (maxL : Nat) (ret : Option FieldType) (hh : List (Nat × Nat × Nat × Nat)) (ws : List Cond) (rm : Room) (mc ms n : Nat) : Prop :=
  (rm.cells = mc ∧ rm.slots = ms ∧ rm.frames + 1 ≤ R.frames ∧ 8 + (maxL + 11) + rm.locals ≤ R.locals ∧ (∀ w ∈ ws, ∀ (a' : Array Value) (U : State), s.WarmedH U.vm → w.before a' U = true) ∧ Cond.codeWith y bytes maxL ret hh ∈ ws) ∧
  (Cond.codeWith y bytes maxL ret hh).before args s = true ∧ (Cond.initialized y.cls).before args s = true ∧ (y.cls ≠ "java/lang/invoke/MethodHandle" ∧ y.cls ≠ "java/lang/invoke/VarHandle") ∧
  (∀ sig, parseMethodDescriptor y.desc = some sig → n = sig.parameters.length) ∧ (Cond.methodLink own index y).before args s = true ∧ (Cond.static y).before args s = true
theorem vx_cwSW {own : String} {index maxL mc ms : Nat} {y : MethodName} {bytes : ByteArray} {ret : Option FieldType} {hh : List (Nat × Nat × Nat × Nat)} {Ts ws ws' : List Cond} {rm : Room} (n : Nat) (ht : ∀ w ∈ Ts, w.before args s = true) (hT : GoodIn Ts (va_wsS own index y ws)) (hw : ws = Cond.codeWith y bytes maxL ret hh :: ws') (hrc : rm.cells = mc) (hrs : rm.slots = ms)
    (hd : y.cls ≠ "java/lang/invoke/MethodHandle" ∧ y.cls ≠ "java/lang/invoke/VarHandle" ∧ (parseMethodDescriptor y.desc).map (fun d => d.parameters.length) = some n) (hR : rm.frames + 1 ≤ R.frames ∧ 8 + (maxL + 11) + rm.locals ≤ R.locals) :
    vx_CSW R s args own index y bytes maxL ret hh ws rm mc ms n := by
  have ok : ∀ w ∈ va_wsS own index y ws, w.before args s = true := fun w h => ht w (hT w h).1
  have hG : GoodIn Ts ws := fun w h => hT w (by unfold va_wsS; exact List.mem_append_right _ h)
  have hc : Cond.codeWith y bytes maxL ret hh ∈ ws := by rw [hw]; exact List.mem_cons_self
  refine ⟨⟨hrc, hrs, hR.1, hR.2, pay_in ht hG, hc⟩, ht _ (hG _ hc).1, ok _ (by simp [va_wsS]), ⟨hd.1, hd.2.1⟩, fun sig h => ?_, ok _ (by simp [va_wsS]), ok _ (by simp [va_wsS])⟩
  have h2 := hd.2.2
  rw [h] at h2
  exact (Option.some.inj h2).symm
theorem vx_callSW (X : Stand p l e R s m args below meth c T locs cells slots) (hexec : p.tables.exec = Jvm.exec) {own : String} {index : Nat} {y : MethodName} {bytes : ByteArray} {maxL : Nat} {ret : Option FieldType} {hh : List (Nat × Nat × Nat × Nat)}
    (hown : s.vm.findClass own = some m.cls) (hlink : (Cond.methodLink own index y).before args s = true) (hstat : (Cond.static y).before args s = true) (hinit : (Cond.initialized y.cls).before args s = true)
    (hcode : (Cond.codeWith y bytes maxL ret hh).before args s = true) (hy : y.cls ≠ "java/lang/invoke/MethodHandle" ∧ y.cls ≠ "java/lang/invoke/VarHandle")
    {W9 : Nat} {Pre : Pt → Array Value → Prop} {Post : Pt → Array Value → Option Value → Pt → Prop} (hK : Back l R p e below s args y 3 W9 Pre Post)
    {g : JFrame} (hg : g.method = m) (hsize : g.locals.size = c.maxLocals) {argsL rest : List Value} (hlen : ∀ sig, parseMethodDescriptor y.desc = some sig → argsL.length = sig.parameters.length)
    (hstack : g.stack = argsL.reverse ++ rest) (hW : 2 * g.monitorRoom + (rest.map fun v => v.category).sum ≤ W9) (hdg : decode c.code g.pc = .ok (.invokestatic index, 3))
    (hpre : ∀ vm₁, s.WarmedH vm₁ → Pre ⟨T.setVm vm₁, locs, cells, slots⟩ argsL.toArray) :
    ∃ (v : Option Value) (vm₁ : Vm) (B : Pt), s.WarmedH vm₁ ∧ Stand p l e R s m args below meth c B.U B.locs B.cells B.slots ∧ Post ⟨T.setVm vm₁, locs, cells, slots⟩ argsL.toArray v B ∧
      ∀ target, Steps p.tables e below (B.U.setTop { g with pc := g.pc + 3, stack := v.toList ++ rest }) target → Steps p.tables e below (T.setTop g) target := by
  obtain ⟨mk, methM, cM, hnamed, hmethM, -, -, -, -, -, -, hsigM⟩ := Cond.codeWith_spec hcode
  have hstatic : methM.isStatic = true := Cond.static_spec hnamed hmethM hstat
  obtain ⟨kP, hkP, -⟩ := className_of_methodNamed hnamed
  have hinitP : kP.init = .initialized := Cond.initialized_spec (findClass_of_methodNamed hnamed) hkP hinit
  obtain ⟨vm₁, X₁, hstep₁⟩ := X.invokestatic hexec hown hlink hnamed hmethM hstatic hkP hinitP hy (g := g) hg (argsL := argsL) (rest := rest) (hlen _ hsigM) hstack hdg
  obtain ⟨v, B, X', hpost, hsteps⟩ := hK m meth c ⟨T.setVm vm₁, locs, cells, slots⟩ { g with stack := rest } (.invokestatic index) mk argsL.toArray X₁ hg hsize hdg hW (X₁.named hnamed) (hpre vm₁ X₁.warmed)
  exact ⟨v, vm₁, B, X₁.warmed, X', hpost, fun target h => hstep₁ _ fun acts => by rw [doInvoke_state]; exact hsteps.trans h⟩
theorem vx_runSW {y : MethodName} {bytes cc : ByteArray} {maxL nL mc ms n index : Nat} {ret : Option FieldType} {hh : List (Nat × Nat × Nat × Nat)} {ws : List Cond} {rm : Room} {Pc : Array Value → State → Prop} {Qc : Array Value → State → Outcome → State → Prop} {free : Addr → Prop} {Ts : List Cond} {own : String} {As rest : List Value} {g : JFrame}
    (S : CallFix p m c cc nL s args Ts own) (hM : Met l y ws rm Pc Qc mc ms free) (cw : vx_CSW R s args own index y bytes maxL ret hh ws rm mc ms n) (hp : PreS s H Pc As)
    (hg : g.method = m) (hn : As.length = n) (hsize : g.locals.size = nL) (hstack : g.stack = As.reverse ++ rest) (hW : 2 * g.monitorRoom + (rest.map fun v => v.category).sum ≤ 8) (hdg : decode cc g.pc = .ok (.invokestatic index, 3)) (hf : cells + mc ≤ R.cells ∧ slots + ms ≤ R.slots) :
    va_Run p l e R s m args below meth c H locs cells slots mc ms g rest (Qc As.toArray) (free) := by
  obtain ⟨⟨hrc, hrs, hfr, hlo, hws, hcw⟩, hcode, hini, hy, hlen, hl, hstt⟩ := cw
  have hK : Back l R p e below s args y 3 8 (PreOf R mc ms Pc) (PostOf Qc mc ms free) := va_backW (hh := hh) (bytes := bytes) (maxL := maxL) (ret := ret) hM hp.1 hrc hrs hfr hlo hws hcw (fun a' U hW => word_at hW (Or.inl (by first | rfl | simp [Cond.onTables, Cond.keeps, Cond.steady])) hini)
  obtain ⟨hx, hb, hml, ho, -⟩ := S
  intro T hT X
  obtain ⟨v, vm₁, ⟨U', l2, c2, s2⟩, hW₁, X', ⟨g', mk, t, L, e1, e2, hq, h1, hL, h2, h3⟩, st⟩ := vx_callSW X hx (hh := hh) (bytes := bytes) (maxL := maxL) (ret := ret) ho hl hstt hini hcode hy hK hg (hsize.trans hml.symm) (argsL := As) (rest := rest) (fun sig h => hn.trans (hlen sig h)) hstack hW (by rw [hb]; exact hdg)
    (fun vm₁ hW₁ => ⟨hf.1, hf.2, hp.2 (T.setVm vm₁) hT hW₁⟩)
  dsimp only [Pt.U, Pt.locs, Pt.cells, Pt.slots] at X' e1 e2 h1 h2 h3 st
  subst h1; subst h2; subst h3
  exact ⟨v, (T.setVm vm₁).calling g' mk As.toArray, t, U', L, hT, X', hL, e1, e2, hq, st⟩
/-- a thing of a world lies in the heap -/
theorem vx_lt {D : va_G} {cl : List vw_C} {ws : va_W} {H1 : Heap} (h : va_P D cl ws H1) {k : Nat} {q : Nat × va_E} (hk : ws[k]? = some q) : q.1 < H1.size := (h k q hk).lt
end VXS
/-! ===== END ===== -/
/-! ===== BEGIN methods with a table of their own: called by a name, returning or throwing ===== -/
section VXH
/-! vx_backW, vx_callVX, vx_callSX, vx_callVW, vx_runVW, vx_runVX, vx_runSX, vx_ofWH follow the same proofs as their sisters above (Free/Laws.lean, Shelf42/LK1.lean); vx_outP calls Shelf42/NT130.lean (outThrough). -/
section
variable {l : Launch} {R : Room} {p : Program} {e : Env} {below : List Frame} {s : State} {sargs : Array Value} {y : MethodName} {len W9 : Nat}
theorem vx_backW {ws : List Cond} {rm : Room} {Pc : Array Value → State → Prop} {Qc : Array Value → State → Outcome → State → Prop} {XC : String → State → State → Prop} {mc ms : Nat} {free : Addr → Prop} {bytes : ByteArray} {maxL : Nat} {ret : Option FieldType} {hh : List (Nat × Nat × Nat × Nat)}
    (hM : vx_Met l y ws rm Pc Qc XC mc ms free) (hblind : FrameBlind Pc) (hrc : rm.cells = mc) (hrs : rm.slots = ms)
    (hframes : rm.frames + 1 ≤ R.frames) (hlocals : W9 + (maxL + 11) + rm.locals ≤ R.locals)
    (hws : ∀ w ∈ ws, ∀ a' U, s.WarmedH U.vm → w.before a' U = true) (hcode : Cond.codeWith y bytes maxL ret hh ∈ ws) (hinit : ∀ a' U, s.WarmedH U.vm → (Cond.initialized y.cls).before a' U = true) :
    vx_Back l R p e below s sargs y len W9 (PreOf R mc ms Pc) (PostOf Qc mc ms free) (vx_Post XC mc ms free) := by
  intro m meth c A g ig mk a X hg hsize hdg hW hn hp
  have h1 : (headSpec ws rm).pre.before a A.U = true := atoms_intro fun w hw => hws w hw _ _ X.warmed
  have h2 : (Cond.codeWith y bytes maxL ret hh).before a A.U = true := hws _ hcode _ _ X.warmed
  have h3 : (Cond.initialized y.cls).before a A.U = true := hinit _ _ X.warmed
  have h4 : A.cells + (headSpec ws rm).room.cells ≤ R.cells := by rw [show (headSpec ws rm).room.cells = mc from hrc]; exact hp.1
  have h5 : A.slots + (headSpec ws rm).room.slots ≤ R.slots := by rw [show (headSpec ws rm).room.slots = ms from hrs]; exact hp.2.1
  have hPc : Pc a (A.U.calling g mk a) := hblind _ _ _ _ hp.2.2
  obtain ⟨U, Ls, c0, s0⟩ := A
  dsimp only [Pt.U, Pt.locs, Pt.cells, Pt.slots] at h1 h2 h3 h4 h5 X hn hPc ⊢
  obtain ⟨m9, methY, cY, hn9, hmY, hcY, -, hlY, -⟩ := Cond.codeWith_spec h2
  cases Option.some.inj (hn9.symm.trans hn)
  obtain ⟨kY, hkY, -⟩ := className_of_methodNamed hn
  have hinitY : kY.init = .initialized := Cond.initialized_spec (findClass_of_methodNamed hn) hkY h3
  have h : At U g.method c below := by rw [hg]; exact X.here
  have hlocals9 : W9 + (maxL + 11) + (headSpec ws rm).room.locals ≤ R.locals := hlocals
  have happ : (headSpec ws rm).appliesLoose y e.platform (U.calling g mk a) = true :=
    Spec.appliesLoose_calling (g := g) h hdg hn hkY hinitY
      (X.room_calling (g := g) (R' := (headSpec ws rm).room) hsize hmY hcY hframes (by rw [hlY]; omega) h4 h5) h1
  obtain ⟨mid, hmid⟩ := h.above
  have hfr : (U.setTop g).frames = (.java g :: mid) ++ below := by rw [State.frames_setTop' g h.top, hmid]; rfl
  obtain ⟨o, s₂, hsteps, -, hend, hq⟩ := Steps.callFree hM p X.admits X.cas X.clock (acts := []) hfr happ hPc trivial
  have hq' : vx_Q Qc XC mc ms free a (U.calling g mk a) o s₂ := hq
  rw [State.frames_setTop' g h.top] at hend
  obtain ⟨g₀, hg0⟩ := Option.isSome_iff_exists.mp h.top
  obtain ⟨r, hr⟩ := State.topJava?_eq_some.mp hg0
  have hr' : (({ U with heap := s₂.heap, slotsUsed := s₂.slotsUsed } : State).setVm s₂.vm).frames = .java g₀ :: r := hr
  rcases hq' with ⟨hqc, L, hfe, hL⟩ | ⟨q, rfl, E, ce, L, hx, hce, hcv, hcl, hW₂, hsm, hL⟩
  · obtain ⟨⟨v, rfl⟩, hW₂, e2, q2, q3, q4, q5, q6⟩ := id hfe
    have e3 : s₂ = ({ (U.calling g mk a).setFrames s₂.frames with heap := s₂.heap, slotsUsed := s₂.slotsUsed } : State).setVm s₂.vm := by
      have : s₂ = ({ s₂ with vm := (U.calling g mk a).vm } : State).setVm s₂.vm := rfl
      rw [e2] at this
      exact this
    obtain ⟨c₂, i₂, len₂, hc₂, hd₂, hf₂⟩ := hend
    have hW' : U.WarmedH s₂.vm := hW₂
    have hcc : c₂ = c := by
      have h1 : s₂.code? g.method = U.code? g.method := by
        rw [State.code?_eq, State.code?_eq, hW'.alike.method?]
      exact Option.some.inj (hc₂.symm.trans (h1.trans h.code))
    subst hcc
    have hlen : len₂ = len := by rw [hdg] at hd₂; cases hd₂; rfl
    subst hlen
    have hs₂ : s₂ = (({ U with heap := s₂.heap, slotsUsed := s₂.slotsUsed } : State).setVm s₂.vm).setTop { g with pc := g.pc + len₂, stack := v.toList ++ g.stack } := by
      refine e3.trans ?_
      rw [hf₂, State.calling_eq h.top, State.setFrames_setFrames, State.setTop_of_frames _ hr', hr]
      rfl
    have hsame : U.sameButNew ({ U with heap := s₂.heap, slotsUsed := s₂.slotsUsed } : State) L mc ms := by
      refine ⟨?_, q2, q3, q4, q5, q6⟩
      obtain ⟨t, ht, -⟩ := State.frames_cons hr
      show ({ U with heap := s₂.heap, slotsUsed := s₂.slotsUsed } : State) = { U.setFrames U.frames with heap := s₂.heap, slotsUsed := s₂.slotsUsed }
      rw [State.setFrames_self ht]
    subst hg
    refine Or.inl ⟨v, ⟨(({ U with heap := s₂.heap, slotsUsed := s₂.slotsUsed } : State).setVm s₂.vm), Ls ++ L, c0 + mc, s0 + ms⟩,
      ⟨X.admits, X.cas, X.clock, X.frames, X.room, X.hears, X.method, X.code, (X.here.setHeapUsed s₂.heap s₂.slotsUsed).setVm hW'.alike, X.tail, State.WarmedH.trans X.warmed hW', X.limits, X.bytes, X.same.trans (hsame.setVm s.vm)⟩,
      ⟨g, mk, s₂, L, rfl, rfl, hqc, rfl, hL, rfl, rfl⟩, ?_⟩
    show Steps p.tables e below _ ((({ U with heap := s₂.heap, slotsUsed := s₂.slotsUsed } : State).setVm s₂.vm).setTop { g with pc := g.pc + len₂, stack := v.toList ++ g.stack })
    rw [← hs₂]
    exact hsteps
  · obtain ⟨e2, q2, q3, q4, q5, q6⟩ := id hsm
    have e3 : s₂ = ({ (U.calling g mk a).setFrames s₂.frames with heap := s₂.heap, slotsUsed := s₂.slotsUsed } : State).setVm s₂.vm := by
      have : s₂ = ({ s₂ with vm := (U.calling g mk a).vm } : State).setVm s₂.vm := rfl
      rw [e2] at this
      exact this
    have hf₂ : s₂.frames = .throwing q :: .java g :: U.frames.tail := hend
    have hW' : U.WarmedH s₂.vm := hW₂
    have hs₂ : s₂ = ((({ U with heap := s₂.heap, slotsUsed := s₂.slotsUsed } : State).setVm s₂.vm).setTop g).pushFrame (.throwing q) := by
      refine e3.trans ?_
      rw [hf₂, State.calling_eq h.top, State.setFrames_setFrames, State.pushFrame, State.frames_setTop _ hr', State.setTop_of_frames _ hr', State.setFrames_setFrames, hr]
      rfl
    have hsame : U.sameButNew ({ U with heap := s₂.heap, slotsUsed := s₂.slotsUsed } : State) L mc ms := by
      refine ⟨?_, q2, q3, q4, q5, q6⟩
      obtain ⟨t, ht, -⟩ := State.frames_cons hr
      show ({ U with heap := s₂.heap, slotsUsed := s₂.slotsUsed } : State) = { U.setFrames U.frames with heap := s₂.heap, slotsUsed := s₂.slotsUsed }
      rw [State.setFrames_self ht]
    subst hg
    refine Or.inr ⟨q, ⟨(({ U with heap := s₂.heap, slotsUsed := s₂.slotsUsed } : State).setVm s₂.vm), Ls ++ L, c0 + mc, s0 + ms⟩,
      ⟨X.admits, X.cas, X.clock, X.frames, X.room, X.hears, X.method, X.code, (X.here.setHeapUsed s₂.heap s₂.slotsUsed).setVm hW'.alike, X.tail, State.WarmedH.trans X.warmed hW', X.limits, X.bytes, X.same.trans (hsame.setVm s.vm)⟩,
      ⟨g, mk, s₂, L, E, ce, rfl, rfl, hx, hce, hcv, hcl, rfl, hL, rfl, rfl⟩, ?_⟩
    show Steps p.tables e below _ (((({ U with heap := s₂.heap, slotsUsed := s₂.slotsUsed } : State).setVm s₂.vm).setTop g).pushFrame (.throwing q))
    rw [← hs₂]
    exact hsteps
end
variable {p : Program} {l : Launch} {e : Env} {R : Room} {s : State} {m : MethodId} {args : Array Value} {below : List Frame} {meth : Method} {c : Code} {T : State} {H : Heap} {locs : List Loc} {cells slots : Nat}
theorem vx_callVX (X : Stand p l e R s m args below meth c T locs cells slots) (hexec : p.tables.exec = Jvm.exec) {own C : String} {index : Nat} {y : MethodName} {bytes : ByteArray} {maxL : Nat} {ret : Option FieldType} {hh : List (Nat × Nat × Nat × Nat)}
    (hown : s.vm.findClass own = some m.cls) (hlink : (Cond.methodLink own index y).before args s = true) (hinst : (Cond.instanceMethod y).before args s = true) (hsel : (Cond.selects C y y).before args s = true)
    (hcode : (Cond.codeWith y bytes maxL ret hh).before args s = true) (hy : y.cls ≠ "java/lang/invoke/MethodHandle" ∧ y.cls ≠ "java/lang/invoke/VarHandle")
    {W9 : Nat} {Pre : Pt → Array Value → Prop} {Post : Pt → Array Value → Option Value → Pt → Prop} {PostX : Pt → Array Value → Addr → Pt → Prop} (hK : vx_Back l R p e below s args y 3 W9 Pre Post PostX)
    {b : Addr} {cellB : Cell} (hcell : T.heap[b]? = some cellB) (hobj : cellB.vm.isStatics = false) (hcls : s.vm.findClass C = some cellB.cls)
    {g : JFrame} (hg : g.method = m) (hsize : g.locals.size = c.maxLocals) {argsL rest : List Value} (hlen : ∀ sig, parseMethodDescriptor y.desc = some sig → argsL.length = sig.parameters.length)
    (hstack : g.stack = argsL.reverse ++ .ref b :: rest) (hW : 2 * g.monitorRoom + (rest.map fun v => v.category).sum ≤ W9) (hdg : decode c.code g.pc = .ok (.invokevirtual index, 3))
    (hpre : ∀ vm₁, s.WarmedH vm₁ → Pre ⟨T.setVm vm₁, locs, cells, slots⟩ (Value.ref b :: argsL).toArray) :
    (∃ (v : Option Value) (vm₁ : Vm) (B : Pt), s.WarmedH vm₁ ∧ Stand p l e R s m args below meth c B.U B.locs B.cells B.slots ∧ Post ⟨T.setVm vm₁, locs, cells, slots⟩ (Value.ref b :: argsL).toArray v B ∧
      ∀ target, Steps p.tables e below (B.U.setTop { g with pc := g.pc + 3, stack := v.toList ++ rest }) target → Steps p.tables e below (T.setTop g) target) ∨
    (∃ (q : Addr) (vm₁ : Vm) (B : Pt), s.WarmedH vm₁ ∧ Stand p l e R s m args below meth c B.U B.locs B.cells B.slots ∧ PostX ⟨T.setVm vm₁, locs, cells, slots⟩ (Value.ref b :: argsL).toArray q B ∧
      Steps p.tables e below (T.setTop g) ((B.U.setTop { g with stack := rest }).pushFrame (.throwing q))) := by
  obtain ⟨mk, methM, hnamed, hmethM, hstM, habM⟩ := Cond.instanceMethod_spec hinst
  obtain ⟨m8, methM', cM, hn8, hmethM', -, -, -, -, -, -, hsigM⟩ := Cond.codeWith_spec hcode
  cases Option.some.inj (hn8.symm.trans hnamed)
  cases hmethM.symm.trans hmethM'
  obtain ⟨c2, r2, m2, q1, q2, q3, q4, kP, hkP, hkPi⟩ := Cond.selects_spec hsel
  cases hcls.symm.trans q1
  cases (State.methodFound?_of_named hnamed hy).symm.trans q2
  cases hnamed.symm.trans q3
  have hselP : selectMethod e.platform s.vm cellB.cls mk = .method mk := by rw [Launch.admits_selectMethod X.admits]; exact q4
  obtain ⟨vm₁, X₁, hstep₁⟩ := X.invokevirtual hexec hown hlink hnamed hmethM hstM hkP hkPi hy (a := b) (cell := cellB) hcell
    (fun z h => by rw [h] at hobj; cases hobj) hselP hmethM habM hkP hkPi (g := g) hg (argsL := argsL) (rest := rest) (hlen _ hsigM) hstack hdg
  rcases hK m meth c ⟨T.setVm vm₁, locs, cells, slots⟩ { g with stack := rest } (.invokevirtual index) mk (Value.ref b :: argsL).toArray X₁ hg hsize hdg hW (X₁.named hnamed) (hpre vm₁ X₁.warmed) with ⟨v, B, X', hpost, hsteps⟩ | ⟨q, B, X', hpost, hsteps⟩
  · exact Or.inl ⟨v, vm₁, B, X₁.warmed, X', hpost, fun target h => hstep₁ _ fun acts => by rw [doInvoke_state]; exact hsteps.trans h⟩
  · exact Or.inr ⟨q, vm₁, B, X₁.warmed, X', hpost, hstep₁ _ fun acts => by rw [doInvoke_state]; exact hsteps⟩
theorem vx_callSX (X : Stand p l e R s m args below meth c T locs cells slots) (hexec : p.tables.exec = Jvm.exec) {own : String} {index : Nat} {y : MethodName} {bytes : ByteArray} {maxL : Nat} {ret : Option FieldType} {hh : List (Nat × Nat × Nat × Nat)}
    (hown : s.vm.findClass own = some m.cls) (hlink : (Cond.methodLink own index y).before args s = true) (hstat : (Cond.static y).before args s = true) (hinit : (Cond.initialized y.cls).before args s = true)
    (hcode : (Cond.codeWith y bytes maxL ret hh).before args s = true) (hy : y.cls ≠ "java/lang/invoke/MethodHandle" ∧ y.cls ≠ "java/lang/invoke/VarHandle")
    {W9 : Nat} {Pre : Pt → Array Value → Prop} {Post : Pt → Array Value → Option Value → Pt → Prop} {PostX : Pt → Array Value → Addr → Pt → Prop} (hK : vx_Back l R p e below s args y 3 W9 Pre Post PostX)
    {g : JFrame} (hg : g.method = m) (hsize : g.locals.size = c.maxLocals) {argsL rest : List Value} (hlen : ∀ sig, parseMethodDescriptor y.desc = some sig → argsL.length = sig.parameters.length)
    (hstack : g.stack = argsL.reverse ++ rest) (hW : 2 * g.monitorRoom + (rest.map fun v => v.category).sum ≤ W9) (hdg : decode c.code g.pc = .ok (.invokestatic index, 3))
    (hpre : ∀ vm₁, s.WarmedH vm₁ → Pre ⟨T.setVm vm₁, locs, cells, slots⟩ argsL.toArray) :
    (∃ (v : Option Value) (vm₁ : Vm) (B : Pt), s.WarmedH vm₁ ∧ Stand p l e R s m args below meth c B.U B.locs B.cells B.slots ∧ Post ⟨T.setVm vm₁, locs, cells, slots⟩ argsL.toArray v B ∧
      ∀ target, Steps p.tables e below (B.U.setTop { g with pc := g.pc + 3, stack := v.toList ++ rest }) target → Steps p.tables e below (T.setTop g) target) ∨
    (∃ (q : Addr) (vm₁ : Vm) (B : Pt), s.WarmedH vm₁ ∧ Stand p l e R s m args below meth c B.U B.locs B.cells B.slots ∧ PostX ⟨T.setVm vm₁, locs, cells, slots⟩ argsL.toArray q B ∧
      Steps p.tables e below (T.setTop g) ((B.U.setTop { g with stack := rest }).pushFrame (.throwing q))) := by
  obtain ⟨mk, methM, cM, hnamed, hmethM, -, -, -, -, -, -, hsigM⟩ := Cond.codeWith_spec hcode
  have hstatic : methM.isStatic = true := Cond.static_spec hnamed hmethM hstat
  obtain ⟨kP, hkP, -⟩ := className_of_methodNamed hnamed
  have hinitP : kP.init = .initialized := Cond.initialized_spec (findClass_of_methodNamed hnamed) hkP hinit
  obtain ⟨vm₁, X₁, hstep₁⟩ := X.invokestatic hexec hown hlink hnamed hmethM hstatic hkP hinitP hy (g := g) hg (argsL := argsL) (rest := rest) (hlen _ hsigM) hstack hdg
  rcases hK m meth c ⟨T.setVm vm₁, locs, cells, slots⟩ { g with stack := rest } (.invokestatic index) mk argsL.toArray X₁ hg hsize hdg hW (X₁.named hnamed) (hpre vm₁ X₁.warmed) with ⟨v, B, X', hpost, hsteps⟩ | ⟨q, B, X', hpost, hsteps⟩
  · exact Or.inl ⟨v, vm₁, B, X₁.warmed, X', hpost, fun target h => hstep₁ _ fun acts => by rw [doInvoke_state]; exact hsteps.trans h⟩
  · exact Or.inr ⟨q, vm₁, B, X₁.warmed, X', hpost, hstep₁ _ fun acts => by rw [doInvoke_state]; exact hsteps⟩
theorem vx_callVW (X : Stand p l e R s m args below meth c T locs cells slots) (hexec : p.tables.exec = Jvm.exec) {own C : String} {index : Nat} {y : MethodName} {bytes : ByteArray} {maxL : Nat} {ret : Option FieldType} {hh : List (Nat × Nat × Nat × Nat)}
    (hown : s.vm.findClass own = some m.cls) (hlink : (Cond.methodLink own index y).before args s = true) (hinst : (Cond.instanceMethod y).before args s = true) (hsel : (Cond.selects C y y).before args s = true)
    (hcode : (Cond.codeWith y bytes maxL ret hh).before args s = true) (hy : y.cls ≠ "java/lang/invoke/MethodHandle" ∧ y.cls ≠ "java/lang/invoke/VarHandle")
    {W9 : Nat} {Pre : Pt → Array Value → Prop} {Post : Pt → Array Value → Option Value → Pt → Prop} (hK : Back l R p e below s args y 3 W9 Pre Post)
    {b : Addr} {cellB : Cell} (hcell : T.heap[b]? = some cellB) (hobj : cellB.vm.isStatics = false) (hcls : s.vm.findClass C = some cellB.cls)
    {g : JFrame} (hg : g.method = m) (hsize : g.locals.size = c.maxLocals) {argsL rest : List Value} (hlen : ∀ sig, parseMethodDescriptor y.desc = some sig → argsL.length = sig.parameters.length)
    (hstack : g.stack = argsL.reverse ++ .ref b :: rest) (hW : 2 * g.monitorRoom + (rest.map fun v => v.category).sum ≤ W9) (hdg : decode c.code g.pc = .ok (.invokevirtual index, 3))
    (hpre : ∀ vm₁, s.WarmedH vm₁ → Pre ⟨T.setVm vm₁, locs, cells, slots⟩ (Value.ref b :: argsL).toArray) :
    ∃ (v : Option Value) (vm₁ : Vm) (B : Pt), s.WarmedH vm₁ ∧ Stand p l e R s m args below meth c B.U B.locs B.cells B.slots ∧ Post ⟨T.setVm vm₁, locs, cells, slots⟩ (Value.ref b :: argsL).toArray v B ∧
      ∀ target, Steps p.tables e below (B.U.setTop { g with pc := g.pc + 3, stack := v.toList ++ rest }) target → Steps p.tables e below (T.setTop g) target := by
  obtain ⟨mk, methM, hnamed, hmethM, hstM, habM⟩ := Cond.instanceMethod_spec hinst
  obtain ⟨m8, methM', cM, hn8, hmethM', -, -, -, -, -, -, hsigM⟩ := Cond.codeWith_spec hcode
  cases Option.some.inj (hn8.symm.trans hnamed)
  cases hmethM.symm.trans hmethM'
  obtain ⟨c2, r2, m2, q1, q2, q3, q4, kP, hkP, hkPi⟩ := Cond.selects_spec hsel
  cases hcls.symm.trans q1
  cases (State.methodFound?_of_named hnamed hy).symm.trans q2
  cases hnamed.symm.trans q3
  have hselP : selectMethod e.platform s.vm cellB.cls mk = .method mk := by rw [Launch.admits_selectMethod X.admits]; exact q4
  obtain ⟨vm₁, X₁, hstep₁⟩ := X.invokevirtual hexec hown hlink hnamed hmethM hstM hkP hkPi hy (a := b) (cell := cellB) hcell
    (fun z h => by rw [h] at hobj; cases hobj) hselP hmethM habM hkP hkPi (g := g) hg (argsL := argsL) (rest := rest) (hlen _ hsigM) hstack hdg
  obtain ⟨v, B, X', hpost, hsteps⟩ := hK m meth c ⟨T.setVm vm₁, locs, cells, slots⟩ { g with stack := rest } (.invokevirtual index) mk (Value.ref b :: argsL).toArray X₁ hg hsize hdg hW (X₁.named hnamed) (hpre vm₁ X₁.warmed)
  exact ⟨v, vm₁, B, X₁.warmed, X', hpost, fun target h => hstep₁ _ fun acts => by rw [doInvoke_state]; exact hsteps.trans h⟩
abbrev vx_CVW (R : Room) (s : State) (args : Array Value) (own C : String) (index : Nat) (y : MethodName) (bytes : ByteArray) (maxL : Nat) (ret : Option FieldType) (hh : List (Nat × Nat × Nat × Nat)) (ws : List Cond) (rm : Room) (mc ms n : Nat) : Prop :=
  (rm.cells = mc ∧ rm.slots = ms ∧ rm.frames + 1 ≤ R.frames ∧ 8 + (maxL + 11) + rm.locals ≤ R.locals ∧ (∀ w ∈ ws, ∀ (a' : Array Value) (U : State), s.WarmedH U.vm → w.before a' U = true) ∧ Cond.codeWith y bytes maxL ret hh ∈ ws) ∧
  (Cond.codeWith y bytes maxL ret hh).before args s = true ∧ (Cond.initialized y.cls).before args s = true ∧ (y.cls ≠ "java/lang/invoke/MethodHandle" ∧ y.cls ≠ "java/lang/invoke/VarHandle") ∧
  (∀ sig, parseMethodDescriptor y.desc = some sig → n = sig.parameters.length) ∧ (Cond.methodLink own index y).before args s = true ∧ (Cond.instanceMethod y).before args s = true ∧ (Cond.selects C y y).before args s = true
theorem vx_cwVW {own C : String} {index maxL mc ms : Nat} {y : MethodName} {bytes : ByteArray} {ret : Option FieldType} {hh : List (Nat × Nat × Nat × Nat)} {Ts ws ws' : List Cond} {rm : Room} (n : Nat) (ht : ∀ w ∈ Ts, w.before args s = true) (hT : GoodIn Ts (wsV own index C y ws)) (hw : ws = Cond.codeWith y bytes maxL ret hh :: ws') (hrc : rm.cells = mc) (hrs : rm.slots = ms)
    (hd : y.cls = C ∧ y.cls ≠ "java/lang/invoke/MethodHandle" ∧ y.cls ≠ "java/lang/invoke/VarHandle" ∧ (parseMethodDescriptor y.desc).map (fun d => d.parameters.length) = some n) (hR : rm.frames + 1 ≤ R.frames ∧ 8 + (maxL + 11) + rm.locals ≤ R.locals) :
    vx_CVW R s args own C index y bytes maxL ret hh ws rm mc ms n := by
  obtain ⟨hC, hd⟩ := hd
  subst hC
  have ok : ∀ w ∈ wsV own index y.cls y ws, w.before args s = true := fun w h => ht w (hT w h).1
  have hG : GoodIn Ts ws := fun w h => hT w (by unfold wsV; exact List.mem_append_right _ h)
  have hc : Cond.codeWith y bytes maxL ret hh ∈ ws := by rw [hw]; exact List.mem_cons_self
  refine ⟨⟨hrc, hrs, hR.1, hR.2, pay_in ht hG, hc⟩, ht _ (hG _ hc).1, ok _ (by simp [wsV]), ⟨hd.1, hd.2.1⟩, fun sig h => ?_, ok _ (by simp [wsV]), ok _ (by simp [wsV]), ok _ (by simp [wsV])⟩
  have h2 := hd.2.2
  rw [h] at h2
  exact (Option.some.inj h2).symm
theorem vx_runVW {y : MethodName} {bytes cc : ByteArray} {maxL nL mc ms n index : Nat} {ret : Option FieldType} {hh : List (Nat × Nat × Nat × Nat)} {ws : List Cond} {rm : Room} {Pc : Array Value → State → Prop} {Qc : Array Value → State → Outcome → State → Prop} {free : Addr → Prop} {Ts : List Cond} {own C : String} {b : Addr} {As rest : List Value} {g : JFrame}
    (S : CallFix p m c cc nL s args Ts own) (hM : Met l y ws rm Pc Qc mc ms free) (cw : vx_CVW R s args own C index y bytes maxL ret hh ws rm mc ms n) (hp : PreV s H C b Pc As)
    (hg : g.method = m) (hn : As.length = n) (hsize : g.locals.size = nL) (hstack : g.stack = As.reverse ++ .ref b :: rest) (hW : 2 * g.monitorRoom + (rest.map fun v => v.category).sum ≤ 8) (hdg : decode cc g.pc = .ok (.invokevirtual index, 3)) (hf : cells + mc ≤ R.cells ∧ slots + ms ≤ R.slots) :
    va_Run p l e R s m args below meth c H locs cells slots mc ms g rest (Qc (Value.ref b :: As).toArray) free := by
  obtain ⟨⟨hrc, hrs, hfr, hlo, hws, hcw⟩, hcode, hini, hy, hlen, hl, hin, hse⟩ := cw
  have hK : Back l R p e below s args y 3 8 (PreOf R mc ms Pc) (PostOf Qc mc ms free) := va_backW (hh := hh) (bytes := bytes) (maxL := maxL) (ret := ret) hM hp.1 hrc hrs hfr hlo hws hcw (fun a' U hW => word_at hW (Or.inl (by first | rfl | simp [Cond.onTables, Cond.keeps, Cond.steady])) hini)
  obtain ⟨hx, hb, hml, ho, -⟩ := S
  obtain ⟨-, ⟨cellB, hcB, hoB, hclB⟩, hPc⟩ := hp
  intro T hT X
  obtain ⟨v, vm₁, ⟨U', l2, c2, s2⟩, hW₁, X', ⟨g', mk, t, L, e1, e2, hq, h1, hL, h2, h3⟩, st⟩ := vx_callVW X hx (C := C) (hh := hh) (bytes := bytes) (maxL := maxL) (ret := ret) ho hl hin hse hcode hy hK (by rw [hT]; exact hcB) hoB hclB hg (hsize.trans hml.symm) (argsL := As) (rest := rest) (fun sig h => hn.trans (hlen sig h)) hstack hW (by rw [hb]; exact hdg)
    (fun vm₁ hW₁ => ⟨hf.1, hf.2, hPc (T.setVm vm₁) hT hW₁⟩)
  dsimp only [Pt.U, Pt.locs, Pt.cells, Pt.slots] at X' e1 e2 h1 h2 h3 st
  subst h1; subst h2; subst h3
  exact ⟨v, (T.setVm vm₁).calling g' mk (Value.ref b :: As).toArray, t, U', L, hT, X', hL, e1, e2, hq, st⟩
section
variable {y : MethodName} {bytes cc : ByteArray} {maxL nL mc ms n index : Nat} {ret : Option FieldType} {ws : List Cond} {rm : Room} {Pc : Array Value → State → Prop} {Qc : Array Value → State → Outcome → State → Prop} {XC : String → State → State → Prop} {free : Addr → Prop} {Ts : List Cond} {own C : String} {b : Addr} {As rest : List Value} {g : JFrame}
theorem vx_runVX {hh : List (Nat × Nat × Nat × Nat)} (S : CallFix p m c cc nL s args Ts own) (hM : vx_Met l y ws rm Pc Qc XC mc ms free) (cw : vx_CVW R s args own C index y bytes maxL ret hh ws rm mc ms n) (hp : PreV s H C b Pc As)
    (hg : g.method = m) (hn : As.length = n) (hsize : g.locals.size = nL) (hstack : g.stack = As.reverse ++ .ref b :: rest) (hW : 2 * g.monitorRoom + (rest.map fun v => v.category).sum ≤ 8) (hdg : decode cc g.pc = .ok (.invokevirtual index, 3)) (hf : cells + mc ≤ R.cells ∧ slots + ms ≤ R.slots) :
    vx_Run p l e R s m args below meth c H locs cells slots mc ms g rest (Qc (Value.ref b :: As).toArray) XC free := by
  obtain ⟨⟨hrc, hrs, hfr, hlo, hws, hcw⟩, hcode, hini, hy, hlen, hl, hin, hse⟩ := cw
  have hK : vx_Back l R p e below s args y 3 8 (PreOf R mc ms Pc) (PostOf Qc mc ms free) (vx_Post XC mc ms free) := vx_backW (hh := hh) (bytes := bytes) (maxL := maxL) (ret := ret) hM hp.1 hrc hrs hfr hlo hws hcw (fun a' U hW => word_at hW (Or.inl (by first | rfl | simp [Cond.onTables, Cond.keeps, Cond.steady])) hini)
  obtain ⟨hx, hb, hml, ho, -⟩ := S
  obtain ⟨-, ⟨cellB, hcB, hoB, hclB⟩, hPc⟩ := hp
  intro T hT X
  rcases vx_callVX X hx (C := C) (hh := hh) (bytes := bytes) (maxL := maxL) (ret := ret) ho hl hin hse hcode hy hK (by rw [hT]; exact hcB) hoB hclB hg (hsize.trans hml.symm) (argsL := As) (rest := rest) (fun sig h => hn.trans (hlen sig h)) hstack hW (by rw [hb]; exact hdg)
    (fun vm₁ hW₁ => ⟨hf.1, hf.2, hPc (T.setVm vm₁) hT hW₁⟩) with ⟨v, vm₁, ⟨U', l2, c2, s2⟩, hW₁, X', ⟨g', mk, t, L, e1, e2, hq, h1, hL, h2, h3⟩, st⟩ | ⟨q, vm₁, ⟨U', l2, c2, s2⟩, hW₁, X', ⟨g', mk, t, L, E, ce, e1, e2, hq, hce, hcv, hcl, h1, hL, h2, h3⟩, st⟩
  · dsimp only [Pt.U, Pt.locs, Pt.cells, Pt.slots] at X' e1 e2 h1 h2 h3 st
    subst h1; subst h2; subst h3
    exact Or.inl ⟨v, (T.setVm vm₁).calling g' mk (Value.ref b :: As).toArray, t, U', L, hT, X', hL, e1, e2, hq, st⟩
  · dsimp only [Pt.U, Pt.locs, Pt.cells, Pt.slots] at X' e1 e2 h1 h2 h3 st hcl
    subst h1; subst h2; subst h3
    exact Or.inr ⟨q, (T.setVm vm₁).calling g' mk (Value.ref b :: As).toArray, t, U', L, E, ce, hT, X', hL, e1, e2, hq, hce, hcv, vx_cls hW₁ hcl, st⟩
theorem vx_runSX {hh : List (Nat × Nat × Nat × Nat)} (S : CallFix p m c cc nL s args Ts own) (hM : vx_Met l y ws rm Pc Qc XC mc ms free) (cw : vx_CSW R s args own index y bytes maxL ret hh ws rm mc ms n) (hp : PreS s H Pc As)
    (hg : g.method = m) (hn : As.length = n) (hsize : g.locals.size = nL) (hstack : g.stack = As.reverse ++ rest) (hW : 2 * g.monitorRoom + (rest.map fun v => v.category).sum ≤ 8) (hdg : decode cc g.pc = .ok (.invokestatic index, 3)) (hf : cells + mc ≤ R.cells ∧ slots + ms ≤ R.slots) :
    vx_Run p l e R s m args below meth c H locs cells slots mc ms g rest (Qc As.toArray) XC free := by
  obtain ⟨⟨hrc, hrs, hfr, hlo, hws, hcw⟩, hcode, hini, hy, hlen, hl, hstt⟩ := cw
  have hK : vx_Back l R p e below s args y 3 8 (PreOf R mc ms Pc) (PostOf Qc mc ms free) (vx_Post XC mc ms free) := vx_backW (hh := hh) (bytes := bytes) (maxL := maxL) (ret := ret) hM hp.1 hrc hrs hfr hlo hws hcw (fun a' U hW => word_at hW (Or.inl (by first | rfl | simp [Cond.onTables, Cond.keeps, Cond.steady])) hini)
  obtain ⟨hx, hb, hml, ho, -⟩ := S
  intro T hT X
  rcases vx_callSX X hx (hh := hh) (bytes := bytes) (maxL := maxL) (ret := ret) ho hl hstt hini hcode hy hK hg (hsize.trans hml.symm) (argsL := As) (rest := rest) (fun sig h => hn.trans (hlen sig h)) hstack hW (by rw [hb]; exact hdg)
    (fun vm₁ hW₁ => ⟨hf.1, hf.2, hp.2 (T.setVm vm₁) hT hW₁⟩) with ⟨v, vm₁, ⟨U', l2, c2, s2⟩, hW₁, X', ⟨g', mk, t, L, e1, e2, hq, h1, hL, h2, h3⟩, st⟩ | ⟨q, vm₁, ⟨U', l2, c2, s2⟩, hW₁, X', ⟨g', mk, t, L, E, ce, e1, e2, hq, hce, hcv, hcl, h1, hL, h2, h3⟩, st⟩
  · dsimp only [Pt.U, Pt.locs, Pt.cells, Pt.slots] at X' e1 e2 h1 h2 h3 st
    subst h1; subst h2; subst h3
    exact Or.inl ⟨v, (T.setVm vm₁).calling g' mk As.toArray, t, U', L, hT, X', hL, e1, e2, hq, st⟩
  · dsimp only [Pt.U, Pt.locs, Pt.cells, Pt.slots] at X' e1 e2 h1 h2 h3 st hcl
    subst h1; subst h2; subst h3
    exact Or.inr ⟨q, (T.setVm vm₁).calling g' mk As.toArray, t, U', L, E, ce, hT, X', hL, e1, e2, hq, hce, hcv, vx_cls hW₁ hcl, st⟩
end
end VXH
theorem vx_ofWH {l : Launch} {y : MethodName} {ws ws' : List Cond} {rm : Room} {Pc : Array Value → State → Prop} {Qc : Array Value → State → Outcome → State → Prop} {XC : String → State → State → Prop} {mc ms : Nat} {free : Addr → Prop} {cc : ByteArray} {maxL : Nat} {ret : Option FieldType} {hh : List (Nat × Nat × Nat × Nat)}
    (hy : plainName y.cls = true) (hw : ws = Cond.codeWith y cc maxL ret hh :: ws')
    (body : ∀ p e s m args below meth c s₁, BodyLoose p l y (headSpec ws rm) cc maxL ret e s m args below meth c s₁ → c.maxLocals = maxL → Pc args s →
      W p l e (headSpec ws rm).room s m args below meth c s.heap [] 0 0 (vx_MQ below Qc XC args s mc ms free) (entryFrame m args maxL)) : vx_Met l y ws rm Pc Qc XC mc ms free := by
  refine MetFree.of_bodyS (code := cc) (maxLocals := maxL) (ret := ret) hy ?_ ?_
  · intro args s m h hn
    obtain ⟨m9, meth, c, hn9, h1, h2, h3, h4, -, h5, h6, -⟩ := Cond.codeWith_spec (atoms_spec (ws := ws) h _ (by rw [hw]; exact List.mem_cons_self))
    cases hn.symm.trans hn9
    exact ⟨meth, c, h1, h2, h3, h4, h5, h6⟩
  · intro p e s m args below meth c s₁ B hml hP _
    have hh0 : s₁.heap = s.heap := by rw [B.state]; rfl
    obtain ⟨t, a1, o, b1, b2, b3⟩ := body p e s m args below meth c s₁ B hml hP s₁ hh0 (Stand.of_body B)
    exact ⟨t, o, a1, b1, b2, b3⟩
/-! ===== END ===== -/
end
section
/-! ===== BEGIN printed: names, fields, word lists, decode rows ===== -/
def RX0 : String := "InvaderBoard$Frames"
def TX0 : u_T := fun k => match k with
  | 0 => ("InvaderBoard$Frames", "gone", "I", false)
  | 1 => ("InvaderBoard$Frames", "ended", "I", false)
  | _ => ("InvaderBoard$Frames", "waiting", "I", false)
def tyX0 : Nat → FieldType := fun k => match k with
  | 0 => .int
  | 1 => .int
  | _ => .int
abbrev wsX00 : List Cond := u_ws RX0 TX0 3
theorem nmX0 : ∀ a, a < 3 → ∀ b, b < 3 → a ≠ b → (TX0 a).2.1 ≠ (TX0 b).2.1 := by decide +kernel
theorem tyX0_ok : ∀ k, k < 3 → parseFieldDescriptor (TX0 k).2.2.1 = some (tyX0 k) := by decide +kernel
abbrev cX0_init : ByteArray := prog_2_method_1_code
def yX0_init : MethodName := ⟨RX0, "<init>", "()V"⟩
abbrev cX0_beginAnew : ByteArray := prog_2_method_2_code
def yX0_beginAnew : MethodName := ⟨RX0, "beginAnew", "()V"⟩
abbrev cX0_dropWaiting : ByteArray := prog_2_method_3_code
def yX0_dropWaiting : MethodName := ⟨RX0, "dropWaiting", "()V"⟩
abbrev cX0_takeWaiting : ByteArray := prog_2_method_4_code
def yX0_takeWaiting : MethodName := ⟨RX0, "takeWaiting", "()I"⟩
abbrev cX0_untilRequest : ByteArray := prog_2_method_5_code
def yX0_untilRequest : MethodName := ⟨RX0, "untilRequest", "()I"⟩
abbrev cX0_pass : ByteArray := prog_2_method_6_code
def yX0_pass : MethodName := ⟨RX0, "pass", "(I)Z"⟩
def RX1 : String := "InvaderBoard$Memory"
def TX1 : u_T := fun k => match k with
  | 0 => ("InvaderBoard$Memory", "rom", "[I", true)
  | _ => ("InvaderBoard$Memory", "ram", "[I", true)
def tyX1 : Nat → FieldType := fun k => match k with
  | 0 => .array .int
  | _ => .array .int
abbrev wsX10 : List Cond := u_ws RX1 TX1 2
theorem nmX1 : ∀ a, a < 2 → ∀ b, b < 2 → a ≠ b → (TX1 a).2.1 ≠ (TX1 b).2.1 := by decide +kernel
theorem tyX1_ok : ∀ k, k < 2 → parseFieldDescriptor (TX1 k).2.2.1 = some (tyX1 k) := by decide +kernel
abbrev cX1_init : ByteArray := prog_3_method_1_code
def yX1_init : MethodName := ⟨RX1, "<init>", "()V"⟩
abbrev cX1_read : ByteArray := prog_3_method_2_code
def yX1_read : MethodName := ⟨RX1, "read", "(I)I"⟩
abbrev cX1_write : ByteArray := prog_3_method_3_code
def yX1_write : MethodName := ⟨RX1, "write", "(II)V"⟩
abbrev cX1_readWord : ByteArray := prog_3_method_4_code
def yX1_readWord : MethodName := ⟨RX1, "readWord", "(I)I"⟩
abbrev cX1_writeWord : ByteArray := prog_3_method_5_code
def yX1_writeWord : MethodName := ⟨RX1, "writeWord", "(II)V"⟩
abbrev cX1_burn : ByteArray := prog_3_method_6_code
def yX1_burn : MethodName := ⟨RX1, "burn", "(II)V"⟩
abbrev cX1_dotsInColumn : ByteArray := prog_3_method_7_code
def yX1_dotsInColumn : MethodName := ⟨RX1, "dotsInColumn", "(III)I"⟩
def RX2 : String := "InvaderBoard$Ports"
def TX2 : u_T := fun k => match k with
  | 0 => ("InvaderBoard$Ports", "inputs", "[I", true)
  | 1 => ("InvaderBoard$Ports", "latches", "[I", true)
  | 2 => ("InvaderBoard$Ports", "rises", "[I", true)
  | 3 => ("InvaderBoard$Ports", "shifter", "I", false)
  | 4 => ("InvaderBoard$Ports", "offset", "I", false)
  | _ => ("InvaderBoard$Ports", "framesUnfed", "I", false)
def tyX2 : Nat → FieldType := fun k => match k with
  | 0 => .array .int
  | 1 => .array .int
  | 2 => .array .int
  | 3 => .int
  | 4 => .int
  | _ => .int
abbrev wsX20 : List Cond := u_ws RX2 TX2 6
theorem nmX2 : ∀ a, a < 6 → ∀ b, b < 6 → a ≠ b → (TX2 a).2.1 ≠ (TX2 b).2.1 := by decide +kernel
theorem tyX2_ok : ∀ k, k < 6 → parseFieldDescriptor (TX2 k).2.2.1 = some (tyX2 k) := by decide +kernel
abbrev cX2_init : ByteArray := prog_4_method_1_code
def yX2_init : MethodName := ⟨RX2, "<init>", "()V"⟩
abbrev cX2_clear : ByteArray := prog_4_method_2_code
def yX2_clear : MethodName := ⟨RX2, "clear", "()V"⟩
abbrev cX2_setInput : ByteArray := prog_4_method_3_code
def yX2_setInput : MethodName := ⟨RX2, "setInput", "(II)V"⟩
abbrev cX2_in : ByteArray := prog_4_method_4_code
def yX2_in : MethodName := ⟨RX2, "in", "(I)I"⟩
abbrev cX2_out : ByteArray := prog_4_method_5_code
def yX2_out : MethodName := ⟨RX2, "out", "(II)V"⟩
abbrev cX2_shifted : ByteArray := prog_4_method_6_code
def yX2_shifted : MethodName := ⟨RX2, "shifted", "()I"⟩
abbrev cX2_latchOf : ByteArray := prog_4_method_7_code
def yX2_latchOf : MethodName := ⟨RX2, "latchOf", "(I)I"⟩
abbrev cX2_risesOf : ByteArray := prog_4_method_8_code
def yX2_risesOf : MethodName := ⟨RX2, "risesOf", "(I)I"⟩
abbrev cX2_endFrameUnfed : ByteArray := prog_4_method_9_code
def yX2_endFrameUnfed : MethodName := ⟨RX2, "endFrameUnfed", "()Z"⟩
abbrev cX2_setLatch : ByteArray := prog_4_method_10_code
def yX2_setLatch : MethodName := ⟨RX2, "setLatch", "(II)V"⟩
def RX3 : String := "InvaderBoard$Processor"
def TX3 : u_T := fun k => match k with
  | 0 => ("InvaderBoard$Processor", "store", "LInvaderBoard$Memory;", true)
  | 1 => ("InvaderBoard$Processor", "ports", "LInvaderBoard$Ports;", true)
  | 2 => ("InvaderBoard$Processor", "registers", "[I", true)
  | 3 => ("InvaderBoard$Processor", "flags", "I", false)
  | 4 => ("InvaderBoard$Processor", "sp", "I", false)
  | 5 => ("InvaderBoard$Processor", "pc", "I", false)
  | 6 => ("InvaderBoard$Processor", "enabled", "Z", false)
  | 7 => ("InvaderBoard$Processor", "enabling", "Z", false)
  | _ => ("InvaderBoard$Processor", "halted", "Z", false)
def tyX3 : Nat → FieldType := fun k => match k with
  | 0 => .object "InvaderBoard$Memory"
  | 1 => .object "InvaderBoard$Ports"
  | 2 => .array .int
  | 3 => .int
  | 4 => .int
  | 5 => .int
  | 6 => .boolean
  | 7 => .boolean
  | _ => .boolean
abbrev wsX30 : List Cond := u_ws RX3 TX3 9
theorem nmX3 : ∀ a, a < 9 → ∀ b, b < 9 → a ≠ b → (TX3 a).2.1 ≠ (TX3 b).2.1 := by decide +kernel
theorem tyX3_ok : ∀ k, k < 9 → parseFieldDescriptor (TX3 k).2.2.1 = some (tyX3 k) := by decide +kernel
abbrev cX3_init : ByteArray := prog_5_method_1_code
def yX3_init : MethodName := ⟨RX3, "<init>", "(LInvaderBoard$Memory;LInvaderBoard$Ports;)V"⟩
abbrev cX3_clear : ByteArray := prog_5_method_2_code
def yX3_clear : MethodName := ⟨RX3, "clear", "()V"⟩
abbrev cX3_contentOf : ByteArray := prog_5_method_3_code
def yX3_contentOf : MethodName := ⟨RX3, "contentOf", "(I)I"⟩
abbrev cX3_takeRequest : ByteArray := prog_5_method_4_code
def yX3_takeRequest : MethodName := ⟨RX3, "takeRequest", "(I)I"⟩
abbrev cX3_execute : ByteArray := prog_5_method_5_code
def yX3_execute : MethodName := ⟨RX3, "execute", "()I"⟩
abbrev cX3_executeLow : ByteArray := prog_5_method_6_code
def yX3_executeLow : MethodName := ⟨RX3, "executeLow", "(I)V"⟩
abbrev cX3_executeMove : ByteArray := prog_5_method_7_code
def yX3_executeMove : MethodName := ⟨RX3, "executeMove", "(I)V"⟩
abbrev cX3_executeHigh : ByteArray := prog_5_method_8_code
def yX3_executeHigh : MethodName := ⟨RX3, "executeHigh", "(I)I"⟩
abbrev cX3_loadOrStore : ByteArray := prog_5_method_9_code
def yX3_loadOrStore : MethodName := ⟨RX3, "loadOrStore", "(I)V"⟩
abbrev cX3_changeAccumulator : ByteArray := prog_5_method_10_code
def yX3_changeAccumulator : MethodName := ⟨RX3, "changeAccumulator", "(I)V"⟩
abbrev cX3_setRotated : ByteArray := prog_5_method_11_code
def yX3_setRotated : MethodName := ⟨RX3, "setRotated", "(II)V"⟩
abbrev cX3_setCarry : ByteArray := prog_5_method_12_code
def yX3_setCarry : MethodName := ⟨RX3, "setCarry", "(I)V"⟩
abbrev cX3_adjustDecimal : ByteArray := prog_5_method_13_code
def yX3_adjustDecimal : MethodName := ⟨RX3, "adjustDecimal", "()V"⟩
abbrev cX3_executeSingle : ByteArray := prog_5_method_14_code
def yX3_executeSingle : MethodName := ⟨RX3, "executeSingle", "(I)V"⟩
abbrev cX3_exchangeTop : ByteArray := prog_5_method_15_code
def yX3_exchangeTop : MethodName := ⟨RX3, "exchangeTop", "(I)I"⟩
abbrev cX3_exchangePairs : ByteArray := prog_5_method_16_code
def yX3_exchangePairs : MethodName := ⟨RX3, "exchangePairs", "()V"⟩
abbrev cX3_popOrReturn : ByteArray := prog_5_method_17_code
def yX3_popOrReturn : MethodName := ⟨RX3, "popOrReturn", "(I)V"⟩
abbrev cX3_statusWord : ByteArray := prog_5_method_18_code
def yX3_statusWord : MethodName := ⟨RX3, "statusWord", "()I"⟩
abbrev cX3_setStatusWord : ByteArray := prog_5_method_19_code
def yX3_setStatusWord : MethodName := ⟨RX3, "setStatusWord", "(I)V"⟩
abbrev cX3_returnIf : ByteArray := prog_5_method_20_code
def yX3_returnIf : MethodName := ⟨RX3, "returnIf", "(Z)I"⟩
abbrev cX3_jumpIf : ByteArray := prog_5_method_21_code
def yX3_jumpIf : MethodName := ⟨RX3, "jumpIf", "(Z)V"⟩
abbrev cX3_callIf : ByteArray := prog_5_method_22_code
def yX3_callIf : MethodName := ⟨RX3, "callIf", "(Z)I"⟩
abbrev cX3_holds : ByteArray := prog_5_method_23_code
def yX3_holds : MethodName := ⟨RX3, "holds", "(I)Z"⟩
abbrev cX3_calculate : ByteArray := prog_5_method_24_code
def yX3_calculate : MethodName := ⟨RX3, "calculate", "(II)V"⟩
abbrev cX3_add : ByteArray := prog_5_method_25_code
def yX3_add : MethodName := ⟨RX3, "add", "(IIII)I"⟩
abbrev cX3_setLogical : ByteArray := prog_5_method_26_code
def yX3_setLogical : MethodName := ⟨RX3, "setLogical", "(II)V"⟩
abbrev cX3_increment : ByteArray := prog_5_method_27_code
def yX3_increment : MethodName := ⟨RX3, "increment", "(I)I"⟩
abbrev cX3_decrement : ByteArray := prog_5_method_28_code
def yX3_decrement : MethodName := ⟨RX3, "decrement", "(I)I"⟩
abbrev cX3_addToHl : ByteArray := prog_5_method_29_code
def yX3_addToHl : MethodName := ⟨RX3, "addToHl", "(I)V"⟩
abbrev cX3_flagsOf : ByteArray := prog_5_method_30_code
def yX3_flagsOf : MethodName := ⟨RX3, "flagsOf", "(I)I"⟩
abbrev cX3_operand : ByteArray := prog_5_method_31_code
def yX3_operand : MethodName := ⟨RX3, "operand", "(I)I"⟩
abbrev cX3_setOperand : ByteArray := prog_5_method_32_code
def yX3_setOperand : MethodName := ⟨RX3, "setOperand", "(II)V"⟩
abbrev cX3_pairAt : ByteArray := prog_5_method_33_code
def yX3_pairAt : MethodName := ⟨RX3, "pairAt", "(I)I"⟩
abbrev cX3_setPairAt : ByteArray := prog_5_method_34_code
def yX3_setPairAt : MethodName := ⟨RX3, "setPairAt", "(II)V"⟩
abbrev cX3_pairOrSp : ByteArray := prog_5_method_35_code
def yX3_pairOrSp : MethodName := ⟨RX3, "pairOrSp", "(I)I"⟩
abbrev cX3_setPairOrSp : ByteArray := prog_5_method_36_code
def yX3_setPairOrSp : MethodName := ⟨RX3, "setPairOrSp", "(II)V"⟩
abbrev cX3_fetch : ByteArray := prog_5_method_37_code
def yX3_fetch : MethodName := ⟨RX3, "fetch", "()I"⟩
abbrev cX3_fetchWord : ByteArray := prog_5_method_38_code
def yX3_fetchWord : MethodName := ⟨RX3, "fetchWord", "()I"⟩
abbrev cX3_push : ByteArray := prog_5_method_39_code
def yX3_push : MethodName := ⟨RX3, "push", "(I)V"⟩
abbrev cX3_pop : ByteArray := prog_5_method_40_code
def yX3_pop : MethodName := ⟨RX3, "pop", "()I"⟩
def RX4 : String := "InvaderBoard"
def TX4 : u_T := fun k => match k with
  | 0 => ("InvaderBoard", "store", "LInvaderBoard$Memory;", true)
  | 1 => ("InvaderBoard", "ports", "LInvaderBoard$Ports;", true)
  | 2 => ("InvaderBoard", "processor", "LInvaderBoard$Processor;", true)
  | _ => ("InvaderBoard", "frames", "LInvaderBoard$Frames;", true)
def tyX4 : Nat → FieldType := fun k => match k with
  | 0 => .object "InvaderBoard$Memory"
  | 1 => .object "InvaderBoard$Ports"
  | 2 => .object "InvaderBoard$Processor"
  | _ => .object "InvaderBoard$Frames"
abbrev wsX40 : List Cond := u_ws RX4 TX4 4
theorem nmX4 : ∀ a, a < 4 → ∀ b, b < 4 → a ≠ b → (TX4 a).2.1 ≠ (TX4 b).2.1 := by decide +kernel
theorem tyX4_ok : ∀ k, k < 4 → parseFieldDescriptor (TX4 k).2.2.1 = some (tyX4 k) := by decide +kernel
abbrev cX4_init : ByteArray := prog_1_method_1_code
def yX4_init : MethodName := ⟨RX4, "<init>", "()V"⟩
abbrev cX4_load : ByteArray := prog_1_method_2_code
def yX4_load : MethodName := ⟨RX4, "load", "(III)I"⟩
abbrev cX4_reset : ByteArray := prog_1_method_3_code
def yX4_reset : MethodName := ⟨RX4, "reset", "()V"⟩
abbrev cX4_input : ByteArray := prog_1_method_4_code
def yX4_input : MethodName := ⟨RX4, "input", "(II)V"⟩
abbrev cX4_step : ByteArray := prog_1_method_5_code
def yX4_step : MethodName := ⟨RX4, "step", "()I"⟩
abbrev cX4_run : ByteArray := prog_1_method_6_code
def yX4_run : MethodName := ⟨RX4, "run", "(I)I"⟩
abbrev cX4_register : ByteArray := prog_1_method_7_code
def yX4_register : MethodName := ⟨RX4, "register", "(I)I"⟩
abbrev cX4_memory : ByteArray := prog_1_method_8_code
def yX4_memory : MethodName := ⟨RX4, "memory", "(I)I"⟩
abbrev cX4_poke : ByteArray := prog_1_method_9_code
def yX4_poke : MethodName := ⟨RX4, "poke", "(II)I"⟩
abbrev cX4_dot : ByteArray := prog_1_method_10_code
def yX4_dot : MethodName := ⟨RX4, "dot", "(II)I"⟩
abbrev cX4_lit : ByteArray := prog_1_method_11_code
def yX4_lit : MethodName := ⟨RX4, "lit", "(IIII)I"⟩
abbrev cX4_state : ByteArray := prog_1_method_12_code
def yX4_state : MethodName := ⟨RX4, "state", "(I)I"⟩
abbrev cX4_sounds : ByteArray := prog_1_method_13_code
def yX4_sounds : MethodName := ⟨RX4, "sounds", "(I)I"⟩
abbrev cX4_advance : ByteArray := prog_1_method_14_code
def yX4_advance : MethodName := ⟨RX4, "advance", "(I)I"⟩
abbrev cX4_resetParts : ByteArray := prog_1_method_15_code
def yX4_resetParts : MethodName := ⟨RX4, "resetParts", "()V"⟩
abbrev cX4_onScreen : ByteArray := prog_1_method_16_code
def yX4_onScreen : MethodName := ⟨RX4, "onScreen", "(JI)I"⟩
def RX5 : String := "InvaderBoardModel"
def TX5 : u_T := fun k => match k with
  | 0 => ("InvaderBoardModel", "code", "I", false)
  | 1 => ("InvaderBoardModel", "rom", "[I", true)
  | 2 => ("InvaderBoardModel", "ram", "[I", true)
  | 3 => ("InvaderBoardModel", "reg", "[I", true)
  | 4 => ("InvaderBoardModel", "sp", "I", false)
  | 5 => ("InvaderBoardModel", "pc", "I", false)
  | 6 => ("InvaderBoardModel", "sign", "I", false)
  | 7 => ("InvaderBoardModel", "zero", "I", false)
  | 8 => ("InvaderBoardModel", "half", "I", false)
  | 9 => ("InvaderBoardModel", "parity", "I", false)
  | 10 => ("InvaderBoardModel", "carry", "I", false)
  | 11 => ("InvaderBoardModel", "enabled", "Z", false)
  | 12 => ("InvaderBoardModel", "due", "Z", false)
  | 13 => ("InvaderBoardModel", "soon", "Z", false)
  | 14 => ("InvaderBoardModel", "halted", "Z", false)
  | 15 => ("InvaderBoardModel", "request", "I", false)
  | 16 => ("InvaderBoardModel", "inputs", "[I", true)
  | 17 => ("InvaderBoardModel", "shifter", "I", false)
  | 18 => ("InvaderBoardModel", "offset", "I", false)
  | 19 => ("InvaderBoardModel", "latch", "[I", true)
  | 20 => ("InvaderBoardModel", "edges", "[I", true)
  | 21 => ("InvaderBoardModel", "hunger", "I", false)
  | 22 => ("InvaderBoardModel", "states", "I", false)
  | _ => ("InvaderBoardModel", "frames", "I", false)
def tyX5 : Nat → FieldType := fun k => match k with
  | 0 => .int
  | 1 => .array .int
  | 2 => .array .int
  | 3 => .array .int
  | 4 => .int
  | 5 => .int
  | 6 => .int
  | 7 => .int
  | 8 => .int
  | 9 => .int
  | 10 => .int
  | 11 => .boolean
  | 12 => .boolean
  | 13 => .boolean
  | 14 => .boolean
  | 15 => .int
  | 16 => .array .int
  | 17 => .int
  | 18 => .int
  | 19 => .array .int
  | 20 => .array .int
  | 21 => .int
  | 22 => .int
  | _ => .int
abbrev wsX50 : List Cond := u_ws RX5 TX5 24
theorem nmX5 : ∀ a, a < 24 → ∀ b, b < 24 → a ≠ b → (TX5 a).2.1 ≠ (TX5 b).2.1 := by decide +kernel
theorem tyX5_ok : ∀ k, k < 24 → parseFieldDescriptor (TX5 k).2.2.1 = some (tyX5 k) := by decide +kernel
abbrev cX5_init : ByteArray := prog_7_method_1_code
def yX5_init : MethodName := ⟨RX5, "<init>", "()V"⟩
abbrev cX5_thrown : ByteArray := prog_7_method_2_code
def yX5_thrown : MethodName := ⟨RX5, "thrown", "()I"⟩
abbrev cX5_read : ByteArray := prog_7_method_3_code
def yX5_read : MethodName := ⟨RX5, "read", "(I)I"⟩
abbrev cX5_write : ByteArray := prog_7_method_4_code
def yX5_write : MethodName := ⟨RX5, "write", "(II)V"⟩
abbrev cX5_next : ByteArray := prog_7_method_5_code
def yX5_next : MethodName := ⟨RX5, "next", "()I"⟩
abbrev cX5_nextTwo : ByteArray := prog_7_method_6_code
def yX5_nextTwo : MethodName := ⟨RX5, "nextTwo", "()I"⟩
abbrev cX5_push : ByteArray := prog_7_method_7_code
def yX5_push : MethodName := ⟨RX5, "push", "(I)V"⟩
abbrev cX5_pop : ByteArray := prog_7_method_8_code
def yX5_pop : MethodName := ⟨RX5, "pop", "()I"⟩
abbrev cX5_hl : ByteArray := prog_7_method_9_code
def yX5_hl : MethodName := ⟨RX5, "hl", "()I"⟩
abbrev cX5_get : ByteArray := prog_7_method_10_code
def yX5_get : MethodName := ⟨RX5, "get", "(I)I"⟩
abbrev cX5_set : ByteArray := prog_7_method_11_code
def yX5_set : MethodName := ⟨RX5, "set", "(II)V"⟩
abbrev cX5_pair : ByteArray := prog_7_method_12_code
def yX5_pair : MethodName := ⟨RX5, "pair", "(I)I"⟩
abbrev cX5_setPair : ByteArray := prog_7_method_13_code
def yX5_setPair : MethodName := ⟨RX5, "setPair", "(II)V"⟩
abbrev cX5_signs : ByteArray := prog_7_method_14_code
def yX5_signs : MethodName := ⟨RX5, "signs", "(I)V"⟩
abbrev cX5_flags : ByteArray := prog_7_method_15_code
def yX5_flags : MethodName := ⟨RX5, "flags", "()I"⟩
abbrev cX5_setFlags : ByteArray := prog_7_method_16_code
def yX5_setFlags : MethodName := ⟨RX5, "setFlags", "(I)V"⟩
abbrev cX5_alu : ByteArray := prog_7_method_17_code
def yX5_alu : MethodName := ⟨RX5, "alu", "(II)V"⟩
abbrev cX5_count : ByteArray := prog_7_method_18_code
def yX5_count : MethodName := ⟨RX5, "count", "(II)V"⟩
abbrev cX5_adjust : ByteArray := prog_7_method_19_code
def yX5_adjust : MethodName := ⟨RX5, "adjust", "()V"⟩
abbrev cX5_turn : ByteArray := prog_7_method_20_code
def yX5_turn : MethodName := ⟨RX5, "turn", "(I)V"⟩
abbrev cX5_holds : ByteArray := prog_7_method_21_code
def yX5_holds : MethodName := ⟨RX5, "holds", "(I)Z"⟩
abbrev cX5_one : ByteArray := prog_7_method_22_code
def yX5_one : MethodName := ⟨RX5, "one", "()I"⟩
abbrev cX5_low : ByteArray := prog_7_method_23_code
def yX5_low : MethodName := ⟨RX5, "low", "(II)I"⟩
abbrev cX5_moved : ByteArray := prog_7_method_24_code
def yX5_moved : MethodName := ⟨RX5, "moved", "(I)I"⟩
abbrev cX5_high : ByteArray := prog_7_method_25_code
def yX5_high : MethodName := ⟨RX5, "high", "(II)I"⟩
abbrev cX5_call : ByteArray := prog_7_method_26_code
def yX5_call : MethodName := ⟨RX5, "call", "(I)I"⟩
abbrev cX5_popped : ByteArray := prog_7_method_27_code
def yX5_popped : MethodName := ⟨RX5, "popped", "(I)I"⟩
abbrev cX5_odd : ByteArray := prog_7_method_28_code
def yX5_odd : MethodName := ⟨RX5, "odd", "(I)I"⟩
abbrev cX5_single : ByteArray := prog_7_method_29_code
def yX5_single : MethodName := ⟨RX5, "single", "(I)I"⟩
abbrev cX5_in : ByteArray := prog_7_method_30_code
def yX5_in : MethodName := ⟨RX5, "in", "(I)I"⟩
abbrev cX5_out : ByteArray := prog_7_method_31_code
def yX5_out : MethodName := ⟨RX5, "out", "(II)V"⟩
abbrev cX5_clear : ByteArray := prog_7_method_32_code
def yX5_clear : MethodName := ⟨RX5, "clear", "()V"⟩
abbrev cX5_worked : ByteArray := prog_7_method_33_code
def yX5_worked : MethodName := ⟨RX5, "worked", "()I"⟩
abbrev cX5_step : ByteArray := prog_7_method_34_code
def yX5_step : MethodName := ⟨RX5, "step", "()I"⟩
abbrev cX5_run : ByteArray := prog_7_method_35_code
def yX5_run : MethodName := ⟨RX5, "run", "(I)I"⟩
abbrev cX5_reset : ByteArray := prog_7_method_36_code
def yX5_reset : MethodName := ⟨RX5, "reset", "()V"⟩
abbrev cX5_load : ByteArray := prog_7_method_37_code
def yX5_load : MethodName := ⟨RX5, "load", "(III)I"⟩
abbrev cX5_input : ByteArray := prog_7_method_38_code
def yX5_input : MethodName := ⟨RX5, "input", "(II)V"⟩
abbrev cX5_register : ByteArray := prog_7_method_39_code
def yX5_register : MethodName := ⟨RX5, "register", "(I)I"⟩
abbrev cX5_memory : ByteArray := prog_7_method_40_code
def yX5_memory : MethodName := ⟨RX5, "memory", "(I)I"⟩
abbrev cX5_poke : ByteArray := prog_7_method_41_code
def yX5_poke : MethodName := ⟨RX5, "poke", "(II)I"⟩
abbrev cX5_bit : ByteArray := prog_7_method_42_code
def yX5_bit : MethodName := ⟨RX5, "bit", "(II)I"⟩
abbrev cX5_dot : ByteArray := prog_7_method_43_code
def yX5_dot : MethodName := ⟨RX5, "dot", "(II)I"⟩
abbrev cX5_lit : ByteArray := prog_7_method_44_code
def yX5_lit : MethodName := ⟨RX5, "lit", "(IIII)I"⟩
abbrev cX5_state : ByteArray := prog_7_method_45_code
def yX5_state : MethodName := ⟨RX5, "state", "(I)I"⟩
abbrev cX5_sounds : ByteArray := prog_7_method_46_code
def yX5_sounds : MethodName := ⟨RX5, "sounds", "(I)I"⟩
def RJ6 : String := "java/lang/Integer"
def TJ6 : u_T := fun k => match k with
  | _ => ("", "", "", false)
def tyJ6 : Nat → FieldType := fun k => match k with
  | _ => .int
abbrev wsJ60 : List Cond := u_ws RJ6 TJ6 0
theorem nmJ6 : ∀ a, a < 0 → ∀ b, b < 0 → a ≠ b → (TJ6 a).2.1 ≠ (TJ6 b).2.1 := by decide +kernel
theorem tyJ6_ok : ∀ k, k < 0 → parseFieldDescriptor (TJ6 k).2.2.1 = some (tyJ6 k) := by decide +kernel
abbrev cJ6_bitCount_0f7a4 : ByteArray := prog_11_method_49_code
def yJ6_bitCount_0f7a4 : MethodName := ⟨RJ6, "bitCount", "(I)I"⟩
def RJ9 : String := "java/lang/Math"
def TJ9 : u_T := fun k => match k with
  | _ => ("", "", "", false)
def tyJ9 : Nat → FieldType := fun k => match k with
  | _ => .int
abbrev wsJ90 : List Cond := u_ws RJ9 TJ9 0
theorem nmJ9 : ∀ a, a < 0 → ∀ b, b < 0 → a ≠ b → (TJ9 a).2.1 ≠ (TJ9 b).2.1 := by decide +kernel
theorem tyJ9_ok : ∀ k, k < 0 → parseFieldDescriptor (TJ9 k).2.2.1 = some (tyJ9 k) := by decide +kernel
abbrev cJ9_max_7cf53 : ByteArray := prog_12_method_65_code
def yJ9_max_7cf53 : MethodName := ⟨RJ9, "max", "(II)I"⟩
abbrev cJ9_max_f86c9 : ByteArray := prog_12_method_66_code
def yJ9_max_f86c9 : MethodName := ⟨RJ9, "max", "(JJ)J"⟩
abbrev cJ9_min_7cf53 : ByteArray := prog_12_method_69_code
def yJ9_min_7cf53 : MethodName := ⟨RJ9, "min", "(II)I"⟩
abbrev cJ9_min_f86c9 : ByteArray := prog_12_method_70_code
def yJ9_min_f86c9 : MethodName := ⟨RJ9, "min", "(JJ)J"⟩
def RJ0 : String := "java/lang/String"
def TJ0 : u_T := fun k => match k with
  | _ => ("", "", "", false)
def tyJ0 : Nat → FieldType := fun k => match k with
  | _ => .int
abbrev wsJ00 : List Cond := u_ws RJ0 TJ0 0
theorem nmJ0 : ∀ a, a < 0 → ∀ b, b < 0 → a ≠ b → (TJ0 a).2.1 ≠ (TJ0 b).2.1 := by decide +kernel
theorem tyJ0_ok : ∀ k, k < 0 → parseFieldDescriptor (TJ0 k).2.2.1 = some (tyJ0 k) := by decide +kernel
def RL : String := "InvaderBoardLaw"
abbrev cL_load : ByteArray := method_3_code
def yL_load : MethodName := ⟨RL, "load", "(LInvaderBoard;III[J)I"⟩
abbrev cL_input : ByteArray := method_4_code
def yL_input : MethodName := ⟨RL, "input", "(LInvaderBoard;II)I"⟩
abbrev cL_run : ByteArray := method_5_code
def yL_run : MethodName := ⟨RL, "run", "(LInvaderBoard;I[J)I"⟩
abbrev cL_register : ByteArray := method_6_code
def yL_register : MethodName := ⟨RL, "register", "(LInvaderBoard;I[J)I"⟩
abbrev cL_dot : ByteArray := method_7_code
def yL_dot : MethodName := ⟨RL, "dot", "(LInvaderBoard;II[J)I"⟩
abbrev cL_state : ByteArray := method_8_code
def yL_state : MethodName := ⟨RL, "state", "(LInvaderBoard;I[J)I"⟩
abbrev cL_sounds : ByteArray := method_9_code
def yL_sounds : MethodName := ⟨RL, "sounds", "(LInvaderBoard;I[J)I"⟩
abbrev cL_law : ByteArray := code
def yL_law : MethodName := ⟨RL, "law", "([I)Z"⟩
def wsX0_init : List Cond := .code yX0_init cX0_init 1 none :: ([.methodLink RX0 1 objectInit, .instanceMethod objectInit, .code objectInit ⟨#[0xb1]⟩ 1 none])
def wsX0_beginAnew : List Cond := .code yX0_beginAnew cX0_beginAnew 1 none :: ([.fieldLink RX0 7 "InvaderBoard$Frames" "gone" "I"] ++ wsX00)
def wsX0_dropWaiting : List Cond := .code yX0_dropWaiting cX0_dropWaiting 1 none :: ([.fieldLink RX0 13 "InvaderBoard$Frames" "waiting" "I"] ++ wsX00)
def wsX0_takeWaiting : List Cond := .code yX0_takeWaiting cX0_takeWaiting 2 (some .int) :: ([.fieldLink RX0 13 "InvaderBoard$Frames" "waiting" "I"] ++ wsX00)
def wsX0_untilRequest : List Cond := .code yX0_untilRequest cX0_untilRequest 1 (some .int) :: ([.fieldLink RX0 7 "InvaderBoard$Frames" "gone" "I", .constant RX0 16 (33333)] ++ wsX00)
def wsX0_pass : List Cond := .code yX0_pass cX0_pass 3 (some .boolean) :: ([.fieldLink RX0 7 "InvaderBoard$Frames" "gone" "I", .fieldLink RX0 13 "InvaderBoard$Frames" "waiting" "I", .constant RX0 16 (33333), .fieldLink RX0 17 "InvaderBoard$Frames" "ended" "I"] ++ wsX00)
def wsX1_init : List Cond := .code yX1_init cX1_init 1 none :: ([.methodLink RX1 1 objectInit, .instanceMethod objectInit, .code objectInit ⟨#[0xb1]⟩ 1 none, .arrayClass .int, .fieldLink RX1 9 "InvaderBoard$Memory" "rom" "[I", .fieldLink RX1 13 "InvaderBoard$Memory" "ram" "[I"] ++ wsX10)
def wsX1_read : List Cond := .code yX1_read cX1_read 3 (some .int) :: ([.fieldLink RX1 13 "InvaderBoard$Memory" "ram" "[I", .constant RX1 16 (65535), .fieldLink RX1 9 "InvaderBoard$Memory" "rom" "[I"] ++ wsX10)
def wsX1_write : List Cond := .code yX1_write cX1_write 3 none :: ([.fieldLink RX1 13 "InvaderBoard$Memory" "ram" "[I"] ++ wsX10)
def wsX1_readWord : List Cond := .code yX1_readWord cX1_readWord 2 (some .int) :: ([.methodLink RX1 17 yX1_read, .instanceMethod yX1_read, .selects RX1 yX1_read yX1_read, .initialized RX1, .code yX1_read cX1_read 3 (some .int), .fieldLink RX1 13 "InvaderBoard$Memory" "ram" "[I", .constant RX1 16 (65535), .fieldLink RX1 9 "InvaderBoard$Memory" "rom" "[I"] ++ wsX10)
def wsX1_writeWord : List Cond := .code yX1_writeWord cX1_writeWord 3 none :: ([.methodLink RX1 21 yX1_write, .instanceMethod yX1_write, .selects RX1 yX1_write yX1_write, .initialized RX1, .code yX1_write cX1_write 3 none, .fieldLink RX1 13 "InvaderBoard$Memory" "ram" "[I"] ++ wsX10)
def wsX1_burn : List Cond := .code yX1_burn cX1_burn 3 none :: ([.fieldLink RX1 9 "InvaderBoard$Memory" "rom" "[I"] ++ wsX10)
def wsJ6_bitCount_0f7a4 : List Cond := .code yJ6_bitCount_0f7a4 cJ6_bitCount_0f7a4 1 (some .int) :: ([.constant RJ6 265 (1431655765), .constant RJ6 266 (858993459), .constant RJ6 267 (252645135)])
def wsX1_dotsInColumn : List Cond := .code yX1_dotsInColumn cX1_dotsInColumn 11 (some .int) :: ([.methodLink RX1 25 Lib.Math.max.name, .static Lib.Math.max.name, .initialized "java/lang/Math", .code Lib.Math.max.name Lib.Math.max.code 2 (some .int), .methodLink RX1 31 Lib.Math.min.name, .static Lib.Math.min.name, .code Lib.Math.min.name Lib.Math.min.code 2 (some .int), .methodLink RX1 17 yX1_read, .instanceMethod yX1_read, .selects RX1 yX1_read yX1_read, .initialized RX1, .code yX1_read cX1_read 3 (some .int), .fieldLink RX1 13 "InvaderBoard$Memory" "ram" "[I", .constant RX1 16 (65535), .fieldLink RX1 9 "InvaderBoard$Memory" "rom" "[I", .methodLink RX1 34 yJ6_bitCount_0f7a4, .static yJ6_bitCount_0f7a4, .initialized RJ6, .code yJ6_bitCount_0f7a4 cJ6_bitCount_0f7a4 1 (some .int), .constant RJ6 265 (1431655765), .constant RJ6 266 (858993459), .constant RJ6 267 (252645135)] ++ wsX10)
def wsX2_init : List Cond := .code yX2_init cX2_init 1 none :: ([.methodLink RX2 1 objectInit, .instanceMethod objectInit, .code objectInit ⟨#[0xb1]⟩ 1 none, .arrayClass .int, .fieldLink RX2 9 "InvaderBoard$Ports" "inputs" "[I", .fieldLink RX2 13 "InvaderBoard$Ports" "latches" "[I", .fieldLink RX2 16 "InvaderBoard$Ports" "rises" "[I"] ++ wsX20)
def wsX2_clear : List Cond := .code yX2_clear cX2_clear 1 none :: ([.fieldLink RX2 19 "InvaderBoard$Ports" "shifter" "I", .fieldLink RX2 23 "InvaderBoard$Ports" "offset" "I", .fieldLink RX2 13 "InvaderBoard$Ports" "latches" "[I", .fieldLink RX2 26 "InvaderBoard$Ports" "framesUnfed" "I"] ++ wsX20)
def wsX2_setInput : List Cond := .code yX2_setInput cX2_setInput 3 none :: ([.fieldLink RX2 9 "InvaderBoard$Ports" "inputs" "[I"] ++ wsX20)
def wsX2_shifted : List Cond := .code yX2_shifted cX2_shifted 1 (some .int) :: ([.fieldLink RX2 19 "InvaderBoard$Ports" "shifter" "I", .fieldLink RX2 23 "InvaderBoard$Ports" "offset" "I"] ++ wsX20)
def wsX2_in : List Cond := .code yX2_in cX2_in 2 (some .int) :: ([.fieldLink RX2 9 "InvaderBoard$Ports" "inputs" "[I", .methodLink RX2 29 yX2_shifted, .instanceMethod yX2_shifted, .selects RX2 yX2_shifted yX2_shifted, .initialized RX2, .code yX2_shifted cX2_shifted 1 (some .int), .fieldLink RX2 19 "InvaderBoard$Ports" "shifter" "I", .fieldLink RX2 23 "InvaderBoard$Ports" "offset" "I"] ++ wsX20)
def wsX2_setLatch : List Cond := .code yX2_setLatch cX2_setLatch 5 none :: ([.fieldLink RX2 13 "InvaderBoard$Ports" "latches" "[I", .fieldLink RX2 16 "InvaderBoard$Ports" "rises" "[I"] ++ wsX20)
def wsX2_out : List Cond := .code yX2_out cX2_out 3 none :: ([.fieldLink RX2 23 "InvaderBoard$Ports" "offset" "I", .fieldLink RX2 19 "InvaderBoard$Ports" "shifter" "I", .fieldLink RX2 26 "InvaderBoard$Ports" "framesUnfed" "I", .methodLink RX2 33 yX2_setLatch, .instanceMethod yX2_setLatch, .selects RX2 yX2_setLatch yX2_setLatch, .initialized RX2, .code yX2_setLatch cX2_setLatch 5 none, .fieldLink RX2 13 "InvaderBoard$Ports" "latches" "[I", .fieldLink RX2 16 "InvaderBoard$Ports" "rises" "[I"] ++ wsX20)
def wsX2_latchOf : List Cond := .code yX2_latchOf cX2_latchOf 2 (some .int) :: ([.fieldLink RX2 13 "InvaderBoard$Ports" "latches" "[I"] ++ wsX20)
def wsX2_risesOf : List Cond := .code yX2_risesOf cX2_risesOf 2 (some .int) :: ([.fieldLink RX2 16 "InvaderBoard$Ports" "rises" "[I"] ++ wsX20)
def wsX2_endFrameUnfed : List Cond := .code yX2_endFrameUnfed cX2_endFrameUnfed 1 (some .boolean) :: ([.fieldLink RX2 26 "InvaderBoard$Ports" "framesUnfed" "I"] ++ wsX20)
def wsX3_init : List Cond := .code yX3_init cX3_init 3 none :: ([.methodLink RX3 3 objectInit, .instanceMethod objectInit, .code objectInit ⟨#[0xb1]⟩ 1 none, .arrayClass .int, .fieldLink RX3 9 "InvaderBoard$Processor" "registers" "[I", .fieldLink RX3 13 "InvaderBoard$Processor" "flags" "I", .fieldLink RX3 17 "InvaderBoard$Processor" "store" "LInvaderBoard$Memory;", .fieldLink RX3 21 "InvaderBoard$Processor" "ports" "LInvaderBoard$Ports;"] ++ wsX30)
def wsX3_clear : List Cond := .code yX3_clear cX3_clear 2 none :: ([.fieldLink RX3 9 "InvaderBoard$Processor" "registers" "[I", .fieldLink RX3 13 "InvaderBoard$Processor" "flags" "I", .fieldLink RX3 25 "InvaderBoard$Processor" "sp" "I", .fieldLink RX3 28 "InvaderBoard$Processor" "pc" "I", .fieldLink RX3 31 "InvaderBoard$Processor" "enabled" "Z", .fieldLink RX3 35 "InvaderBoard$Processor" "enabling" "Z", .fieldLink RX3 38 "InvaderBoard$Processor" "halted" "Z"] ++ wsX30)
def wsX3_contentOf : List Cond := .code yX3_contentOf cX3_contentOf 2 (some .int) :: ([.fieldLink RX3 13 "InvaderBoard$Processor" "flags" "I", .fieldLink RX3 25 "InvaderBoard$Processor" "sp" "I", .fieldLink RX3 28 "InvaderBoard$Processor" "pc" "I", .fieldLink RX3 31 "InvaderBoard$Processor" "enabled" "Z", .fieldLink RX3 38 "InvaderBoard$Processor" "halted" "Z", .fieldLink RX3 9 "InvaderBoard$Processor" "registers" "[I"] ++ wsX30)
def wsX3_push : List Cond := .code yX3_push cX3_push 2 none :: ([.fieldLink RX3 25 "InvaderBoard$Processor" "sp" "I", .constant RX3 184 (65535), .fieldLink RX3 17 "InvaderBoard$Processor" "store" "LInvaderBoard$Memory;", .methodLink RX3 131 yX1_writeWord, .instanceMethod yX1_writeWord, .selects RX1 yX1_writeWord yX1_writeWord, .initialized RX1, .code yX1_writeWord cX1_writeWord 3 none, .methodLink RX1 21 yX1_write, .instanceMethod yX1_write, .selects RX1 yX1_write yX1_write, .code yX1_write cX1_write 3 none, .fieldLink RX1 13 "InvaderBoard$Memory" "ram" "[I"] ++ wsX30 ++ wsX10)
def wsX3_takeRequest : List Cond := .code yX3_takeRequest cX3_takeRequest 2 (some .int) :: ([.fieldLink RX3 31 "InvaderBoard$Processor" "enabled" "Z", .fieldLink RX3 38 "InvaderBoard$Processor" "halted" "Z", .fieldLink RX3 28 "InvaderBoard$Processor" "pc" "I", .methodLink RX3 41 yX3_push, .instanceMethod yX3_push, .selects RX3 yX3_push yX3_push, .initialized RX3, .code yX3_push cX3_push 2 none, .fieldLink RX3 25 "InvaderBoard$Processor" "sp" "I", .constant RX3 184 (65535), .fieldLink RX3 17 "InvaderBoard$Processor" "store" "LInvaderBoard$Memory;", .methodLink RX3 131 yX1_writeWord, .instanceMethod yX1_writeWord, .selects RX1 yX1_writeWord yX1_writeWord, .initialized RX1, .code yX1_writeWord cX1_writeWord 3 none, .methodLink RX1 21 yX1_write, .instanceMethod yX1_write, .selects RX1 yX1_write yX1_write, .code yX1_write cX1_write 3 none, .fieldLink RX1 13 "InvaderBoard$Memory" "ram" "[I"] ++ wsX30 ++ wsX10)
def wsX3_fetch : List Cond := .code yX3_fetch cX3_fetch 2 (some .int) :: ([.fieldLink RX3 17 "InvaderBoard$Processor" "store" "LInvaderBoard$Memory;", .fieldLink RX3 28 "InvaderBoard$Processor" "pc" "I", .constant RX3 184 (65535), .methodLink RX3 128 yX1_read, .instanceMethod yX1_read, .selects RX1 yX1_read yX1_read, .initialized RX1, .code yX1_read cX1_read 3 (some .int), .fieldLink RX1 13 "InvaderBoard$Memory" "ram" "[I", .constant RX1 16 (65535), .fieldLink RX1 9 "InvaderBoard$Memory" "rom" "[I"] ++ wsX30 ++ wsX10)
def wsX3_pairAt : List Cond := .code yX3_pairAt cX3_pairAt 3 (some .int) :: ([.fieldLink RX3 9 "InvaderBoard$Processor" "registers" "[I"] ++ wsX30)
def wsX3_pairOrSp : List Cond := .code yX3_pairOrSp cX3_pairOrSp 2 (some .int) :: ([.fieldLink RX3 25 "InvaderBoard$Processor" "sp" "I", .methodLink RX3 120 yX3_pairAt, .instanceMethod yX3_pairAt, .selects RX3 yX3_pairAt yX3_pairAt, .initialized RX3, .code yX3_pairAt cX3_pairAt 3 (some .int), .fieldLink RX3 9 "InvaderBoard$Processor" "registers" "[I"] ++ wsX30)
def wsX3_setPairAt : List Cond := .code yX3_setPairAt cX3_setPairAt 4 none :: ([.fieldLink RX3 9 "InvaderBoard$Processor" "registers" "[I"] ++ wsX30)
def wsX3_setCarry : List Cond := .code yX3_setCarry cX3_setCarry 2 none :: ([.fieldLink RX3 13 "InvaderBoard$Processor" "flags" "I"] ++ wsX30)
def wsX3_addToHl : List Cond := .code yX3_addToHl cX3_addToHl 3 none :: ([.methodLink RX3 120 yX3_pairAt, .instanceMethod yX3_pairAt, .selects RX3 yX3_pairAt yX3_pairAt, .initialized RX3, .code yX3_pairAt cX3_pairAt 3 (some .int), .fieldLink RX3 9 "InvaderBoard$Processor" "registers" "[I", .methodLink RX3 137 yX3_setPairAt, .instanceMethod yX3_setPairAt, .selects RX3 yX3_setPairAt yX3_setPairAt, .code yX3_setPairAt cX3_setPairAt 4 none, .methodLink RX3 146 yX3_setCarry, .instanceMethod yX3_setCarry, .selects RX3 yX3_setCarry yX3_setCarry, .code yX3_setCarry cX3_setCarry 2 none, .fieldLink RX3 13 "InvaderBoard$Processor" "flags" "I"] ++ wsX30)
def wsX3_fetchWord : List Cond := .code yX3_fetchWord cX3_fetchWord 2 (some .int) :: ([.fieldLink RX3 17 "InvaderBoard$Processor" "store" "LInvaderBoard$Memory;", .fieldLink RX3 28 "InvaderBoard$Processor" "pc" "I", .constant RX3 184 (65535), .methodLink RX3 134 yX1_readWord, .instanceMethod yX1_readWord, .selects RX1 yX1_readWord yX1_readWord, .initialized RX1, .code yX1_readWord cX1_readWord 2 (some .int), .methodLink RX1 17 yX1_read, .instanceMethod yX1_read, .selects RX1 yX1_read yX1_read, .code yX1_read cX1_read 3 (some .int), .fieldLink RX1 13 "InvaderBoard$Memory" "ram" "[I", .constant RX1 16 (65535), .fieldLink RX1 9 "InvaderBoard$Memory" "rom" "[I"] ++ wsX30 ++ wsX10)
def wsX3_setPairOrSp : List Cond := .code yX3_setPairOrSp cX3_setPairOrSp 3 none :: ([.constant RX3 184 (65535), .fieldLink RX3 25 "InvaderBoard$Processor" "sp" "I", .methodLink RX3 137 yX3_setPairAt, .instanceMethod yX3_setPairAt, .selects RX3 yX3_setPairAt yX3_setPairAt, .initialized RX3, .code yX3_setPairAt cX3_setPairAt 4 none, .fieldLink RX3 9 "InvaderBoard$Processor" "registers" "[I"] ++ wsX30)
def wsX3_loadOrStore_r1 : List Cond := [Cond.fieldLink RX3 17 "InvaderBoard$Processor" "store" "LInvaderBoard$Memory;", Cond.fieldLink RX3 9 "InvaderBoard$Processor" "registers" "[I", Cond.methodLink RX3 120 yX3_pairAt, Cond.instanceMethod yX3_pairAt, Cond.selects RX3 yX3_pairAt yX3_pairAt, Cond.initialized RX3, Cond.code yX3_pairAt cX3_pairAt 3 (some .int), Cond.methodLink RX3 123 yX1_write, Cond.instanceMethod yX1_write, Cond.selects RX1 yX1_write yX1_write, Cond.initialized RX1, Cond.code yX1_write cX1_write 3 none, Cond.fieldLink RX1 13 "InvaderBoard$Memory" "ram" "[I", Cond.methodLink RX3 128 yX1_read, Cond.instanceMethod yX1_read, Cond.selects RX1 yX1_read yX1_read, Cond.code yX1_read cX1_read 3 (some .int), Cond.constant RX1 16 (65535), Cond.fieldLink RX1 9 "InvaderBoard$Memory" "rom" "[I", Cond.methodLink RX3 75 yX3_fetchWord, Cond.instanceMethod yX3_fetchWord, Cond.selects RX3 yX3_fetchWord yX3_fetchWord, Cond.code yX3_fetchWord cX3_fetchWord 2 (some .int), Cond.fieldLink RX3 28 "InvaderBoard$Processor" "pc" "I"]
def wsX3_loadOrStore_r2 : List Cond := [Cond.constant RX3 184 (65535), Cond.methodLink RX3 134 yX1_readWord, Cond.instanceMethod yX1_readWord, Cond.selects RX1 yX1_readWord yX1_readWord, Cond.code yX1_readWord cX1_readWord 2 (some .int), Cond.methodLink RX1 17 yX1_read, Cond.methodLink RX3 131 yX1_writeWord, Cond.instanceMethod yX1_writeWord, Cond.selects RX1 yX1_writeWord yX1_writeWord, Cond.code yX1_writeWord cX1_writeWord 3 none, Cond.methodLink RX1 21 yX1_write, Cond.methodLink RX3 137 yX3_setPairAt, Cond.instanceMethod yX3_setPairAt, Cond.selects RX3 yX3_setPairAt yX3_setPairAt, Cond.code yX3_setPairAt cX3_setPairAt 4 none]
def wsX3_loadOrStore : List Cond := .code yX3_loadOrStore cX3_loadOrStore 2 none :: ((wsX3_loadOrStore_r1 ++ wsX3_loadOrStore_r2) ++ wsX30 ++ wsX10)
def wsX3_operand : List Cond := .code yX3_operand cX3_operand 3 (some .int) :: ([.fieldLink RX3 17 "InvaderBoard$Processor" "store" "LInvaderBoard$Memory;", .fieldLink RX3 9 "InvaderBoard$Processor" "registers" "[I", .methodLink RX3 120 yX3_pairAt, .instanceMethod yX3_pairAt, .selects RX3 yX3_pairAt yX3_pairAt, .initialized RX3, .code yX3_pairAt cX3_pairAt 3 (some .int), .methodLink RX3 128 yX1_read, .instanceMethod yX1_read, .selects RX1 yX1_read yX1_read, .initialized RX1, .code yX1_read cX1_read 3 (some .int), .fieldLink RX1 13 "InvaderBoard$Memory" "ram" "[I", .constant RX1 16 (65535), .fieldLink RX1 9 "InvaderBoard$Memory" "rom" "[I"] ++ wsX30 ++ wsX10)
def wsX3_flagsOf : List Cond := .code yX3_flagsOf cX3_flagsOf 3 (some .int) :: ([.methodLink RX3 179 yJ6_bitCount_0f7a4, .static yJ6_bitCount_0f7a4, .initialized RJ6, .code yJ6_bitCount_0f7a4 cJ6_bitCount_0f7a4 1 (some .int), .constant RJ6 265 (1431655765), .constant RJ6 266 (858993459), .constant RJ6 267 (252645135)])
def wsX3_increment : List Cond := .code yX3_increment cX3_increment 4 (some .int) :: ([.fieldLink RX3 13 "InvaderBoard$Processor" "flags" "I", .methodLink RX3 149 yX3_flagsOf, .static yX3_flagsOf, .initialized RX3, .code yX3_flagsOf cX3_flagsOf 3 (some .int), .methodLink RX3 179 yJ6_bitCount_0f7a4, .static yJ6_bitCount_0f7a4, .initialized RJ6, .code yJ6_bitCount_0f7a4 cJ6_bitCount_0f7a4 1 (some .int), .constant RJ6 265 (1431655765), .constant RJ6 266 (858993459), .constant RJ6 267 (252645135)] ++ wsX30)
def wsX3_setOperand : List Cond := .code yX3_setOperand cX3_setOperand 4 none :: ([.fieldLink RX3 17 "InvaderBoard$Processor" "store" "LInvaderBoard$Memory;", .fieldLink RX3 9 "InvaderBoard$Processor" "registers" "[I", .methodLink RX3 120 yX3_pairAt, .instanceMethod yX3_pairAt, .selects RX3 yX3_pairAt yX3_pairAt, .initialized RX3, .code yX3_pairAt cX3_pairAt 3 (some .int), .methodLink RX3 123 yX1_write, .instanceMethod yX1_write, .selects RX1 yX1_write yX1_write, .initialized RX1, .code yX1_write cX1_write 3 none, .fieldLink RX1 13 "InvaderBoard$Memory" "ram" "[I"] ++ wsX30 ++ wsX10)
def wsX3_decrement : List Cond := .code yX3_decrement cX3_decrement 4 (some .int) :: ([.fieldLink RX3 13 "InvaderBoard$Processor" "flags" "I", .methodLink RX3 149 yX3_flagsOf, .static yX3_flagsOf, .initialized RX3, .code yX3_flagsOf cX3_flagsOf 3 (some .int), .methodLink RX3 179 yJ6_bitCount_0f7a4, .static yJ6_bitCount_0f7a4, .initialized RJ6, .code yJ6_bitCount_0f7a4 cJ6_bitCount_0f7a4 1 (some .int), .constant RJ6 265 (1431655765), .constant RJ6 266 (858993459), .constant RJ6 267 (252645135)] ++ wsX30)
def wsX3_setRotated : List Cond := .code yX3_setRotated cX3_setRotated 3 none :: ([.fieldLink RX3 9 "InvaderBoard$Processor" "registers" "[I", .methodLink RX3 146 yX3_setCarry, .instanceMethod yX3_setCarry, .selects RX3 yX3_setCarry yX3_setCarry, .initialized RX3, .code yX3_setCarry cX3_setCarry 2 none, .fieldLink RX3 13 "InvaderBoard$Processor" "flags" "I"] ++ wsX30)
def wsX3_adjustDecimal : List Cond := .code yX3_adjustDecimal cX3_adjustDecimal 5 none :: ([.fieldLink RX3 9 "InvaderBoard$Processor" "registers" "[I", .fieldLink RX3 13 "InvaderBoard$Processor" "flags" "I", .methodLink RX3 149 yX3_flagsOf, .static yX3_flagsOf, .initialized RX3, .code yX3_flagsOf cX3_flagsOf 3 (some .int), .methodLink RX3 179 yJ6_bitCount_0f7a4, .static yJ6_bitCount_0f7a4, .initialized RJ6, .code yJ6_bitCount_0f7a4 cJ6_bitCount_0f7a4 1 (some .int), .constant RJ6 265 (1431655765), .constant RJ6 266 (858993459), .constant RJ6 267 (252645135)] ++ wsX30)
def wsX3_changeAccumulator_r1 : List Cond := [Cond.fieldLink RX3 9 "InvaderBoard$Processor" "registers" "[I", Cond.fieldLink RX3 13 "InvaderBoard$Processor" "flags" "I", Cond.methodLink RX3 140 yX3_setRotated, Cond.instanceMethod yX3_setRotated, Cond.selects RX3 yX3_setRotated yX3_setRotated, Cond.initialized RX3, Cond.code yX3_setRotated cX3_setRotated 3 none, Cond.methodLink RX3 146 yX3_setCarry, Cond.instanceMethod yX3_setCarry, Cond.selects RX3 yX3_setCarry yX3_setCarry, Cond.code yX3_setCarry cX3_setCarry 2 none, Cond.methodLink RX3 143 yX3_adjustDecimal, Cond.instanceMethod yX3_adjustDecimal, Cond.selects RX3 yX3_adjustDecimal yX3_adjustDecimal, Cond.code yX3_adjustDecimal cX3_adjustDecimal 5 none, Cond.methodLink RX3 149 yX3_flagsOf, Cond.static yX3_flagsOf, Cond.code yX3_flagsOf cX3_flagsOf 3 (some .int), Cond.methodLink RX3 179 yJ6_bitCount_0f7a4, Cond.static yJ6_bitCount_0f7a4, Cond.initialized RJ6, Cond.code yJ6_bitCount_0f7a4 cJ6_bitCount_0f7a4 1 (some .int), Cond.constant RJ6 265 (1431655765), Cond.constant RJ6 266 (858993459)]
def wsX3_changeAccumulator_r2 : List Cond := [Cond.constant RJ6 267 (252645135)]
def wsX3_changeAccumulator : List Cond := .code yX3_changeAccumulator cX3_changeAccumulator 4 none :: ((wsX3_changeAccumulator_r1 ++ wsX3_changeAccumulator_r2) ++ wsX30)
def wsX3_executeLow_r1 : List Cond := [Cond.methodLink RX3 69 yX3_pairOrSp, Cond.instanceMethod yX3_pairOrSp, Cond.selects RX3 yX3_pairOrSp yX3_pairOrSp, Cond.initialized RX3, Cond.code yX3_pairOrSp cX3_pairOrSp 2 (some .int), Cond.fieldLink RX3 25 "InvaderBoard$Processor" "sp" "I", Cond.methodLink RX3 120 yX3_pairAt, Cond.instanceMethod yX3_pairAt, Cond.selects RX3 yX3_pairAt yX3_pairAt, Cond.code yX3_pairAt cX3_pairAt 3 (some .int), Cond.fieldLink RX3 9 "InvaderBoard$Processor" "registers" "[I", Cond.methodLink RX3 72 yX3_addToHl, Cond.instanceMethod yX3_addToHl, Cond.selects RX3 yX3_addToHl yX3_addToHl, Cond.code yX3_addToHl cX3_addToHl 3 none, Cond.methodLink RX3 137 yX3_setPairAt, Cond.instanceMethod yX3_setPairAt, Cond.selects RX3 yX3_setPairAt yX3_setPairAt, Cond.code yX3_setPairAt cX3_setPairAt 4 none, Cond.methodLink RX3 146 yX3_setCarry, Cond.instanceMethod yX3_setCarry, Cond.selects RX3 yX3_setCarry yX3_setCarry, Cond.code yX3_setCarry cX3_setCarry 2 none, Cond.fieldLink RX3 13 "InvaderBoard$Processor" "flags" "I"]
def wsX3_executeLow_r2 : List Cond := [Cond.methodLink RX3 75 yX3_fetchWord, Cond.instanceMethod yX3_fetchWord, Cond.selects RX3 yX3_fetchWord yX3_fetchWord, Cond.code yX3_fetchWord cX3_fetchWord 2 (some .int), Cond.fieldLink RX3 17 "InvaderBoard$Processor" "store" "LInvaderBoard$Memory;", Cond.fieldLink RX3 28 "InvaderBoard$Processor" "pc" "I", Cond.constant RX3 184 (65535), Cond.methodLink RX3 134 yX1_readWord, Cond.instanceMethod yX1_readWord, Cond.selects RX1 yX1_readWord yX1_readWord, Cond.initialized RX1, Cond.code yX1_readWord cX1_readWord 2 (some .int), Cond.methodLink RX1 17 yX1_read, Cond.instanceMethod yX1_read, Cond.selects RX1 yX1_read yX1_read, Cond.code yX1_read cX1_read 3 (some .int), Cond.fieldLink RX1 13 "InvaderBoard$Memory" "ram" "[I", Cond.constant RX1 16 (65535), Cond.fieldLink RX1 9 "InvaderBoard$Memory" "rom" "[I", Cond.methodLink RX3 78 yX3_setPairOrSp, Cond.instanceMethod yX3_setPairOrSp, Cond.selects RX3 yX3_setPairOrSp yX3_setPairOrSp, Cond.code yX3_setPairOrSp cX3_setPairOrSp 3 none, Cond.methodLink RX3 81 yX3_loadOrStore]
def wsX3_executeLow_r3 : List Cond := [Cond.instanceMethod yX3_loadOrStore, Cond.selects RX3 yX3_loadOrStore yX3_loadOrStore, Cond.code yX3_loadOrStore cX3_loadOrStore 2 none, Cond.methodLink RX3 123 yX1_write, Cond.instanceMethod yX1_write, Cond.selects RX1 yX1_write yX1_write, Cond.code yX1_write cX1_write 3 none, Cond.methodLink RX3 128 yX1_read, Cond.methodLink RX3 131 yX1_writeWord, Cond.instanceMethod yX1_writeWord, Cond.selects RX1 yX1_writeWord yX1_writeWord, Cond.code yX1_writeWord cX1_writeWord 3 none, Cond.methodLink RX1 21 yX1_write, Cond.methodLink RX3 58 yX3_operand, Cond.instanceMethod yX3_operand, Cond.selects RX3 yX3_operand yX3_operand, Cond.code yX3_operand cX3_operand 3 (some .int), Cond.methodLink RX3 84 yX3_increment, Cond.instanceMethod yX3_increment, Cond.selects RX3 yX3_increment yX3_increment, Cond.code yX3_increment cX3_increment 4 (some .int), Cond.methodLink RX3 149 yX3_flagsOf, Cond.static yX3_flagsOf, Cond.code yX3_flagsOf cX3_flagsOf 3 (some .int)]
def wsX3_executeLow_r4 : List Cond := [Cond.methodLink RX3 179 yJ6_bitCount_0f7a4, Cond.static yJ6_bitCount_0f7a4, Cond.initialized RJ6, Cond.code yJ6_bitCount_0f7a4 cJ6_bitCount_0f7a4 1 (some .int), Cond.constant RJ6 265 (1431655765), Cond.constant RJ6 266 (858993459), Cond.constant RJ6 267 (252645135), Cond.methodLink RX3 87 yX3_setOperand, Cond.instanceMethod yX3_setOperand, Cond.selects RX3 yX3_setOperand yX3_setOperand, Cond.code yX3_setOperand cX3_setOperand 4 none, Cond.methodLink RX3 90 yX3_decrement, Cond.instanceMethod yX3_decrement, Cond.selects RX3 yX3_decrement yX3_decrement, Cond.code yX3_decrement cX3_decrement 4 (some .int), Cond.methodLink RX3 45 yX3_fetch, Cond.instanceMethod yX3_fetch, Cond.selects RX3 yX3_fetch yX3_fetch, Cond.code yX3_fetch cX3_fetch 2 (some .int), Cond.methodLink RX3 93 yX3_changeAccumulator, Cond.instanceMethod yX3_changeAccumulator, Cond.selects RX3 yX3_changeAccumulator yX3_changeAccumulator, Cond.code yX3_changeAccumulator cX3_changeAccumulator 4 none, Cond.methodLink RX3 140 yX3_setRotated]
def wsX3_executeLow_r5 : List Cond := [Cond.instanceMethod yX3_setRotated, Cond.selects RX3 yX3_setRotated yX3_setRotated, Cond.code yX3_setRotated cX3_setRotated 3 none, Cond.methodLink RX3 143 yX3_adjustDecimal, Cond.instanceMethod yX3_adjustDecimal, Cond.selects RX3 yX3_adjustDecimal yX3_adjustDecimal, Cond.code yX3_adjustDecimal cX3_adjustDecimal 5 none]
def wsX3_executeLow : List Cond := .code yX3_executeLow cX3_executeLow 5 none :: ((wsX3_executeLow_r1 ++ (wsX3_executeLow_r2 ++ (wsX3_executeLow_r3 ++ (wsX3_executeLow_r4 ++ wsX3_executeLow_r5)))) ++ wsX30 ++ wsX10)
def wsX3_executeMove_r1 : List Cond := [Cond.fieldLink RX3 38 "InvaderBoard$Processor" "halted" "Z", Cond.methodLink RX3 58 yX3_operand, Cond.instanceMethod yX3_operand, Cond.selects RX3 yX3_operand yX3_operand, Cond.initialized RX3, Cond.code yX3_operand cX3_operand 3 (some .int), Cond.fieldLink RX3 17 "InvaderBoard$Processor" "store" "LInvaderBoard$Memory;", Cond.fieldLink RX3 9 "InvaderBoard$Processor" "registers" "[I", Cond.methodLink RX3 120 yX3_pairAt, Cond.instanceMethod yX3_pairAt, Cond.selects RX3 yX3_pairAt yX3_pairAt, Cond.code yX3_pairAt cX3_pairAt 3 (some .int), Cond.methodLink RX3 128 yX1_read, Cond.instanceMethod yX1_read, Cond.selects RX1 yX1_read yX1_read, Cond.initialized RX1, Cond.code yX1_read cX1_read 3 (some .int), Cond.fieldLink RX1 13 "InvaderBoard$Memory" "ram" "[I", Cond.constant RX1 16 (65535), Cond.fieldLink RX1 9 "InvaderBoard$Memory" "rom" "[I", Cond.methodLink RX3 87 yX3_setOperand, Cond.instanceMethod yX3_setOperand, Cond.selects RX3 yX3_setOperand yX3_setOperand, Cond.code yX3_setOperand cX3_setOperand 4 none]
def wsX3_executeMove_r2 : List Cond := [Cond.methodLink RX3 123 yX1_write, Cond.instanceMethod yX1_write, Cond.selects RX1 yX1_write yX1_write, Cond.code yX1_write cX1_write 3 none]
def wsX3_executeMove : List Cond := .code yX3_executeMove cX3_executeMove 4 none :: ((wsX3_executeMove_r1 ++ wsX3_executeMove_r2) ++ wsX30 ++ wsX10)
def wsX3_add : List Cond := .code yX3_add cX3_add 8 (some .int) :: ([.fieldLink RX3 13 "InvaderBoard$Processor" "flags" "I", .methodLink RX3 149 yX3_flagsOf, .static yX3_flagsOf, .initialized RX3, .code yX3_flagsOf cX3_flagsOf 3 (some .int), .methodLink RX3 179 yJ6_bitCount_0f7a4, .static yJ6_bitCount_0f7a4, .initialized RJ6, .code yJ6_bitCount_0f7a4 cJ6_bitCount_0f7a4 1 (some .int), .constant RJ6 265 (1431655765), .constant RJ6 266 (858993459), .constant RJ6 267 (252645135)] ++ wsX30)
def wsX3_setLogical : List Cond := .code yX3_setLogical cX3_setLogical 3 none :: ([.fieldLink RX3 9 "InvaderBoard$Processor" "registers" "[I", .fieldLink RX3 13 "InvaderBoard$Processor" "flags" "I", .methodLink RX3 149 yX3_flagsOf, .static yX3_flagsOf, .initialized RX3, .code yX3_flagsOf cX3_flagsOf 3 (some .int), .methodLink RX3 179 yJ6_bitCount_0f7a4, .static yJ6_bitCount_0f7a4, .initialized RJ6, .code yJ6_bitCount_0f7a4 cJ6_bitCount_0f7a4 1 (some .int), .constant RJ6 265 (1431655765), .constant RJ6 266 (858993459), .constant RJ6 267 (252645135)] ++ wsX30)
def wsX3_calculate : List Cond := .code yX3_calculate cX3_calculate 5 none :: ([.fieldLink RX3 9 "InvaderBoard$Processor" "registers" "[I", .fieldLink RX3 13 "InvaderBoard$Processor" "flags" "I", .methodLink RX3 172 yX3_add, .instanceMethod yX3_add, .selects RX3 yX3_add yX3_add, .initialized RX3, .code yX3_add cX3_add 8 (some .int), .methodLink RX3 149 yX3_flagsOf, .static yX3_flagsOf, .code yX3_flagsOf cX3_flagsOf 3 (some .int), .methodLink RX3 179 yJ6_bitCount_0f7a4, .static yJ6_bitCount_0f7a4, .initialized RJ6, .code yJ6_bitCount_0f7a4 cJ6_bitCount_0f7a4 1 (some .int), .constant RJ6 265 (1431655765), .constant RJ6 266 (858993459), .constant RJ6 267 (252645135), .methodLink RX3 176 yX3_setLogical, .instanceMethod yX3_setLogical, .selects RX3 yX3_setLogical yX3_setLogical, .code yX3_setLogical cX3_setLogical 3 none] ++ wsX30)
def wsX3_holds : List Cond := .code yX3_holds cX3_holds 4 (some .boolean) :: ([.fieldLink RX3 13 "InvaderBoard$Processor" "flags" "I"] ++ wsX30)
def wsX3_pop : List Cond := .code yX3_pop cX3_pop 2 (some .int) :: ([.fieldLink RX3 17 "InvaderBoard$Processor" "store" "LInvaderBoard$Memory;", .fieldLink RX3 25 "InvaderBoard$Processor" "sp" "I", .constant RX3 184 (65535), .methodLink RX3 134 yX1_readWord, .instanceMethod yX1_readWord, .selects RX1 yX1_readWord yX1_readWord, .initialized RX1, .code yX1_readWord cX1_readWord 2 (some .int), .methodLink RX1 17 yX1_read, .instanceMethod yX1_read, .selects RX1 yX1_read yX1_read, .code yX1_read cX1_read 3 (some .int), .fieldLink RX1 13 "InvaderBoard$Memory" "ram" "[I", .constant RX1 16 (65535), .fieldLink RX1 9 "InvaderBoard$Memory" "rom" "[I"] ++ wsX30 ++ wsX10)
def wsX3_returnIf : List Cond := .code yX3_returnIf cX3_returnIf 2 (some .int) :: ([.fieldLink RX3 28 "InvaderBoard$Processor" "pc" "I", .methodLink RX3 166 yX3_pop, .instanceMethod yX3_pop, .selects RX3 yX3_pop yX3_pop, .initialized RX3, .code yX3_pop cX3_pop 2 (some .int), .fieldLink RX3 17 "InvaderBoard$Processor" "store" "LInvaderBoard$Memory;", .fieldLink RX3 25 "InvaderBoard$Processor" "sp" "I", .constant RX3 184 (65535), .methodLink RX3 134 yX1_readWord, .instanceMethod yX1_readWord, .selects RX1 yX1_readWord yX1_readWord, .initialized RX1, .code yX1_readWord cX1_readWord 2 (some .int), .methodLink RX1 17 yX1_read, .instanceMethod yX1_read, .selects RX1 yX1_read yX1_read, .code yX1_read cX1_read 3 (some .int), .fieldLink RX1 13 "InvaderBoard$Memory" "ram" "[I", .constant RX1 16 (65535), .fieldLink RX1 9 "InvaderBoard$Memory" "rom" "[I"] ++ wsX30 ++ wsX10)
def wsX3_setStatusWord : List Cond := .code yX3_setStatusWord cX3_setStatusWord 2 none :: ([.fieldLink RX3 9 "InvaderBoard$Processor" "registers" "[I", .fieldLink RX3 13 "InvaderBoard$Processor" "flags" "I"] ++ wsX30)
def wsX3_popOrReturn_r1 : List Cond := [Cond.fieldLink RX3 28 "InvaderBoard$Processor" "pc" "I", Cond.fieldLink RX3 25 "InvaderBoard$Processor" "sp" "I", Cond.methodLink RX3 166 yX3_pop, Cond.instanceMethod yX3_pop, Cond.selects RX3 yX3_pop yX3_pop, Cond.initialized RX3, Cond.code yX3_pop cX3_pop 2 (some .int), Cond.fieldLink RX3 17 "InvaderBoard$Processor" "store" "LInvaderBoard$Memory;", Cond.constant RX3 184 (65535), Cond.methodLink RX3 134 yX1_readWord, Cond.instanceMethod yX1_readWord, Cond.selects RX1 yX1_readWord yX1_readWord, Cond.initialized RX1, Cond.code yX1_readWord cX1_readWord 2 (some .int), Cond.methodLink RX1 17 yX1_read, Cond.instanceMethod yX1_read, Cond.selects RX1 yX1_read yX1_read, Cond.code yX1_read cX1_read 3 (some .int), Cond.fieldLink RX1 13 "InvaderBoard$Memory" "ram" "[I", Cond.constant RX1 16 (65535), Cond.fieldLink RX1 9 "InvaderBoard$Memory" "rom" "[I", Cond.methodLink RX3 120 yX3_pairAt, Cond.instanceMethod yX3_pairAt, Cond.selects RX3 yX3_pairAt yX3_pairAt]
def wsX3_popOrReturn_r2 : List Cond := [Cond.code yX3_pairAt cX3_pairAt 3 (some .int), Cond.fieldLink RX3 9 "InvaderBoard$Processor" "registers" "[I", Cond.methodLink RX3 169 yX3_setStatusWord, Cond.instanceMethod yX3_setStatusWord, Cond.selects RX3 yX3_setStatusWord yX3_setStatusWord, Cond.code yX3_setStatusWord cX3_setStatusWord 2 none, Cond.fieldLink RX3 13 "InvaderBoard$Processor" "flags" "I", Cond.methodLink RX3 137 yX3_setPairAt, Cond.instanceMethod yX3_setPairAt, Cond.selects RX3 yX3_setPairAt yX3_setPairAt, Cond.code yX3_setPairAt cX3_setPairAt 4 none]
def wsX3_popOrReturn : List Cond := .code yX3_popOrReturn cX3_popOrReturn 2 none :: ((wsX3_popOrReturn_r1 ++ wsX3_popOrReturn_r2) ++ wsX30 ++ wsX10)
def wsX3_jumpIf : List Cond := .code yX3_jumpIf cX3_jumpIf 3 none :: ([.fieldLink RX3 28 "InvaderBoard$Processor" "pc" "I", .methodLink RX3 75 yX3_fetchWord, .instanceMethod yX3_fetchWord, .selects RX3 yX3_fetchWord yX3_fetchWord, .initialized RX3, .code yX3_fetchWord cX3_fetchWord 2 (some .int), .fieldLink RX3 17 "InvaderBoard$Processor" "store" "LInvaderBoard$Memory;", .constant RX3 184 (65535), .methodLink RX3 134 yX1_readWord, .instanceMethod yX1_readWord, .selects RX1 yX1_readWord yX1_readWord, .initialized RX1, .code yX1_readWord cX1_readWord 2 (some .int), .methodLink RX1 17 yX1_read, .instanceMethod yX1_read, .selects RX1 yX1_read yX1_read, .code yX1_read cX1_read 3 (some .int), .fieldLink RX1 13 "InvaderBoard$Memory" "ram" "[I", .constant RX1 16 (65535), .fieldLink RX1 9 "InvaderBoard$Memory" "rom" "[I"] ++ wsX30 ++ wsX10)
def wsX3_exchangeTop : List Cond := .code yX3_exchangeTop cX3_exchangeTop 3 (some .int) :: ([.fieldLink RX3 17 "InvaderBoard$Processor" "store" "LInvaderBoard$Memory;", .fieldLink RX3 25 "InvaderBoard$Processor" "sp" "I", .methodLink RX3 134 yX1_readWord, .instanceMethod yX1_readWord, .selects RX1 yX1_readWord yX1_readWord, .initialized RX1, .code yX1_readWord cX1_readWord 2 (some .int), .methodLink RX1 17 yX1_read, .instanceMethod yX1_read, .selects RX1 yX1_read yX1_read, .code yX1_read cX1_read 3 (some .int), .fieldLink RX1 13 "InvaderBoard$Memory" "ram" "[I", .constant RX1 16 (65535), .fieldLink RX1 9 "InvaderBoard$Memory" "rom" "[I", .methodLink RX3 131 yX1_writeWord, .instanceMethod yX1_writeWord, .selects RX1 yX1_writeWord yX1_writeWord, .code yX1_writeWord cX1_writeWord 3 none, .methodLink RX1 21 yX1_write, .instanceMethod yX1_write, .selects RX1 yX1_write yX1_write, .code yX1_write cX1_write 3 none] ++ wsX30 ++ wsX10)
def wsX3_exchangePairs : List Cond := .code yX3_exchangePairs cX3_exchangePairs 2 none :: ([.methodLink RX3 120 yX3_pairAt, .instanceMethod yX3_pairAt, .selects RX3 yX3_pairAt yX3_pairAt, .initialized RX3, .code yX3_pairAt cX3_pairAt 3 (some .int), .fieldLink RX3 9 "InvaderBoard$Processor" "registers" "[I", .methodLink RX3 137 yX3_setPairAt, .instanceMethod yX3_setPairAt, .selects RX3 yX3_setPairAt yX3_setPairAt, .code yX3_setPairAt cX3_setPairAt 4 none] ++ wsX30)
def wsX3_executeSingle_r1 : List Cond := [Cond.fieldLink RX3 21 "InvaderBoard$Processor" "ports" "LInvaderBoard$Ports;", Cond.fieldLink RX3 9 "InvaderBoard$Processor" "registers" "[I", Cond.fieldLink RX3 31 "InvaderBoard$Processor" "enabled" "Z", Cond.fieldLink RX3 35 "InvaderBoard$Processor" "enabling" "Z", Cond.fieldLink RX3 28 "InvaderBoard$Processor" "pc" "I", Cond.methodLink RX3 45 yX3_fetch, Cond.instanceMethod yX3_fetch, Cond.selects RX3 yX3_fetch yX3_fetch, Cond.initialized RX3, Cond.code yX3_fetch cX3_fetch 2 (some .int), Cond.fieldLink RX3 17 "InvaderBoard$Processor" "store" "LInvaderBoard$Memory;", Cond.constant RX3 184 (65535), Cond.methodLink RX3 128 yX1_read, Cond.instanceMethod yX1_read, Cond.selects RX1 yX1_read yX1_read, Cond.initialized RX1, Cond.code yX1_read cX1_read 3 (some .int), Cond.fieldLink RX1 13 "InvaderBoard$Memory" "ram" "[I", Cond.constant RX1 16 (65535), Cond.fieldLink RX1 9 "InvaderBoard$Memory" "rom" "[I", Cond.methodLink RX3 152 yX2_out, Cond.instanceMethod yX2_out, Cond.selects RX2 yX2_out yX2_out, Cond.initialized RX2]
def wsX3_executeSingle_r2 : List Cond := [Cond.code yX2_out cX2_out 3 none, Cond.fieldLink RX2 23 "InvaderBoard$Ports" "offset" "I", Cond.fieldLink RX2 19 "InvaderBoard$Ports" "shifter" "I", Cond.fieldLink RX2 26 "InvaderBoard$Ports" "framesUnfed" "I", Cond.methodLink RX2 33 yX2_setLatch, Cond.instanceMethod yX2_setLatch, Cond.selects RX2 yX2_setLatch yX2_setLatch, Cond.code yX2_setLatch cX2_setLatch 5 none, Cond.fieldLink RX2 13 "InvaderBoard$Ports" "latches" "[I", Cond.fieldLink RX2 16 "InvaderBoard$Ports" "rises" "[I", Cond.methodLink RX3 157 yX2_in, Cond.instanceMethod yX2_in, Cond.selects RX2 yX2_in yX2_in, Cond.code yX2_in cX2_in 2 (some .int), Cond.fieldLink RX2 9 "InvaderBoard$Ports" "inputs" "[I", Cond.methodLink RX2 29 yX2_shifted, Cond.instanceMethod yX2_shifted, Cond.selects RX2 yX2_shifted yX2_shifted, Cond.code yX2_shifted cX2_shifted 1 (some .int), Cond.methodLink RX3 120 yX3_pairAt, Cond.instanceMethod yX3_pairAt, Cond.selects RX3 yX3_pairAt yX3_pairAt, Cond.code yX3_pairAt cX3_pairAt 3 (some .int), Cond.methodLink RX3 160 yX3_exchangeTop]
def wsX3_executeSingle_r3 : List Cond := [Cond.instanceMethod yX3_exchangeTop, Cond.selects RX3 yX3_exchangeTop yX3_exchangeTop, Cond.code yX3_exchangeTop cX3_exchangeTop 3 (some .int), Cond.fieldLink RX3 25 "InvaderBoard$Processor" "sp" "I", Cond.methodLink RX3 134 yX1_readWord, Cond.instanceMethod yX1_readWord, Cond.selects RX1 yX1_readWord yX1_readWord, Cond.code yX1_readWord cX1_readWord 2 (some .int), Cond.methodLink RX1 17 yX1_read, Cond.methodLink RX3 131 yX1_writeWord, Cond.instanceMethod yX1_writeWord, Cond.selects RX1 yX1_writeWord yX1_writeWord, Cond.code yX1_writeWord cX1_writeWord 3 none, Cond.methodLink RX1 21 yX1_write, Cond.instanceMethod yX1_write, Cond.selects RX1 yX1_write yX1_write, Cond.code yX1_write cX1_write 3 none, Cond.methodLink RX3 137 yX3_setPairAt, Cond.instanceMethod yX3_setPairAt, Cond.selects RX3 yX3_setPairAt yX3_setPairAt, Cond.code yX3_setPairAt cX3_setPairAt 4 none, Cond.methodLink RX3 163 yX3_exchangePairs, Cond.instanceMethod yX3_exchangePairs, Cond.selects RX3 yX3_exchangePairs yX3_exchangePairs]
def wsX3_executeSingle_r4 : List Cond := [Cond.code yX3_exchangePairs cX3_exchangePairs 2 none, Cond.methodLink RX3 75 yX3_fetchWord, Cond.instanceMethod yX3_fetchWord, Cond.selects RX3 yX3_fetchWord yX3_fetchWord, Cond.code yX3_fetchWord cX3_fetchWord 2 (some .int)]
def wsX3_executeSingle : List Cond := .code yX3_executeSingle cX3_executeSingle 2 none :: ((wsX3_executeSingle_r1 ++ (wsX3_executeSingle_r2 ++ (wsX3_executeSingle_r3 ++ wsX3_executeSingle_r4))) ++ wsX30 ++ wsX10 ++ wsX20)
def wsX3_callIf_r1 : List Cond := [Cond.fieldLink RX3 28 "InvaderBoard$Processor" "pc" "I", Cond.methodLink RX3 75 yX3_fetchWord, Cond.instanceMethod yX3_fetchWord, Cond.selects RX3 yX3_fetchWord yX3_fetchWord, Cond.initialized RX3, Cond.code yX3_fetchWord cX3_fetchWord 2 (some .int), Cond.fieldLink RX3 17 "InvaderBoard$Processor" "store" "LInvaderBoard$Memory;", Cond.constant RX3 184 (65535), Cond.methodLink RX3 134 yX1_readWord, Cond.instanceMethod yX1_readWord, Cond.selects RX1 yX1_readWord yX1_readWord, Cond.initialized RX1, Cond.code yX1_readWord cX1_readWord 2 (some .int), Cond.methodLink RX1 17 yX1_read, Cond.instanceMethod yX1_read, Cond.selects RX1 yX1_read yX1_read, Cond.code yX1_read cX1_read 3 (some .int), Cond.fieldLink RX1 13 "InvaderBoard$Memory" "ram" "[I", Cond.constant RX1 16 (65535), Cond.fieldLink RX1 9 "InvaderBoard$Memory" "rom" "[I", Cond.methodLink RX3 41 yX3_push, Cond.instanceMethod yX3_push, Cond.selects RX3 yX3_push yX3_push, Cond.code yX3_push cX3_push 2 none]
def wsX3_callIf_r2 : List Cond := [Cond.fieldLink RX3 25 "InvaderBoard$Processor" "sp" "I", Cond.methodLink RX3 131 yX1_writeWord, Cond.instanceMethod yX1_writeWord, Cond.selects RX1 yX1_writeWord yX1_writeWord, Cond.code yX1_writeWord cX1_writeWord 3 none, Cond.methodLink RX1 21 yX1_write, Cond.instanceMethod yX1_write, Cond.selects RX1 yX1_write yX1_write, Cond.code yX1_write cX1_write 3 none]
def wsX3_callIf : List Cond := .code yX3_callIf cX3_callIf 3 (some .int) :: ((wsX3_callIf_r1 ++ wsX3_callIf_r2) ++ wsX30 ++ wsX10)
def wsX3_statusWord : List Cond := .code yX3_statusWord cX3_statusWord 1 (some .int) :: ([.fieldLink RX3 9 "InvaderBoard$Processor" "registers" "[I", .fieldLink RX3 13 "InvaderBoard$Processor" "flags" "I"] ++ wsX30)
def wsX3_executeHigh_r1 : List Cond := [Cond.fieldLink RX3 28 "InvaderBoard$Processor" "pc" "I", Cond.methodLink RX3 96 yX3_holds, Cond.instanceMethod yX3_holds, Cond.selects RX3 yX3_holds yX3_holds, Cond.initialized RX3, Cond.code yX3_holds cX3_holds 4 (some .boolean), Cond.fieldLink RX3 13 "InvaderBoard$Processor" "flags" "I", Cond.methodLink RX3 100 yX3_returnIf, Cond.instanceMethod yX3_returnIf, Cond.selects RX3 yX3_returnIf yX3_returnIf, Cond.code yX3_returnIf cX3_returnIf 2 (some .int), Cond.methodLink RX3 166 yX3_pop, Cond.instanceMethod yX3_pop, Cond.selects RX3 yX3_pop yX3_pop, Cond.code yX3_pop cX3_pop 2 (some .int), Cond.fieldLink RX3 17 "InvaderBoard$Processor" "store" "LInvaderBoard$Memory;", Cond.fieldLink RX3 25 "InvaderBoard$Processor" "sp" "I", Cond.constant RX3 184 (65535), Cond.methodLink RX3 134 yX1_readWord, Cond.instanceMethod yX1_readWord, Cond.selects RX1 yX1_readWord yX1_readWord, Cond.initialized RX1, Cond.code yX1_readWord cX1_readWord 2 (some .int), Cond.methodLink RX1 17 yX1_read]
def wsX3_executeHigh_r2 : List Cond := [Cond.instanceMethod yX1_read, Cond.selects RX1 yX1_read yX1_read, Cond.code yX1_read cX1_read 3 (some .int), Cond.fieldLink RX1 13 "InvaderBoard$Memory" "ram" "[I", Cond.constant RX1 16 (65535), Cond.fieldLink RX1 9 "InvaderBoard$Memory" "rom" "[I", Cond.methodLink RX3 104 yX3_popOrReturn, Cond.instanceMethod yX3_popOrReturn, Cond.selects RX3 yX3_popOrReturn yX3_popOrReturn, Cond.code yX3_popOrReturn cX3_popOrReturn 2 none, Cond.methodLink RX3 120 yX3_pairAt, Cond.instanceMethod yX3_pairAt, Cond.selects RX3 yX3_pairAt yX3_pairAt, Cond.code yX3_pairAt cX3_pairAt 3 (some .int), Cond.fieldLink RX3 9 "InvaderBoard$Processor" "registers" "[I", Cond.methodLink RX3 169 yX3_setStatusWord, Cond.instanceMethod yX3_setStatusWord, Cond.selects RX3 yX3_setStatusWord yX3_setStatusWord, Cond.code yX3_setStatusWord cX3_setStatusWord 2 none, Cond.methodLink RX3 137 yX3_setPairAt, Cond.instanceMethod yX3_setPairAt, Cond.selects RX3 yX3_setPairAt yX3_setPairAt, Cond.code yX3_setPairAt cX3_setPairAt 4 none, Cond.methodLink RX3 107 yX3_jumpIf]
def wsX3_executeHigh_r3 : List Cond := [Cond.instanceMethod yX3_jumpIf, Cond.selects RX3 yX3_jumpIf yX3_jumpIf, Cond.code yX3_jumpIf cX3_jumpIf 3 none, Cond.methodLink RX3 75 yX3_fetchWord, Cond.instanceMethod yX3_fetchWord, Cond.selects RX3 yX3_fetchWord yX3_fetchWord, Cond.code yX3_fetchWord cX3_fetchWord 2 (some .int), Cond.methodLink RX3 111 yX3_executeSingle, Cond.instanceMethod yX3_executeSingle, Cond.selects RX3 yX3_executeSingle yX3_executeSingle, Cond.code yX3_executeSingle cX3_executeSingle 2 none, Cond.fieldLink RX3 21 "InvaderBoard$Processor" "ports" "LInvaderBoard$Ports;", Cond.fieldLink RX3 31 "InvaderBoard$Processor" "enabled" "Z", Cond.fieldLink RX3 35 "InvaderBoard$Processor" "enabling" "Z", Cond.methodLink RX3 45 yX3_fetch, Cond.instanceMethod yX3_fetch, Cond.selects RX3 yX3_fetch yX3_fetch, Cond.code yX3_fetch cX3_fetch 2 (some .int), Cond.methodLink RX3 128 yX1_read, Cond.methodLink RX3 152 yX2_out, Cond.instanceMethod yX2_out, Cond.selects RX2 yX2_out yX2_out, Cond.initialized RX2, Cond.code yX2_out cX2_out 3 none]
def wsX3_executeHigh_r4 : List Cond := [Cond.fieldLink RX2 23 "InvaderBoard$Ports" "offset" "I", Cond.fieldLink RX2 19 "InvaderBoard$Ports" "shifter" "I", Cond.fieldLink RX2 26 "InvaderBoard$Ports" "framesUnfed" "I", Cond.methodLink RX2 33 yX2_setLatch, Cond.instanceMethod yX2_setLatch, Cond.selects RX2 yX2_setLatch yX2_setLatch, Cond.code yX2_setLatch cX2_setLatch 5 none, Cond.fieldLink RX2 13 "InvaderBoard$Ports" "latches" "[I", Cond.fieldLink RX2 16 "InvaderBoard$Ports" "rises" "[I", Cond.methodLink RX3 157 yX2_in, Cond.instanceMethod yX2_in, Cond.selects RX2 yX2_in yX2_in, Cond.code yX2_in cX2_in 2 (some .int), Cond.fieldLink RX2 9 "InvaderBoard$Ports" "inputs" "[I", Cond.methodLink RX2 29 yX2_shifted, Cond.instanceMethod yX2_shifted, Cond.selects RX2 yX2_shifted yX2_shifted, Cond.code yX2_shifted cX2_shifted 1 (some .int), Cond.methodLink RX3 160 yX3_exchangeTop, Cond.instanceMethod yX3_exchangeTop, Cond.selects RX3 yX3_exchangeTop yX3_exchangeTop, Cond.code yX3_exchangeTop cX3_exchangeTop 3 (some .int), Cond.methodLink RX3 131 yX1_writeWord, Cond.instanceMethod yX1_writeWord]
def wsX3_executeHigh_r5 : List Cond := [Cond.selects RX1 yX1_writeWord yX1_writeWord, Cond.code yX1_writeWord cX1_writeWord 3 none, Cond.methodLink RX1 21 yX1_write, Cond.instanceMethod yX1_write, Cond.selects RX1 yX1_write yX1_write, Cond.code yX1_write cX1_write 3 none, Cond.methodLink RX3 163 yX3_exchangePairs, Cond.instanceMethod yX3_exchangePairs, Cond.selects RX3 yX3_exchangePairs yX3_exchangePairs, Cond.code yX3_exchangePairs cX3_exchangePairs 2 none, Cond.methodLink RX3 114 yX3_callIf, Cond.instanceMethod yX3_callIf, Cond.selects RX3 yX3_callIf yX3_callIf, Cond.code yX3_callIf cX3_callIf 3 (some .int), Cond.methodLink RX3 41 yX3_push, Cond.instanceMethod yX3_push, Cond.selects RX3 yX3_push yX3_push, Cond.code yX3_push cX3_push 2 none, Cond.methodLink RX3 117 yX3_statusWord, Cond.instanceMethod yX3_statusWord, Cond.selects RX3 yX3_statusWord yX3_statusWord, Cond.code yX3_statusWord cX3_statusWord 1 (some .int), Cond.methodLink RX3 62 yX3_calculate, Cond.instanceMethod yX3_calculate]
def wsX3_executeHigh_r6 : List Cond := [Cond.selects RX3 yX3_calculate yX3_calculate, Cond.code yX3_calculate cX3_calculate 5 none, Cond.methodLink RX3 172 yX3_add, Cond.instanceMethod yX3_add, Cond.selects RX3 yX3_add yX3_add, Cond.code yX3_add cX3_add 8 (some .int), Cond.methodLink RX3 149 yX3_flagsOf, Cond.static yX3_flagsOf, Cond.code yX3_flagsOf cX3_flagsOf 3 (some .int), Cond.methodLink RX3 179 yJ6_bitCount_0f7a4, Cond.static yJ6_bitCount_0f7a4, Cond.initialized RJ6, Cond.code yJ6_bitCount_0f7a4 cJ6_bitCount_0f7a4 1 (some .int), Cond.constant RJ6 265 (1431655765), Cond.constant RJ6 266 (858993459), Cond.constant RJ6 267 (252645135), Cond.methodLink RX3 176 yX3_setLogical, Cond.instanceMethod yX3_setLogical, Cond.selects RX3 yX3_setLogical yX3_setLogical, Cond.code yX3_setLogical cX3_setLogical 3 none]
def wsX3_executeHigh : List Cond := .code yX3_executeHigh cX3_executeHigh 3 (some .int) :: ((wsX3_executeHigh_r1 ++ (wsX3_executeHigh_r2 ++ (wsX3_executeHigh_r3 ++ (wsX3_executeHigh_r4 ++ (wsX3_executeHigh_r5 ++ wsX3_executeHigh_r6))))) ++ wsX30 ++ wsX10 ++ wsX20)
def wsX3_execute_r1 : List Cond := [Cond.fieldLink RX3 35 "InvaderBoard$Processor" "enabling" "Z", Cond.fieldLink RX3 49 "InvaderBoard$Processor" "STATES" "[I", Cond.fieldLink RX3 31 "InvaderBoard$Processor" "enabled" "Z", Cond.methodLink RX3 45 yX3_fetch, Cond.instanceMethod yX3_fetch, Cond.selects RX3 yX3_fetch yX3_fetch, Cond.initialized RX3, Cond.code yX3_fetch cX3_fetch 2 (some .int), Cond.fieldLink RX3 17 "InvaderBoard$Processor" "store" "LInvaderBoard$Memory;", Cond.fieldLink RX3 28 "InvaderBoard$Processor" "pc" "I", Cond.constant RX3 184 (65535), Cond.methodLink RX3 128 yX1_read, Cond.instanceMethod yX1_read, Cond.selects RX1 yX1_read yX1_read, Cond.initialized RX1, Cond.code yX1_read cX1_read 3 (some .int), Cond.fieldLink RX1 13 "InvaderBoard$Memory" "ram" "[I", Cond.constant RX1 16 (65535), Cond.fieldLink RX1 9 "InvaderBoard$Memory" "rom" "[I", Cond.methodLink RX3 52 yX3_executeLow, Cond.instanceMethod yX3_executeLow, Cond.selects RX3 yX3_executeLow yX3_executeLow, Cond.code yX3_executeLow cX3_executeLow 5 none, Cond.methodLink RX3 69 yX3_pairOrSp]
def wsX3_execute_r2 : List Cond := [Cond.instanceMethod yX3_pairOrSp, Cond.selects RX3 yX3_pairOrSp yX3_pairOrSp, Cond.code yX3_pairOrSp cX3_pairOrSp 2 (some .int), Cond.fieldLink RX3 25 "InvaderBoard$Processor" "sp" "I", Cond.methodLink RX3 120 yX3_pairAt, Cond.instanceMethod yX3_pairAt, Cond.selects RX3 yX3_pairAt yX3_pairAt, Cond.code yX3_pairAt cX3_pairAt 3 (some .int), Cond.fieldLink RX3 9 "InvaderBoard$Processor" "registers" "[I", Cond.methodLink RX3 72 yX3_addToHl, Cond.instanceMethod yX3_addToHl, Cond.selects RX3 yX3_addToHl yX3_addToHl, Cond.code yX3_addToHl cX3_addToHl 3 none, Cond.methodLink RX3 137 yX3_setPairAt, Cond.instanceMethod yX3_setPairAt, Cond.selects RX3 yX3_setPairAt yX3_setPairAt, Cond.code yX3_setPairAt cX3_setPairAt 4 none, Cond.methodLink RX3 146 yX3_setCarry, Cond.instanceMethod yX3_setCarry, Cond.selects RX3 yX3_setCarry yX3_setCarry, Cond.code yX3_setCarry cX3_setCarry 2 none, Cond.fieldLink RX3 13 "InvaderBoard$Processor" "flags" "I", Cond.methodLink RX3 75 yX3_fetchWord, Cond.instanceMethod yX3_fetchWord]
def wsX3_execute_r3 : List Cond := [Cond.selects RX3 yX3_fetchWord yX3_fetchWord, Cond.code yX3_fetchWord cX3_fetchWord 2 (some .int), Cond.methodLink RX3 134 yX1_readWord, Cond.instanceMethod yX1_readWord, Cond.selects RX1 yX1_readWord yX1_readWord, Cond.code yX1_readWord cX1_readWord 2 (some .int), Cond.methodLink RX1 17 yX1_read, Cond.methodLink RX3 78 yX3_setPairOrSp, Cond.instanceMethod yX3_setPairOrSp, Cond.selects RX3 yX3_setPairOrSp yX3_setPairOrSp, Cond.code yX3_setPairOrSp cX3_setPairOrSp 3 none, Cond.methodLink RX3 81 yX3_loadOrStore, Cond.instanceMethod yX3_loadOrStore, Cond.selects RX3 yX3_loadOrStore yX3_loadOrStore, Cond.code yX3_loadOrStore cX3_loadOrStore 2 none, Cond.methodLink RX3 123 yX1_write, Cond.instanceMethod yX1_write, Cond.selects RX1 yX1_write yX1_write, Cond.code yX1_write cX1_write 3 none, Cond.methodLink RX3 131 yX1_writeWord, Cond.instanceMethod yX1_writeWord, Cond.selects RX1 yX1_writeWord yX1_writeWord, Cond.code yX1_writeWord cX1_writeWord 3 none, Cond.methodLink RX1 21 yX1_write]
def wsX3_execute_r4 : List Cond := [Cond.methodLink RX3 58 yX3_operand, Cond.instanceMethod yX3_operand, Cond.selects RX3 yX3_operand yX3_operand, Cond.code yX3_operand cX3_operand 3 (some .int), Cond.methodLink RX3 84 yX3_increment, Cond.instanceMethod yX3_increment, Cond.selects RX3 yX3_increment yX3_increment, Cond.code yX3_increment cX3_increment 4 (some .int), Cond.methodLink RX3 149 yX3_flagsOf, Cond.static yX3_flagsOf, Cond.code yX3_flagsOf cX3_flagsOf 3 (some .int), Cond.methodLink RX3 179 yJ6_bitCount_0f7a4, Cond.static yJ6_bitCount_0f7a4, Cond.initialized RJ6, Cond.code yJ6_bitCount_0f7a4 cJ6_bitCount_0f7a4 1 (some .int), Cond.constant RJ6 265 (1431655765), Cond.constant RJ6 266 (858993459), Cond.constant RJ6 267 (252645135), Cond.methodLink RX3 87 yX3_setOperand, Cond.instanceMethod yX3_setOperand, Cond.selects RX3 yX3_setOperand yX3_setOperand, Cond.code yX3_setOperand cX3_setOperand 4 none, Cond.methodLink RX3 90 yX3_decrement, Cond.instanceMethod yX3_decrement]
def wsX3_execute_r5 : List Cond := [Cond.selects RX3 yX3_decrement yX3_decrement, Cond.code yX3_decrement cX3_decrement 4 (some .int), Cond.methodLink RX3 93 yX3_changeAccumulator, Cond.instanceMethod yX3_changeAccumulator, Cond.selects RX3 yX3_changeAccumulator yX3_changeAccumulator, Cond.code yX3_changeAccumulator cX3_changeAccumulator 4 none, Cond.methodLink RX3 140 yX3_setRotated, Cond.instanceMethod yX3_setRotated, Cond.selects RX3 yX3_setRotated yX3_setRotated, Cond.code yX3_setRotated cX3_setRotated 3 none, Cond.methodLink RX3 143 yX3_adjustDecimal, Cond.instanceMethod yX3_adjustDecimal, Cond.selects RX3 yX3_adjustDecimal yX3_adjustDecimal, Cond.code yX3_adjustDecimal cX3_adjustDecimal 5 none, Cond.methodLink RX3 55 yX3_executeMove, Cond.instanceMethod yX3_executeMove, Cond.selects RX3 yX3_executeMove yX3_executeMove, Cond.code yX3_executeMove cX3_executeMove 4 none, Cond.fieldLink RX3 38 "InvaderBoard$Processor" "halted" "Z", Cond.methodLink RX3 62 yX3_calculate, Cond.instanceMethod yX3_calculate, Cond.selects RX3 yX3_calculate yX3_calculate, Cond.code yX3_calculate cX3_calculate 5 none, Cond.methodLink RX3 172 yX3_add]
def wsX3_execute_r6 : List Cond := [Cond.instanceMethod yX3_add, Cond.selects RX3 yX3_add yX3_add, Cond.code yX3_add cX3_add 8 (some .int), Cond.methodLink RX3 176 yX3_setLogical, Cond.instanceMethod yX3_setLogical, Cond.selects RX3 yX3_setLogical yX3_setLogical, Cond.code yX3_setLogical cX3_setLogical 3 none, Cond.methodLink RX3 66 yX3_executeHigh, Cond.instanceMethod yX3_executeHigh, Cond.selects RX3 yX3_executeHigh yX3_executeHigh, Cond.code yX3_executeHigh cX3_executeHigh 3 (some .int), Cond.methodLink RX3 96 yX3_holds, Cond.instanceMethod yX3_holds, Cond.selects RX3 yX3_holds yX3_holds, Cond.code yX3_holds cX3_holds 4 (some .boolean), Cond.methodLink RX3 100 yX3_returnIf, Cond.instanceMethod yX3_returnIf, Cond.selects RX3 yX3_returnIf yX3_returnIf, Cond.code yX3_returnIf cX3_returnIf 2 (some .int), Cond.methodLink RX3 166 yX3_pop, Cond.instanceMethod yX3_pop, Cond.selects RX3 yX3_pop yX3_pop, Cond.code yX3_pop cX3_pop 2 (some .int), Cond.methodLink RX3 104 yX3_popOrReturn]
def wsX3_execute_r7 : List Cond := [Cond.instanceMethod yX3_popOrReturn, Cond.selects RX3 yX3_popOrReturn yX3_popOrReturn, Cond.code yX3_popOrReturn cX3_popOrReturn 2 none, Cond.methodLink RX3 169 yX3_setStatusWord, Cond.instanceMethod yX3_setStatusWord, Cond.selects RX3 yX3_setStatusWord yX3_setStatusWord, Cond.code yX3_setStatusWord cX3_setStatusWord 2 none, Cond.methodLink RX3 107 yX3_jumpIf, Cond.instanceMethod yX3_jumpIf, Cond.selects RX3 yX3_jumpIf yX3_jumpIf, Cond.code yX3_jumpIf cX3_jumpIf 3 none, Cond.methodLink RX3 111 yX3_executeSingle, Cond.instanceMethod yX3_executeSingle, Cond.selects RX3 yX3_executeSingle yX3_executeSingle, Cond.code yX3_executeSingle cX3_executeSingle 2 none, Cond.fieldLink RX3 21 "InvaderBoard$Processor" "ports" "LInvaderBoard$Ports;", Cond.methodLink RX3 152 yX2_out, Cond.instanceMethod yX2_out, Cond.selects RX2 yX2_out yX2_out, Cond.initialized RX2, Cond.code yX2_out cX2_out 3 none, Cond.fieldLink RX2 23 "InvaderBoard$Ports" "offset" "I", Cond.fieldLink RX2 19 "InvaderBoard$Ports" "shifter" "I", Cond.fieldLink RX2 26 "InvaderBoard$Ports" "framesUnfed" "I"]
def wsX3_execute_r8 : List Cond := [Cond.methodLink RX2 33 yX2_setLatch, Cond.instanceMethod yX2_setLatch, Cond.selects RX2 yX2_setLatch yX2_setLatch, Cond.code yX2_setLatch cX2_setLatch 5 none, Cond.fieldLink RX2 13 "InvaderBoard$Ports" "latches" "[I", Cond.fieldLink RX2 16 "InvaderBoard$Ports" "rises" "[I", Cond.methodLink RX3 157 yX2_in, Cond.instanceMethod yX2_in, Cond.selects RX2 yX2_in yX2_in, Cond.code yX2_in cX2_in 2 (some .int), Cond.fieldLink RX2 9 "InvaderBoard$Ports" "inputs" "[I", Cond.methodLink RX2 29 yX2_shifted, Cond.instanceMethod yX2_shifted, Cond.selects RX2 yX2_shifted yX2_shifted, Cond.code yX2_shifted cX2_shifted 1 (some .int), Cond.methodLink RX3 160 yX3_exchangeTop, Cond.instanceMethod yX3_exchangeTop, Cond.selects RX3 yX3_exchangeTop yX3_exchangeTop, Cond.code yX3_exchangeTop cX3_exchangeTop 3 (some .int), Cond.methodLink RX3 163 yX3_exchangePairs, Cond.instanceMethod yX3_exchangePairs, Cond.selects RX3 yX3_exchangePairs yX3_exchangePairs, Cond.code yX3_exchangePairs cX3_exchangePairs 2 none, Cond.methodLink RX3 114 yX3_callIf]
def wsX3_execute_r9 : List Cond := [Cond.instanceMethod yX3_callIf, Cond.selects RX3 yX3_callIf yX3_callIf, Cond.code yX3_callIf cX3_callIf 3 (some .int), Cond.methodLink RX3 41 yX3_push, Cond.instanceMethod yX3_push, Cond.selects RX3 yX3_push yX3_push, Cond.code yX3_push cX3_push 2 none, Cond.methodLink RX3 117 yX3_statusWord, Cond.instanceMethod yX3_statusWord, Cond.selects RX3 yX3_statusWord yX3_statusWord, Cond.code yX3_statusWord cX3_statusWord 1 (some .int)]
def wsX3_execute : List Cond := .code yX3_execute cX3_execute 4 (some .int) :: ((wsX3_execute_r1 ++ (wsX3_execute_r2 ++ (wsX3_execute_r3 ++ (wsX3_execute_r4 ++ (wsX3_execute_r5 ++ (wsX3_execute_r6 ++ (wsX3_execute_r7 ++ (wsX3_execute_r8 ++ wsX3_execute_r9)))))))) ++ wsX30 ++ wsX10 ++ wsX20)
def wsX4_init_r1 : List Cond := [Cond.methodLink RX4 1 objectInit, Cond.instanceMethod objectInit, Cond.code objectInit ⟨#[0xb1]⟩ 1 none, Cond.classLink RX4 7 RX1, Cond.instantiable RX1 2, Cond.initialized RX1, Cond.fieldLink RX4 10 "InvaderBoard" "store" "LInvaderBoard$Memory;", Cond.classLink RX4 16 RX2, Cond.instantiable RX2 6, Cond.initialized RX2, Cond.fieldLink RX4 19 "InvaderBoard" "ports" "LInvaderBoard$Ports;", Cond.classLink RX4 23 RX3, Cond.instantiable RX3 9, Cond.initialized RX3, Cond.fieldLink RX4 28 "InvaderBoard" "processor" "LInvaderBoard$Processor;", Cond.classLink RX4 32 RX0, Cond.instantiable RX0 3, Cond.initialized RX0, Cond.fieldLink RX4 35 "InvaderBoard" "frames" "LInvaderBoard$Frames;", Cond.instanceMethod yX1_init, Cond.code yX1_init cX1_init 1 none, Cond.methodLink RX1 1 objectInit, Cond.arrayClass .int, Cond.fieldLink RX1 9 "InvaderBoard$Memory" "rom" "[I"]
def wsX4_init_r2 : List Cond := [Cond.fieldLink RX1 13 "InvaderBoard$Memory" "ram" "[I", Cond.instanceMethod yX2_init, Cond.code yX2_init cX2_init 1 none, Cond.methodLink RX2 1 objectInit, Cond.fieldLink RX2 9 "InvaderBoard$Ports" "inputs" "[I", Cond.fieldLink RX2 13 "InvaderBoard$Ports" "latches" "[I", Cond.fieldLink RX2 16 "InvaderBoard$Ports" "rises" "[I", Cond.methodLink RX4 25 yX3_init, Cond.instanceMethod yX3_init, Cond.code yX3_init cX3_init 3 none, Cond.methodLink RX3 3 objectInit, Cond.fieldLink RX3 9 "InvaderBoard$Processor" "registers" "[I", Cond.fieldLink RX3 13 "InvaderBoard$Processor" "flags" "I", Cond.fieldLink RX3 17 "InvaderBoard$Processor" "store" "LInvaderBoard$Memory;", Cond.fieldLink RX3 21 "InvaderBoard$Processor" "ports" "LInvaderBoard$Ports;", Cond.instanceMethod yX0_init, Cond.code yX0_init cX0_init 1 none, Cond.methodLink RX0 1 objectInit]
def wsX4_init : List Cond := .code yX4_init cX4_init 1 none :: ((wsX4_init_r1 ++ wsX4_init_r2) ++ wsX10 ++ wsX40 ++ wsX20 ++ wsX30 ++ wsX00)
def wsX4_load : List Cond := .code yX4_load cX4_load 5 (some .int) :: ([.classLink RX4 39 "java/lang/IllegalArgumentException", .initialized "java/lang/IllegalArgumentException", .fieldLink RX4 10 "InvaderBoard" "store" "LInvaderBoard$Memory;", .methodLink RX4 48 yX1_burn, .instanceMethod yX1_burn, .selects RX1 yX1_burn yX1_burn, .initialized RX1, .code yX1_burn cX1_burn 3 none, .fieldLink RX1 9 "InvaderBoard$Memory" "rom" "[I"] ++ wsX40 ++ wsX10 ++ (vx_atS RX4 43 "java/lang/IllegalArgumentException" ["java/lang/RuntimeException", "java/lang/Exception"]).filter goodWord)
def wsX4_resetParts_r1 : List Cond := [Cond.fieldLink RX4 28 "InvaderBoard" "processor" "LInvaderBoard$Processor;", Cond.fieldLink RX4 19 "InvaderBoard" "ports" "LInvaderBoard$Ports;", Cond.fieldLink RX4 35 "InvaderBoard" "frames" "LInvaderBoard$Frames;", Cond.methodLink RX4 154 yX3_clear, Cond.instanceMethod yX3_clear, Cond.selects RX3 yX3_clear yX3_clear, Cond.initialized RX3, Cond.code yX3_clear cX3_clear 2 none, Cond.fieldLink RX3 9 "InvaderBoard$Processor" "registers" "[I", Cond.fieldLink RX3 13 "InvaderBoard$Processor" "flags" "I", Cond.fieldLink RX3 25 "InvaderBoard$Processor" "sp" "I", Cond.fieldLink RX3 28 "InvaderBoard$Processor" "pc" "I", Cond.fieldLink RX3 31 "InvaderBoard$Processor" "enabled" "Z", Cond.fieldLink RX3 35 "InvaderBoard$Processor" "enabling" "Z", Cond.fieldLink RX3 38 "InvaderBoard$Processor" "halted" "Z", Cond.methodLink RX4 157 yX2_clear, Cond.instanceMethod yX2_clear, Cond.selects RX2 yX2_clear yX2_clear, Cond.initialized RX2, Cond.code yX2_clear cX2_clear 1 none, Cond.fieldLink RX2 19 "InvaderBoard$Ports" "shifter" "I", Cond.fieldLink RX2 23 "InvaderBoard$Ports" "offset" "I", Cond.fieldLink RX2 13 "InvaderBoard$Ports" "latches" "[I", Cond.fieldLink RX2 26 "InvaderBoard$Ports" "framesUnfed" "I"]
def wsX4_resetParts_r2 : List Cond := [Cond.methodLink RX4 158 yX0_dropWaiting, Cond.instanceMethod yX0_dropWaiting, Cond.selects RX0 yX0_dropWaiting yX0_dropWaiting, Cond.initialized RX0, Cond.code yX0_dropWaiting cX0_dropWaiting 1 none, Cond.fieldLink RX0 13 "InvaderBoard$Frames" "waiting" "I"]
def wsX4_resetParts : List Cond := .code yX4_resetParts cX4_resetParts 1 none :: ((wsX4_resetParts_r1 ++ wsX4_resetParts_r2) ++ wsX40 ++ wsX30 ++ wsX20 ++ wsX00)
def wsX4_reset_r1 : List Cond := [Cond.fieldLink RX4 35 "InvaderBoard" "frames" "LInvaderBoard$Frames;", Cond.methodLink RX4 52 yX4_resetParts, Cond.instanceMethod yX4_resetParts, Cond.selects RX4 yX4_resetParts yX4_resetParts, Cond.initialized RX4, Cond.code yX4_resetParts cX4_resetParts 1 none, Cond.fieldLink RX4 28 "InvaderBoard" "processor" "LInvaderBoard$Processor;", Cond.fieldLink RX4 19 "InvaderBoard" "ports" "LInvaderBoard$Ports;", Cond.methodLink RX4 154 yX3_clear, Cond.instanceMethod yX3_clear, Cond.selects RX3 yX3_clear yX3_clear, Cond.initialized RX3, Cond.code yX3_clear cX3_clear 2 none, Cond.fieldLink RX3 9 "InvaderBoard$Processor" "registers" "[I", Cond.fieldLink RX3 13 "InvaderBoard$Processor" "flags" "I", Cond.fieldLink RX3 25 "InvaderBoard$Processor" "sp" "I", Cond.fieldLink RX3 28 "InvaderBoard$Processor" "pc" "I", Cond.fieldLink RX3 31 "InvaderBoard$Processor" "enabled" "Z", Cond.fieldLink RX3 35 "InvaderBoard$Processor" "enabling" "Z", Cond.fieldLink RX3 38 "InvaderBoard$Processor" "halted" "Z", Cond.methodLink RX4 157 yX2_clear, Cond.instanceMethod yX2_clear, Cond.selects RX2 yX2_clear yX2_clear, Cond.initialized RX2]
def wsX4_reset_r2 : List Cond := [Cond.code yX2_clear cX2_clear 1 none, Cond.fieldLink RX2 19 "InvaderBoard$Ports" "shifter" "I", Cond.fieldLink RX2 23 "InvaderBoard$Ports" "offset" "I", Cond.fieldLink RX2 13 "InvaderBoard$Ports" "latches" "[I", Cond.fieldLink RX2 26 "InvaderBoard$Ports" "framesUnfed" "I", Cond.methodLink RX4 158 yX0_dropWaiting, Cond.instanceMethod yX0_dropWaiting, Cond.selects RX0 yX0_dropWaiting yX0_dropWaiting, Cond.initialized RX0, Cond.code yX0_dropWaiting cX0_dropWaiting 1 none, Cond.fieldLink RX0 13 "InvaderBoard$Frames" "waiting" "I", Cond.methodLink RX4 55 yX0_beginAnew, Cond.instanceMethod yX0_beginAnew, Cond.selects RX0 yX0_beginAnew yX0_beginAnew, Cond.code yX0_beginAnew cX0_beginAnew 1 none, Cond.fieldLink RX0 7 "InvaderBoard$Frames" "gone" "I"]
def wsX4_reset : List Cond := .code yX4_reset cX4_reset 1 none :: ((wsX4_reset_r1 ++ wsX4_reset_r2) ++ wsX40 ++ wsX30 ++ wsX20 ++ wsX00)
def wsX4_input : List Cond := .code yX4_input cX4_input 3 none :: ([.classLink RX4 39 "java/lang/IllegalArgumentException", .initialized "java/lang/IllegalArgumentException", .fieldLink RX4 19 "InvaderBoard" "ports" "LInvaderBoard$Ports;", .methodLink RX4 60 yX2_setInput, .instanceMethod yX2_setInput, .selects RX2 yX2_setInput yX2_setInput, .initialized RX2, .code yX2_setInput cX2_setInput 3 none, .fieldLink RX2 9 "InvaderBoard$Ports" "inputs" "[I"] ++ wsX40 ++ wsX20 ++ (vx_atS RX4 43 "java/lang/IllegalArgumentException" ["java/lang/RuntimeException", "java/lang/Exception"]).filter goodWord)
def wsX4_advance_r1 : List Cond := [Cond.fieldLink RX4 28 "InvaderBoard" "processor" "LInvaderBoard$Processor;", Cond.fieldLink RX4 35 "InvaderBoard" "frames" "LInvaderBoard$Frames;", Cond.methodLink RX4 137 Lib.Math.min.name, Cond.static Lib.Math.min.name, Cond.initialized "java/lang/Math", Cond.code Lib.Math.min.name Lib.Math.min.code 2 (some .int), Cond.fieldLink RX4 19 "InvaderBoard" "ports" "LInvaderBoard$Ports;", Cond.methodLink RX4 125 yX0_takeWaiting, Cond.instanceMethod yX0_takeWaiting, Cond.selects RX0 yX0_takeWaiting yX0_takeWaiting, Cond.initialized RX0, Cond.code yX0_takeWaiting cX0_takeWaiting 2 (some .int), Cond.fieldLink RX0 13 "InvaderBoard$Frames" "waiting" "I", Cond.methodLink RX4 128 yX3_takeRequest, Cond.instanceMethod yX3_takeRequest, Cond.selects RX3 yX3_takeRequest yX3_takeRequest, Cond.initialized RX3, Cond.code yX3_takeRequest cX3_takeRequest 2 (some .int), Cond.fieldLink RX3 31 "InvaderBoard$Processor" "enabled" "Z", Cond.fieldLink RX3 38 "InvaderBoard$Processor" "halted" "Z", Cond.fieldLink RX3 28 "InvaderBoard$Processor" "pc" "I", Cond.methodLink RX3 41 yX3_push, Cond.instanceMethod yX3_push, Cond.selects RX3 yX3_push yX3_push]
def wsX4_advance_r2 : List Cond := [Cond.code yX3_push cX3_push 2 none, Cond.fieldLink RX3 25 "InvaderBoard$Processor" "sp" "I", Cond.constant RX3 184 (65535), Cond.fieldLink RX3 17 "InvaderBoard$Processor" "store" "LInvaderBoard$Memory;", Cond.methodLink RX3 131 yX1_writeWord, Cond.instanceMethod yX1_writeWord, Cond.selects RX1 yX1_writeWord yX1_writeWord, Cond.initialized RX1, Cond.code yX1_writeWord cX1_writeWord 3 none, Cond.methodLink RX1 21 yX1_write, Cond.instanceMethod yX1_write, Cond.selects RX1 yX1_write yX1_write, Cond.code yX1_write cX1_write 3 none, Cond.fieldLink RX1 13 "InvaderBoard$Memory" "ram" "[I", Cond.methodLink RX4 134 yX0_untilRequest, Cond.instanceMethod yX0_untilRequest, Cond.selects RX0 yX0_untilRequest yX0_untilRequest, Cond.code yX0_untilRequest cX0_untilRequest 1 (some .int), Cond.fieldLink RX0 7 "InvaderBoard$Frames" "gone" "I", Cond.constant RX0 16 (33333), Cond.methodLink RX4 143 yX3_execute, Cond.instanceMethod yX3_execute, Cond.selects RX3 yX3_execute yX3_execute, Cond.code yX3_execute cX3_execute 4 (some .int)]
def wsX4_advance_r3 : List Cond := [Cond.fieldLink RX3 35 "InvaderBoard$Processor" "enabling" "Z", Cond.fieldLink RX3 49 "InvaderBoard$Processor" "STATES" "[I", Cond.methodLink RX3 45 yX3_fetch, Cond.instanceMethod yX3_fetch, Cond.selects RX3 yX3_fetch yX3_fetch, Cond.code yX3_fetch cX3_fetch 2 (some .int), Cond.methodLink RX3 128 yX1_read, Cond.instanceMethod yX1_read, Cond.selects RX1 yX1_read yX1_read, Cond.code yX1_read cX1_read 3 (some .int), Cond.constant RX1 16 (65535), Cond.fieldLink RX1 9 "InvaderBoard$Memory" "rom" "[I", Cond.methodLink RX3 52 yX3_executeLow, Cond.instanceMethod yX3_executeLow, Cond.selects RX3 yX3_executeLow yX3_executeLow, Cond.code yX3_executeLow cX3_executeLow 5 none, Cond.methodLink RX3 69 yX3_pairOrSp, Cond.instanceMethod yX3_pairOrSp, Cond.selects RX3 yX3_pairOrSp yX3_pairOrSp, Cond.code yX3_pairOrSp cX3_pairOrSp 2 (some .int), Cond.methodLink RX3 120 yX3_pairAt, Cond.instanceMethod yX3_pairAt, Cond.selects RX3 yX3_pairAt yX3_pairAt, Cond.code yX3_pairAt cX3_pairAt 3 (some .int)]
def wsX4_advance_r4 : List Cond := [Cond.fieldLink RX3 9 "InvaderBoard$Processor" "registers" "[I", Cond.methodLink RX3 72 yX3_addToHl, Cond.instanceMethod yX3_addToHl, Cond.selects RX3 yX3_addToHl yX3_addToHl, Cond.code yX3_addToHl cX3_addToHl 3 none, Cond.methodLink RX3 137 yX3_setPairAt, Cond.instanceMethod yX3_setPairAt, Cond.selects RX3 yX3_setPairAt yX3_setPairAt, Cond.code yX3_setPairAt cX3_setPairAt 4 none, Cond.methodLink RX3 146 yX3_setCarry, Cond.instanceMethod yX3_setCarry, Cond.selects RX3 yX3_setCarry yX3_setCarry, Cond.code yX3_setCarry cX3_setCarry 2 none, Cond.fieldLink RX3 13 "InvaderBoard$Processor" "flags" "I", Cond.methodLink RX3 75 yX3_fetchWord, Cond.instanceMethod yX3_fetchWord, Cond.selects RX3 yX3_fetchWord yX3_fetchWord, Cond.code yX3_fetchWord cX3_fetchWord 2 (some .int), Cond.methodLink RX3 134 yX1_readWord, Cond.instanceMethod yX1_readWord, Cond.selects RX1 yX1_readWord yX1_readWord, Cond.code yX1_readWord cX1_readWord 2 (some .int), Cond.methodLink RX1 17 yX1_read, Cond.methodLink RX3 78 yX3_setPairOrSp]
def wsX4_advance_r5 : List Cond := [Cond.instanceMethod yX3_setPairOrSp, Cond.selects RX3 yX3_setPairOrSp yX3_setPairOrSp, Cond.code yX3_setPairOrSp cX3_setPairOrSp 3 none, Cond.methodLink RX3 81 yX3_loadOrStore, Cond.instanceMethod yX3_loadOrStore, Cond.selects RX3 yX3_loadOrStore yX3_loadOrStore, Cond.code yX3_loadOrStore cX3_loadOrStore 2 none, Cond.methodLink RX3 123 yX1_write, Cond.methodLink RX3 58 yX3_operand, Cond.instanceMethod yX3_operand, Cond.selects RX3 yX3_operand yX3_operand, Cond.code yX3_operand cX3_operand 3 (some .int), Cond.methodLink RX3 84 yX3_increment, Cond.instanceMethod yX3_increment, Cond.selects RX3 yX3_increment yX3_increment, Cond.code yX3_increment cX3_increment 4 (some .int), Cond.methodLink RX3 149 yX3_flagsOf, Cond.static yX3_flagsOf, Cond.code yX3_flagsOf cX3_flagsOf 3 (some .int), Cond.methodLink RX3 179 yJ6_bitCount_0f7a4, Cond.static yJ6_bitCount_0f7a4, Cond.initialized RJ6, Cond.code yJ6_bitCount_0f7a4 cJ6_bitCount_0f7a4 1 (some .int), Cond.constant RJ6 265 (1431655765)]
def wsX4_advance_r6 : List Cond := [Cond.constant RJ6 266 (858993459), Cond.constant RJ6 267 (252645135), Cond.methodLink RX3 87 yX3_setOperand, Cond.instanceMethod yX3_setOperand, Cond.selects RX3 yX3_setOperand yX3_setOperand, Cond.code yX3_setOperand cX3_setOperand 4 none, Cond.methodLink RX3 90 yX3_decrement, Cond.instanceMethod yX3_decrement, Cond.selects RX3 yX3_decrement yX3_decrement, Cond.code yX3_decrement cX3_decrement 4 (some .int), Cond.methodLink RX3 93 yX3_changeAccumulator, Cond.instanceMethod yX3_changeAccumulator, Cond.selects RX3 yX3_changeAccumulator yX3_changeAccumulator, Cond.code yX3_changeAccumulator cX3_changeAccumulator 4 none, Cond.methodLink RX3 140 yX3_setRotated, Cond.instanceMethod yX3_setRotated, Cond.selects RX3 yX3_setRotated yX3_setRotated, Cond.code yX3_setRotated cX3_setRotated 3 none, Cond.methodLink RX3 143 yX3_adjustDecimal, Cond.instanceMethod yX3_adjustDecimal, Cond.selects RX3 yX3_adjustDecimal yX3_adjustDecimal, Cond.code yX3_adjustDecimal cX3_adjustDecimal 5 none, Cond.methodLink RX3 55 yX3_executeMove, Cond.instanceMethod yX3_executeMove]
def wsX4_advance_r7 : List Cond := [Cond.selects RX3 yX3_executeMove yX3_executeMove, Cond.code yX3_executeMove cX3_executeMove 4 none, Cond.methodLink RX3 62 yX3_calculate, Cond.instanceMethod yX3_calculate, Cond.selects RX3 yX3_calculate yX3_calculate, Cond.code yX3_calculate cX3_calculate 5 none, Cond.methodLink RX3 172 yX3_add, Cond.instanceMethod yX3_add, Cond.selects RX3 yX3_add yX3_add, Cond.code yX3_add cX3_add 8 (some .int), Cond.methodLink RX3 176 yX3_setLogical, Cond.instanceMethod yX3_setLogical, Cond.selects RX3 yX3_setLogical yX3_setLogical, Cond.code yX3_setLogical cX3_setLogical 3 none, Cond.methodLink RX3 66 yX3_executeHigh, Cond.instanceMethod yX3_executeHigh, Cond.selects RX3 yX3_executeHigh yX3_executeHigh, Cond.code yX3_executeHigh cX3_executeHigh 3 (some .int), Cond.methodLink RX3 96 yX3_holds, Cond.instanceMethod yX3_holds, Cond.selects RX3 yX3_holds yX3_holds, Cond.code yX3_holds cX3_holds 4 (some .boolean), Cond.methodLink RX3 100 yX3_returnIf, Cond.instanceMethod yX3_returnIf]
def wsX4_advance_r8 : List Cond := [Cond.selects RX3 yX3_returnIf yX3_returnIf, Cond.code yX3_returnIf cX3_returnIf 2 (some .int), Cond.methodLink RX3 166 yX3_pop, Cond.instanceMethod yX3_pop, Cond.selects RX3 yX3_pop yX3_pop, Cond.code yX3_pop cX3_pop 2 (some .int), Cond.methodLink RX3 104 yX3_popOrReturn, Cond.instanceMethod yX3_popOrReturn, Cond.selects RX3 yX3_popOrReturn yX3_popOrReturn, Cond.code yX3_popOrReturn cX3_popOrReturn 2 none, Cond.methodLink RX3 169 yX3_setStatusWord, Cond.instanceMethod yX3_setStatusWord, Cond.selects RX3 yX3_setStatusWord yX3_setStatusWord, Cond.code yX3_setStatusWord cX3_setStatusWord 2 none, Cond.methodLink RX3 107 yX3_jumpIf, Cond.instanceMethod yX3_jumpIf, Cond.selects RX3 yX3_jumpIf yX3_jumpIf, Cond.code yX3_jumpIf cX3_jumpIf 3 none, Cond.methodLink RX3 111 yX3_executeSingle, Cond.instanceMethod yX3_executeSingle, Cond.selects RX3 yX3_executeSingle yX3_executeSingle, Cond.code yX3_executeSingle cX3_executeSingle 2 none, Cond.fieldLink RX3 21 "InvaderBoard$Processor" "ports" "LInvaderBoard$Ports;", Cond.methodLink RX3 152 yX2_out]
def wsX4_advance_r9 : List Cond := [Cond.instanceMethod yX2_out, Cond.selects RX2 yX2_out yX2_out, Cond.initialized RX2, Cond.code yX2_out cX2_out 3 none, Cond.fieldLink RX2 23 "InvaderBoard$Ports" "offset" "I", Cond.fieldLink RX2 19 "InvaderBoard$Ports" "shifter" "I", Cond.fieldLink RX2 26 "InvaderBoard$Ports" "framesUnfed" "I", Cond.methodLink RX2 33 yX2_setLatch, Cond.instanceMethod yX2_setLatch, Cond.selects RX2 yX2_setLatch yX2_setLatch, Cond.code yX2_setLatch cX2_setLatch 5 none, Cond.fieldLink RX2 13 "InvaderBoard$Ports" "latches" "[I", Cond.fieldLink RX2 16 "InvaderBoard$Ports" "rises" "[I", Cond.methodLink RX3 157 yX2_in, Cond.instanceMethod yX2_in, Cond.selects RX2 yX2_in yX2_in, Cond.code yX2_in cX2_in 2 (some .int), Cond.fieldLink RX2 9 "InvaderBoard$Ports" "inputs" "[I", Cond.methodLink RX2 29 yX2_shifted, Cond.instanceMethod yX2_shifted, Cond.selects RX2 yX2_shifted yX2_shifted, Cond.code yX2_shifted cX2_shifted 1 (some .int), Cond.methodLink RX3 160 yX3_exchangeTop, Cond.instanceMethod yX3_exchangeTop]
def wsX4_advance_r10 : List Cond := [Cond.selects RX3 yX3_exchangeTop yX3_exchangeTop, Cond.code yX3_exchangeTop cX3_exchangeTop 3 (some .int), Cond.methodLink RX3 163 yX3_exchangePairs, Cond.instanceMethod yX3_exchangePairs, Cond.selects RX3 yX3_exchangePairs yX3_exchangePairs, Cond.code yX3_exchangePairs cX3_exchangePairs 2 none, Cond.methodLink RX3 114 yX3_callIf, Cond.instanceMethod yX3_callIf, Cond.selects RX3 yX3_callIf yX3_callIf, Cond.code yX3_callIf cX3_callIf 3 (some .int), Cond.methodLink RX3 117 yX3_statusWord, Cond.instanceMethod yX3_statusWord, Cond.selects RX3 yX3_statusWord yX3_statusWord, Cond.code yX3_statusWord cX3_statusWord 1 (some .int), Cond.methodLink RX4 146 yX0_pass, Cond.instanceMethod yX0_pass, Cond.selects RX0 yX0_pass yX0_pass, Cond.code yX0_pass cX0_pass 3 (some .boolean), Cond.fieldLink RX0 17 "InvaderBoard$Frames" "ended" "I", Cond.methodLink RX4 150 yX2_endFrameUnfed, Cond.instanceMethod yX2_endFrameUnfed, Cond.selects RX2 yX2_endFrameUnfed yX2_endFrameUnfed, Cond.code yX2_endFrameUnfed cX2_endFrameUnfed 1 (some .boolean), Cond.methodLink RX4 52 yX4_resetParts]
def wsX4_advance_r11 : List Cond := [Cond.instanceMethod yX4_resetParts, Cond.selects RX4 yX4_resetParts yX4_resetParts, Cond.initialized RX4, Cond.code yX4_resetParts cX4_resetParts 1 none, Cond.methodLink RX4 154 yX3_clear, Cond.instanceMethod yX3_clear, Cond.selects RX3 yX3_clear yX3_clear, Cond.code yX3_clear cX3_clear 2 none, Cond.methodLink RX4 157 yX2_clear, Cond.instanceMethod yX2_clear, Cond.selects RX2 yX2_clear yX2_clear, Cond.code yX2_clear cX2_clear 1 none, Cond.methodLink RX4 158 yX0_dropWaiting, Cond.instanceMethod yX0_dropWaiting, Cond.selects RX0 yX0_dropWaiting yX0_dropWaiting, Cond.code yX0_dropWaiting cX0_dropWaiting 1 none]
def wsX4_advance : List Cond := .code yX4_advance cX4_advance 3 (some .int) :: ((wsX4_advance_r1 ++ (wsX4_advance_r2 ++ (wsX4_advance_r3 ++ (wsX4_advance_r4 ++ (wsX4_advance_r5 ++ (wsX4_advance_r6 ++ (wsX4_advance_r7 ++ (wsX4_advance_r8 ++ (wsX4_advance_r9 ++ (wsX4_advance_r10 ++ wsX4_advance_r11)))))))))) ++ wsX40 ++ wsX30 ++ wsX00 ++ wsX10 ++ wsX20)
def wsX4_step_r1 : List Cond := [Cond.methodLink RX4 63 yX4_advance, Cond.instanceMethod yX4_advance, Cond.selects RX4 yX4_advance yX4_advance, Cond.initialized RX4, Cond.code yX4_advance cX4_advance 3 (some .int), Cond.fieldLink RX4 28 "InvaderBoard" "processor" "LInvaderBoard$Processor;", Cond.fieldLink RX4 35 "InvaderBoard" "frames" "LInvaderBoard$Frames;", Cond.methodLink RX4 137 Lib.Math.min.name, Cond.static Lib.Math.min.name, Cond.initialized "java/lang/Math", Cond.code Lib.Math.min.name Lib.Math.min.code 2 (some .int), Cond.fieldLink RX4 19 "InvaderBoard" "ports" "LInvaderBoard$Ports;", Cond.methodLink RX4 125 yX0_takeWaiting, Cond.instanceMethod yX0_takeWaiting, Cond.selects RX0 yX0_takeWaiting yX0_takeWaiting, Cond.initialized RX0, Cond.code yX0_takeWaiting cX0_takeWaiting 2 (some .int), Cond.fieldLink RX0 13 "InvaderBoard$Frames" "waiting" "I", Cond.methodLink RX4 128 yX3_takeRequest, Cond.instanceMethod yX3_takeRequest, Cond.selects RX3 yX3_takeRequest yX3_takeRequest, Cond.initialized RX3, Cond.code yX3_takeRequest cX3_takeRequest 2 (some .int), Cond.fieldLink RX3 31 "InvaderBoard$Processor" "enabled" "Z"]
def wsX4_step_r2 : List Cond := [Cond.fieldLink RX3 38 "InvaderBoard$Processor" "halted" "Z", Cond.fieldLink RX3 28 "InvaderBoard$Processor" "pc" "I", Cond.methodLink RX3 41 yX3_push, Cond.instanceMethod yX3_push, Cond.selects RX3 yX3_push yX3_push, Cond.code yX3_push cX3_push 2 none, Cond.fieldLink RX3 25 "InvaderBoard$Processor" "sp" "I", Cond.constant RX3 184 (65535), Cond.fieldLink RX3 17 "InvaderBoard$Processor" "store" "LInvaderBoard$Memory;", Cond.methodLink RX3 131 yX1_writeWord, Cond.instanceMethod yX1_writeWord, Cond.selects RX1 yX1_writeWord yX1_writeWord, Cond.initialized RX1, Cond.code yX1_writeWord cX1_writeWord 3 none, Cond.methodLink RX1 21 yX1_write, Cond.instanceMethod yX1_write, Cond.selects RX1 yX1_write yX1_write, Cond.code yX1_write cX1_write 3 none, Cond.fieldLink RX1 13 "InvaderBoard$Memory" "ram" "[I", Cond.methodLink RX4 134 yX0_untilRequest, Cond.instanceMethod yX0_untilRequest, Cond.selects RX0 yX0_untilRequest yX0_untilRequest, Cond.code yX0_untilRequest cX0_untilRequest 1 (some .int), Cond.fieldLink RX0 7 "InvaderBoard$Frames" "gone" "I"]
def wsX4_step_r3 : List Cond := [Cond.constant RX0 16 (33333), Cond.methodLink RX4 143 yX3_execute, Cond.instanceMethod yX3_execute, Cond.selects RX3 yX3_execute yX3_execute, Cond.code yX3_execute cX3_execute 4 (some .int), Cond.fieldLink RX3 35 "InvaderBoard$Processor" "enabling" "Z", Cond.fieldLink RX3 49 "InvaderBoard$Processor" "STATES" "[I", Cond.methodLink RX3 45 yX3_fetch, Cond.instanceMethod yX3_fetch, Cond.selects RX3 yX3_fetch yX3_fetch, Cond.code yX3_fetch cX3_fetch 2 (some .int), Cond.methodLink RX3 128 yX1_read, Cond.instanceMethod yX1_read, Cond.selects RX1 yX1_read yX1_read, Cond.code yX1_read cX1_read 3 (some .int), Cond.constant RX1 16 (65535), Cond.fieldLink RX1 9 "InvaderBoard$Memory" "rom" "[I", Cond.methodLink RX3 52 yX3_executeLow, Cond.instanceMethod yX3_executeLow, Cond.selects RX3 yX3_executeLow yX3_executeLow, Cond.code yX3_executeLow cX3_executeLow 5 none, Cond.methodLink RX3 69 yX3_pairOrSp, Cond.instanceMethod yX3_pairOrSp, Cond.selects RX3 yX3_pairOrSp yX3_pairOrSp]
def wsX4_step_r4 : List Cond := [Cond.code yX3_pairOrSp cX3_pairOrSp 2 (some .int), Cond.methodLink RX3 120 yX3_pairAt, Cond.instanceMethod yX3_pairAt, Cond.selects RX3 yX3_pairAt yX3_pairAt, Cond.code yX3_pairAt cX3_pairAt 3 (some .int), Cond.fieldLink RX3 9 "InvaderBoard$Processor" "registers" "[I", Cond.methodLink RX3 72 yX3_addToHl, Cond.instanceMethod yX3_addToHl, Cond.selects RX3 yX3_addToHl yX3_addToHl, Cond.code yX3_addToHl cX3_addToHl 3 none, Cond.methodLink RX3 137 yX3_setPairAt, Cond.instanceMethod yX3_setPairAt, Cond.selects RX3 yX3_setPairAt yX3_setPairAt, Cond.code yX3_setPairAt cX3_setPairAt 4 none, Cond.methodLink RX3 146 yX3_setCarry, Cond.instanceMethod yX3_setCarry, Cond.selects RX3 yX3_setCarry yX3_setCarry, Cond.code yX3_setCarry cX3_setCarry 2 none, Cond.fieldLink RX3 13 "InvaderBoard$Processor" "flags" "I", Cond.methodLink RX3 75 yX3_fetchWord, Cond.instanceMethod yX3_fetchWord, Cond.selects RX3 yX3_fetchWord yX3_fetchWord, Cond.code yX3_fetchWord cX3_fetchWord 2 (some .int), Cond.methodLink RX3 134 yX1_readWord]
def wsX4_step_r5 : List Cond := [Cond.instanceMethod yX1_readWord, Cond.selects RX1 yX1_readWord yX1_readWord, Cond.code yX1_readWord cX1_readWord 2 (some .int), Cond.methodLink RX1 17 yX1_read, Cond.methodLink RX3 78 yX3_setPairOrSp, Cond.instanceMethod yX3_setPairOrSp, Cond.selects RX3 yX3_setPairOrSp yX3_setPairOrSp, Cond.code yX3_setPairOrSp cX3_setPairOrSp 3 none, Cond.methodLink RX3 81 yX3_loadOrStore, Cond.instanceMethod yX3_loadOrStore, Cond.selects RX3 yX3_loadOrStore yX3_loadOrStore, Cond.code yX3_loadOrStore cX3_loadOrStore 2 none, Cond.methodLink RX3 123 yX1_write, Cond.methodLink RX3 58 yX3_operand, Cond.instanceMethod yX3_operand, Cond.selects RX3 yX3_operand yX3_operand, Cond.code yX3_operand cX3_operand 3 (some .int), Cond.methodLink RX3 84 yX3_increment, Cond.instanceMethod yX3_increment, Cond.selects RX3 yX3_increment yX3_increment, Cond.code yX3_increment cX3_increment 4 (some .int), Cond.methodLink RX3 149 yX3_flagsOf, Cond.static yX3_flagsOf, Cond.code yX3_flagsOf cX3_flagsOf 3 (some .int)]
def wsX4_step_r6 : List Cond := [Cond.methodLink RX3 179 yJ6_bitCount_0f7a4, Cond.static yJ6_bitCount_0f7a4, Cond.initialized RJ6, Cond.code yJ6_bitCount_0f7a4 cJ6_bitCount_0f7a4 1 (some .int), Cond.constant RJ6 265 (1431655765), Cond.constant RJ6 266 (858993459), Cond.constant RJ6 267 (252645135), Cond.methodLink RX3 87 yX3_setOperand, Cond.instanceMethod yX3_setOperand, Cond.selects RX3 yX3_setOperand yX3_setOperand, Cond.code yX3_setOperand cX3_setOperand 4 none, Cond.methodLink RX3 90 yX3_decrement, Cond.instanceMethod yX3_decrement, Cond.selects RX3 yX3_decrement yX3_decrement, Cond.code yX3_decrement cX3_decrement 4 (some .int), Cond.methodLink RX3 93 yX3_changeAccumulator, Cond.instanceMethod yX3_changeAccumulator, Cond.selects RX3 yX3_changeAccumulator yX3_changeAccumulator, Cond.code yX3_changeAccumulator cX3_changeAccumulator 4 none, Cond.methodLink RX3 140 yX3_setRotated, Cond.instanceMethod yX3_setRotated, Cond.selects RX3 yX3_setRotated yX3_setRotated, Cond.code yX3_setRotated cX3_setRotated 3 none, Cond.methodLink RX3 143 yX3_adjustDecimal]
def wsX4_step_r7 : List Cond := [Cond.instanceMethod yX3_adjustDecimal, Cond.selects RX3 yX3_adjustDecimal yX3_adjustDecimal, Cond.code yX3_adjustDecimal cX3_adjustDecimal 5 none, Cond.methodLink RX3 55 yX3_executeMove, Cond.instanceMethod yX3_executeMove, Cond.selects RX3 yX3_executeMove yX3_executeMove, Cond.code yX3_executeMove cX3_executeMove 4 none, Cond.methodLink RX3 62 yX3_calculate, Cond.instanceMethod yX3_calculate, Cond.selects RX3 yX3_calculate yX3_calculate, Cond.code yX3_calculate cX3_calculate 5 none, Cond.methodLink RX3 172 yX3_add, Cond.instanceMethod yX3_add, Cond.selects RX3 yX3_add yX3_add, Cond.code yX3_add cX3_add 8 (some .int), Cond.methodLink RX3 176 yX3_setLogical, Cond.instanceMethod yX3_setLogical, Cond.selects RX3 yX3_setLogical yX3_setLogical, Cond.code yX3_setLogical cX3_setLogical 3 none, Cond.methodLink RX3 66 yX3_executeHigh, Cond.instanceMethod yX3_executeHigh, Cond.selects RX3 yX3_executeHigh yX3_executeHigh, Cond.code yX3_executeHigh cX3_executeHigh 3 (some .int), Cond.methodLink RX3 96 yX3_holds]
def wsX4_step_r8 : List Cond := [Cond.instanceMethod yX3_holds, Cond.selects RX3 yX3_holds yX3_holds, Cond.code yX3_holds cX3_holds 4 (some .boolean), Cond.methodLink RX3 100 yX3_returnIf, Cond.instanceMethod yX3_returnIf, Cond.selects RX3 yX3_returnIf yX3_returnIf, Cond.code yX3_returnIf cX3_returnIf 2 (some .int), Cond.methodLink RX3 166 yX3_pop, Cond.instanceMethod yX3_pop, Cond.selects RX3 yX3_pop yX3_pop, Cond.code yX3_pop cX3_pop 2 (some .int), Cond.methodLink RX3 104 yX3_popOrReturn, Cond.instanceMethod yX3_popOrReturn, Cond.selects RX3 yX3_popOrReturn yX3_popOrReturn, Cond.code yX3_popOrReturn cX3_popOrReturn 2 none, Cond.methodLink RX3 169 yX3_setStatusWord, Cond.instanceMethod yX3_setStatusWord, Cond.selects RX3 yX3_setStatusWord yX3_setStatusWord, Cond.code yX3_setStatusWord cX3_setStatusWord 2 none, Cond.methodLink RX3 107 yX3_jumpIf, Cond.instanceMethod yX3_jumpIf, Cond.selects RX3 yX3_jumpIf yX3_jumpIf, Cond.code yX3_jumpIf cX3_jumpIf 3 none, Cond.methodLink RX3 111 yX3_executeSingle]
def wsX4_step_r9 : List Cond := [Cond.instanceMethod yX3_executeSingle, Cond.selects RX3 yX3_executeSingle yX3_executeSingle, Cond.code yX3_executeSingle cX3_executeSingle 2 none, Cond.fieldLink RX3 21 "InvaderBoard$Processor" "ports" "LInvaderBoard$Ports;", Cond.methodLink RX3 152 yX2_out, Cond.instanceMethod yX2_out, Cond.selects RX2 yX2_out yX2_out, Cond.initialized RX2, Cond.code yX2_out cX2_out 3 none, Cond.fieldLink RX2 23 "InvaderBoard$Ports" "offset" "I", Cond.fieldLink RX2 19 "InvaderBoard$Ports" "shifter" "I", Cond.fieldLink RX2 26 "InvaderBoard$Ports" "framesUnfed" "I", Cond.methodLink RX2 33 yX2_setLatch, Cond.instanceMethod yX2_setLatch, Cond.selects RX2 yX2_setLatch yX2_setLatch, Cond.code yX2_setLatch cX2_setLatch 5 none, Cond.fieldLink RX2 13 "InvaderBoard$Ports" "latches" "[I", Cond.fieldLink RX2 16 "InvaderBoard$Ports" "rises" "[I", Cond.methodLink RX3 157 yX2_in, Cond.instanceMethod yX2_in, Cond.selects RX2 yX2_in yX2_in, Cond.code yX2_in cX2_in 2 (some .int), Cond.fieldLink RX2 9 "InvaderBoard$Ports" "inputs" "[I", Cond.methodLink RX2 29 yX2_shifted]
def wsX4_step_r10 : List Cond := [Cond.instanceMethod yX2_shifted, Cond.selects RX2 yX2_shifted yX2_shifted, Cond.code yX2_shifted cX2_shifted 1 (some .int), Cond.methodLink RX3 160 yX3_exchangeTop, Cond.instanceMethod yX3_exchangeTop, Cond.selects RX3 yX3_exchangeTop yX3_exchangeTop, Cond.code yX3_exchangeTop cX3_exchangeTop 3 (some .int), Cond.methodLink RX3 163 yX3_exchangePairs, Cond.instanceMethod yX3_exchangePairs, Cond.selects RX3 yX3_exchangePairs yX3_exchangePairs, Cond.code yX3_exchangePairs cX3_exchangePairs 2 none, Cond.methodLink RX3 114 yX3_callIf, Cond.instanceMethod yX3_callIf, Cond.selects RX3 yX3_callIf yX3_callIf, Cond.code yX3_callIf cX3_callIf 3 (some .int), Cond.methodLink RX3 117 yX3_statusWord, Cond.instanceMethod yX3_statusWord, Cond.selects RX3 yX3_statusWord yX3_statusWord, Cond.code yX3_statusWord cX3_statusWord 1 (some .int), Cond.methodLink RX4 146 yX0_pass, Cond.instanceMethod yX0_pass, Cond.selects RX0 yX0_pass yX0_pass, Cond.code yX0_pass cX0_pass 3 (some .boolean), Cond.fieldLink RX0 17 "InvaderBoard$Frames" "ended" "I"]
def wsX4_step_r11 : List Cond := [Cond.methodLink RX4 150 yX2_endFrameUnfed, Cond.instanceMethod yX2_endFrameUnfed, Cond.selects RX2 yX2_endFrameUnfed yX2_endFrameUnfed, Cond.code yX2_endFrameUnfed cX2_endFrameUnfed 1 (some .boolean), Cond.methodLink RX4 52 yX4_resetParts, Cond.instanceMethod yX4_resetParts, Cond.selects RX4 yX4_resetParts yX4_resetParts, Cond.code yX4_resetParts cX4_resetParts 1 none, Cond.methodLink RX4 154 yX3_clear, Cond.instanceMethod yX3_clear, Cond.selects RX3 yX3_clear yX3_clear, Cond.code yX3_clear cX3_clear 2 none, Cond.methodLink RX4 157 yX2_clear, Cond.instanceMethod yX2_clear, Cond.selects RX2 yX2_clear yX2_clear, Cond.code yX2_clear cX2_clear 1 none, Cond.methodLink RX4 158 yX0_dropWaiting, Cond.instanceMethod yX0_dropWaiting, Cond.selects RX0 yX0_dropWaiting yX0_dropWaiting, Cond.code yX0_dropWaiting cX0_dropWaiting 1 none]
def wsX4_step : List Cond := .code yX4_step cX4_step 1 (some .int) :: ((wsX4_step_r1 ++ (wsX4_step_r2 ++ (wsX4_step_r3 ++ (wsX4_step_r4 ++ (wsX4_step_r5 ++ (wsX4_step_r6 ++ (wsX4_step_r7 ++ (wsX4_step_r8 ++ (wsX4_step_r9 ++ (wsX4_step_r10 ++ wsX4_step_r11)))))))))) ++ wsX40 ++ wsX30 ++ wsX00 ++ wsX10 ++ wsX20)
def wsX4_run_r1 : List Cond := [Cond.classLink RX4 39 "java/lang/IllegalArgumentException", Cond.initialized "java/lang/IllegalArgumentException", Cond.constant RX4 67 (40000), Cond.methodLink RX4 63 yX4_advance, Cond.instanceMethod yX4_advance, Cond.selects RX4 yX4_advance yX4_advance, Cond.initialized RX4, Cond.code yX4_advance cX4_advance 3 (some .int), Cond.fieldLink RX4 28 "InvaderBoard" "processor" "LInvaderBoard$Processor;", Cond.fieldLink RX4 35 "InvaderBoard" "frames" "LInvaderBoard$Frames;", Cond.methodLink RX4 137 Lib.Math.min.name, Cond.static Lib.Math.min.name, Cond.initialized "java/lang/Math", Cond.code Lib.Math.min.name Lib.Math.min.code 2 (some .int), Cond.fieldLink RX4 19 "InvaderBoard" "ports" "LInvaderBoard$Ports;", Cond.methodLink RX4 125 yX0_takeWaiting, Cond.instanceMethod yX0_takeWaiting, Cond.selects RX0 yX0_takeWaiting yX0_takeWaiting, Cond.initialized RX0, Cond.code yX0_takeWaiting cX0_takeWaiting 2 (some .int), Cond.fieldLink RX0 13 "InvaderBoard$Frames" "waiting" "I", Cond.methodLink RX4 128 yX3_takeRequest, Cond.instanceMethod yX3_takeRequest, Cond.selects RX3 yX3_takeRequest yX3_takeRequest]
def wsX4_run_r2 : List Cond := [Cond.initialized RX3, Cond.code yX3_takeRequest cX3_takeRequest 2 (some .int), Cond.fieldLink RX3 31 "InvaderBoard$Processor" "enabled" "Z", Cond.fieldLink RX3 38 "InvaderBoard$Processor" "halted" "Z", Cond.fieldLink RX3 28 "InvaderBoard$Processor" "pc" "I", Cond.methodLink RX3 41 yX3_push, Cond.instanceMethod yX3_push, Cond.selects RX3 yX3_push yX3_push, Cond.code yX3_push cX3_push 2 none, Cond.fieldLink RX3 25 "InvaderBoard$Processor" "sp" "I", Cond.constant RX3 184 (65535), Cond.fieldLink RX3 17 "InvaderBoard$Processor" "store" "LInvaderBoard$Memory;", Cond.methodLink RX3 131 yX1_writeWord, Cond.instanceMethod yX1_writeWord, Cond.selects RX1 yX1_writeWord yX1_writeWord, Cond.initialized RX1, Cond.code yX1_writeWord cX1_writeWord 3 none, Cond.methodLink RX1 21 yX1_write, Cond.instanceMethod yX1_write, Cond.selects RX1 yX1_write yX1_write, Cond.code yX1_write cX1_write 3 none, Cond.fieldLink RX1 13 "InvaderBoard$Memory" "ram" "[I", Cond.methodLink RX4 134 yX0_untilRequest, Cond.instanceMethod yX0_untilRequest]
def wsX4_run_r3 : List Cond := [Cond.selects RX0 yX0_untilRequest yX0_untilRequest, Cond.code yX0_untilRequest cX0_untilRequest 1 (some .int), Cond.fieldLink RX0 7 "InvaderBoard$Frames" "gone" "I", Cond.constant RX0 16 (33333), Cond.methodLink RX4 143 yX3_execute, Cond.instanceMethod yX3_execute, Cond.selects RX3 yX3_execute yX3_execute, Cond.code yX3_execute cX3_execute 4 (some .int), Cond.fieldLink RX3 35 "InvaderBoard$Processor" "enabling" "Z", Cond.fieldLink RX3 49 "InvaderBoard$Processor" "STATES" "[I", Cond.methodLink RX3 45 yX3_fetch, Cond.instanceMethod yX3_fetch, Cond.selects RX3 yX3_fetch yX3_fetch, Cond.code yX3_fetch cX3_fetch 2 (some .int), Cond.methodLink RX3 128 yX1_read, Cond.instanceMethod yX1_read, Cond.selects RX1 yX1_read yX1_read, Cond.code yX1_read cX1_read 3 (some .int), Cond.constant RX1 16 (65535), Cond.fieldLink RX1 9 "InvaderBoard$Memory" "rom" "[I", Cond.methodLink RX3 52 yX3_executeLow, Cond.instanceMethod yX3_executeLow, Cond.selects RX3 yX3_executeLow yX3_executeLow, Cond.code yX3_executeLow cX3_executeLow 5 none]
def wsX4_run_r4 : List Cond := [Cond.methodLink RX3 69 yX3_pairOrSp, Cond.instanceMethod yX3_pairOrSp, Cond.selects RX3 yX3_pairOrSp yX3_pairOrSp, Cond.code yX3_pairOrSp cX3_pairOrSp 2 (some .int), Cond.methodLink RX3 120 yX3_pairAt, Cond.instanceMethod yX3_pairAt, Cond.selects RX3 yX3_pairAt yX3_pairAt, Cond.code yX3_pairAt cX3_pairAt 3 (some .int), Cond.fieldLink RX3 9 "InvaderBoard$Processor" "registers" "[I", Cond.methodLink RX3 72 yX3_addToHl, Cond.instanceMethod yX3_addToHl, Cond.selects RX3 yX3_addToHl yX3_addToHl, Cond.code yX3_addToHl cX3_addToHl 3 none, Cond.methodLink RX3 137 yX3_setPairAt, Cond.instanceMethod yX3_setPairAt, Cond.selects RX3 yX3_setPairAt yX3_setPairAt, Cond.code yX3_setPairAt cX3_setPairAt 4 none, Cond.methodLink RX3 146 yX3_setCarry, Cond.instanceMethod yX3_setCarry, Cond.selects RX3 yX3_setCarry yX3_setCarry, Cond.code yX3_setCarry cX3_setCarry 2 none, Cond.fieldLink RX3 13 "InvaderBoard$Processor" "flags" "I", Cond.methodLink RX3 75 yX3_fetchWord, Cond.instanceMethod yX3_fetchWord]
def wsX4_run_r5 : List Cond := [Cond.selects RX3 yX3_fetchWord yX3_fetchWord, Cond.code yX3_fetchWord cX3_fetchWord 2 (some .int), Cond.methodLink RX3 134 yX1_readWord, Cond.instanceMethod yX1_readWord, Cond.selects RX1 yX1_readWord yX1_readWord, Cond.code yX1_readWord cX1_readWord 2 (some .int), Cond.methodLink RX1 17 yX1_read, Cond.methodLink RX3 78 yX3_setPairOrSp, Cond.instanceMethod yX3_setPairOrSp, Cond.selects RX3 yX3_setPairOrSp yX3_setPairOrSp, Cond.code yX3_setPairOrSp cX3_setPairOrSp 3 none, Cond.methodLink RX3 81 yX3_loadOrStore, Cond.instanceMethod yX3_loadOrStore, Cond.selects RX3 yX3_loadOrStore yX3_loadOrStore, Cond.code yX3_loadOrStore cX3_loadOrStore 2 none, Cond.methodLink RX3 123 yX1_write, Cond.methodLink RX3 58 yX3_operand, Cond.instanceMethod yX3_operand, Cond.selects RX3 yX3_operand yX3_operand, Cond.code yX3_operand cX3_operand 3 (some .int), Cond.methodLink RX3 84 yX3_increment, Cond.instanceMethod yX3_increment, Cond.selects RX3 yX3_increment yX3_increment, Cond.code yX3_increment cX3_increment 4 (some .int)]
def wsX4_run_r6 : List Cond := [Cond.methodLink RX3 149 yX3_flagsOf, Cond.static yX3_flagsOf, Cond.code yX3_flagsOf cX3_flagsOf 3 (some .int), Cond.methodLink RX3 179 yJ6_bitCount_0f7a4, Cond.static yJ6_bitCount_0f7a4, Cond.initialized RJ6, Cond.code yJ6_bitCount_0f7a4 cJ6_bitCount_0f7a4 1 (some .int), Cond.constant RJ6 265 (1431655765), Cond.constant RJ6 266 (858993459), Cond.constant RJ6 267 (252645135), Cond.methodLink RX3 87 yX3_setOperand, Cond.instanceMethod yX3_setOperand, Cond.selects RX3 yX3_setOperand yX3_setOperand, Cond.code yX3_setOperand cX3_setOperand 4 none, Cond.methodLink RX3 90 yX3_decrement, Cond.instanceMethod yX3_decrement, Cond.selects RX3 yX3_decrement yX3_decrement, Cond.code yX3_decrement cX3_decrement 4 (some .int), Cond.methodLink RX3 93 yX3_changeAccumulator, Cond.instanceMethod yX3_changeAccumulator, Cond.selects RX3 yX3_changeAccumulator yX3_changeAccumulator, Cond.code yX3_changeAccumulator cX3_changeAccumulator 4 none, Cond.methodLink RX3 140 yX3_setRotated, Cond.instanceMethod yX3_setRotated]
def wsX4_run_r7 : List Cond := [Cond.selects RX3 yX3_setRotated yX3_setRotated, Cond.code yX3_setRotated cX3_setRotated 3 none, Cond.methodLink RX3 143 yX3_adjustDecimal, Cond.instanceMethod yX3_adjustDecimal, Cond.selects RX3 yX3_adjustDecimal yX3_adjustDecimal, Cond.code yX3_adjustDecimal cX3_adjustDecimal 5 none, Cond.methodLink RX3 55 yX3_executeMove, Cond.instanceMethod yX3_executeMove, Cond.selects RX3 yX3_executeMove yX3_executeMove, Cond.code yX3_executeMove cX3_executeMove 4 none, Cond.methodLink RX3 62 yX3_calculate, Cond.instanceMethod yX3_calculate, Cond.selects RX3 yX3_calculate yX3_calculate, Cond.code yX3_calculate cX3_calculate 5 none, Cond.methodLink RX3 172 yX3_add, Cond.instanceMethod yX3_add, Cond.selects RX3 yX3_add yX3_add, Cond.code yX3_add cX3_add 8 (some .int), Cond.methodLink RX3 176 yX3_setLogical, Cond.instanceMethod yX3_setLogical, Cond.selects RX3 yX3_setLogical yX3_setLogical, Cond.code yX3_setLogical cX3_setLogical 3 none, Cond.methodLink RX3 66 yX3_executeHigh, Cond.instanceMethod yX3_executeHigh]
def wsX4_run_r8 : List Cond := [Cond.selects RX3 yX3_executeHigh yX3_executeHigh, Cond.code yX3_executeHigh cX3_executeHigh 3 (some .int), Cond.methodLink RX3 96 yX3_holds, Cond.instanceMethod yX3_holds, Cond.selects RX3 yX3_holds yX3_holds, Cond.code yX3_holds cX3_holds 4 (some .boolean), Cond.methodLink RX3 100 yX3_returnIf, Cond.instanceMethod yX3_returnIf, Cond.selects RX3 yX3_returnIf yX3_returnIf, Cond.code yX3_returnIf cX3_returnIf 2 (some .int), Cond.methodLink RX3 166 yX3_pop, Cond.instanceMethod yX3_pop, Cond.selects RX3 yX3_pop yX3_pop, Cond.code yX3_pop cX3_pop 2 (some .int), Cond.methodLink RX3 104 yX3_popOrReturn, Cond.instanceMethod yX3_popOrReturn, Cond.selects RX3 yX3_popOrReturn yX3_popOrReturn, Cond.code yX3_popOrReturn cX3_popOrReturn 2 none, Cond.methodLink RX3 169 yX3_setStatusWord, Cond.instanceMethod yX3_setStatusWord, Cond.selects RX3 yX3_setStatusWord yX3_setStatusWord, Cond.code yX3_setStatusWord cX3_setStatusWord 2 none, Cond.methodLink RX3 107 yX3_jumpIf, Cond.instanceMethod yX3_jumpIf]
def wsX4_run_r9 : List Cond := [Cond.selects RX3 yX3_jumpIf yX3_jumpIf, Cond.code yX3_jumpIf cX3_jumpIf 3 none, Cond.methodLink RX3 111 yX3_executeSingle, Cond.instanceMethod yX3_executeSingle, Cond.selects RX3 yX3_executeSingle yX3_executeSingle, Cond.code yX3_executeSingle cX3_executeSingle 2 none, Cond.fieldLink RX3 21 "InvaderBoard$Processor" "ports" "LInvaderBoard$Ports;", Cond.methodLink RX3 152 yX2_out, Cond.instanceMethod yX2_out, Cond.selects RX2 yX2_out yX2_out, Cond.initialized RX2, Cond.code yX2_out cX2_out 3 none, Cond.fieldLink RX2 23 "InvaderBoard$Ports" "offset" "I", Cond.fieldLink RX2 19 "InvaderBoard$Ports" "shifter" "I", Cond.fieldLink RX2 26 "InvaderBoard$Ports" "framesUnfed" "I", Cond.methodLink RX2 33 yX2_setLatch, Cond.instanceMethod yX2_setLatch, Cond.selects RX2 yX2_setLatch yX2_setLatch, Cond.code yX2_setLatch cX2_setLatch 5 none, Cond.fieldLink RX2 13 "InvaderBoard$Ports" "latches" "[I", Cond.fieldLink RX2 16 "InvaderBoard$Ports" "rises" "[I", Cond.methodLink RX3 157 yX2_in, Cond.instanceMethod yX2_in, Cond.selects RX2 yX2_in yX2_in]
def wsX4_run_r10 : List Cond := [Cond.code yX2_in cX2_in 2 (some .int), Cond.fieldLink RX2 9 "InvaderBoard$Ports" "inputs" "[I", Cond.methodLink RX2 29 yX2_shifted, Cond.instanceMethod yX2_shifted, Cond.selects RX2 yX2_shifted yX2_shifted, Cond.code yX2_shifted cX2_shifted 1 (some .int), Cond.methodLink RX3 160 yX3_exchangeTop, Cond.instanceMethod yX3_exchangeTop, Cond.selects RX3 yX3_exchangeTop yX3_exchangeTop, Cond.code yX3_exchangeTop cX3_exchangeTop 3 (some .int), Cond.methodLink RX3 163 yX3_exchangePairs, Cond.instanceMethod yX3_exchangePairs, Cond.selects RX3 yX3_exchangePairs yX3_exchangePairs, Cond.code yX3_exchangePairs cX3_exchangePairs 2 none, Cond.methodLink RX3 114 yX3_callIf, Cond.instanceMethod yX3_callIf, Cond.selects RX3 yX3_callIf yX3_callIf, Cond.code yX3_callIf cX3_callIf 3 (some .int), Cond.methodLink RX3 117 yX3_statusWord, Cond.instanceMethod yX3_statusWord, Cond.selects RX3 yX3_statusWord yX3_statusWord, Cond.code yX3_statusWord cX3_statusWord 1 (some .int), Cond.methodLink RX4 146 yX0_pass, Cond.instanceMethod yX0_pass]
def wsX4_run_r11 : List Cond := [Cond.selects RX0 yX0_pass yX0_pass, Cond.code yX0_pass cX0_pass 3 (some .boolean), Cond.fieldLink RX0 17 "InvaderBoard$Frames" "ended" "I", Cond.methodLink RX4 150 yX2_endFrameUnfed, Cond.instanceMethod yX2_endFrameUnfed, Cond.selects RX2 yX2_endFrameUnfed yX2_endFrameUnfed, Cond.code yX2_endFrameUnfed cX2_endFrameUnfed 1 (some .boolean), Cond.methodLink RX4 52 yX4_resetParts, Cond.instanceMethod yX4_resetParts, Cond.selects RX4 yX4_resetParts yX4_resetParts, Cond.code yX4_resetParts cX4_resetParts 1 none, Cond.methodLink RX4 154 yX3_clear, Cond.instanceMethod yX3_clear, Cond.selects RX3 yX3_clear yX3_clear, Cond.code yX3_clear cX3_clear 2 none, Cond.methodLink RX4 157 yX2_clear, Cond.instanceMethod yX2_clear, Cond.selects RX2 yX2_clear yX2_clear, Cond.code yX2_clear cX2_clear 1 none, Cond.methodLink RX4 158 yX0_dropWaiting, Cond.instanceMethod yX0_dropWaiting, Cond.selects RX0 yX0_dropWaiting yX0_dropWaiting, Cond.code yX0_dropWaiting cX0_dropWaiting 1 none]
def wsX4_run : List Cond := .code yX4_run cX4_run 4 (some .int) :: ((wsX4_run_r1 ++ (wsX4_run_r2 ++ (wsX4_run_r3 ++ (wsX4_run_r4 ++ (wsX4_run_r5 ++ (wsX4_run_r6 ++ (wsX4_run_r7 ++ (wsX4_run_r8 ++ (wsX4_run_r9 ++ (wsX4_run_r10 ++ wsX4_run_r11)))))))))) ++ wsX40 ++ wsX30 ++ wsX00 ++ wsX10 ++ wsX20 ++ (vx_atS RX4 43 "java/lang/IllegalArgumentException" ["java/lang/RuntimeException", "java/lang/Exception"]).filter goodWord)
def wsX4_register : List Cond := .code yX4_register cX4_register 2 (some .int) :: ([.classLink RX4 39 "java/lang/IllegalArgumentException", .initialized "java/lang/IllegalArgumentException", .fieldLink RX4 28 "InvaderBoard" "processor" "LInvaderBoard$Processor;", .methodLink RX4 72 yX3_contentOf, .instanceMethod yX3_contentOf, .selects RX3 yX3_contentOf yX3_contentOf, .initialized RX3, .code yX3_contentOf cX3_contentOf 2 (some .int), .fieldLink RX3 13 "InvaderBoard$Processor" "flags" "I", .fieldLink RX3 25 "InvaderBoard$Processor" "sp" "I", .fieldLink RX3 28 "InvaderBoard$Processor" "pc" "I", .fieldLink RX3 31 "InvaderBoard$Processor" "enabled" "Z", .fieldLink RX3 38 "InvaderBoard$Processor" "halted" "Z", .fieldLink RX3 9 "InvaderBoard$Processor" "registers" "[I"] ++ wsX40 ++ wsX30 ++ (vx_atS RX4 43 "java/lang/IllegalArgumentException" ["java/lang/RuntimeException", "java/lang/Exception"]).filter goodWord)
def wsX4_memory : List Cond := .code yX4_memory cX4_memory 2 (some .int) :: ([.fieldLink RX4 10 "InvaderBoard" "store" "LInvaderBoard$Memory;", .methodLink RX4 75 yX1_read, .instanceMethod yX1_read, .selects RX1 yX1_read yX1_read, .initialized RX1, .code yX1_read cX1_read 3 (some .int), .fieldLink RX1 13 "InvaderBoard$Memory" "ram" "[I", .constant RX1 16 (65535), .fieldLink RX1 9 "InvaderBoard$Memory" "rom" "[I"] ++ wsX40 ++ wsX10)
def wsX4_poke : List Cond := .code yX4_poke cX4_poke 3 (some .int) :: ([.fieldLink RX4 10 "InvaderBoard" "store" "LInvaderBoard$Memory;", .methodLink RX4 78 yX1_write, .instanceMethod yX1_write, .selects RX1 yX1_write yX1_write, .initialized RX1, .code yX1_write cX1_write 3 none, .fieldLink RX1 13 "InvaderBoard$Memory" "ram" "[I", .methodLink RX4 75 yX1_read, .instanceMethod yX1_read, .selects RX1 yX1_read yX1_read, .code yX1_read cX1_read 3 (some .int), .constant RX1 16 (65535), .fieldLink RX1 9 "InvaderBoard$Memory" "rom" "[I"] ++ wsX40 ++ wsX10)
def wsX4_dot_r1 : List Cond := [Cond.classLink RX4 81 "java/lang/IndexOutOfBoundsException", Cond.initialized "java/lang/IndexOutOfBoundsException", Cond.fieldLink RX4 10 "InvaderBoard" "store" "LInvaderBoard$Memory;", Cond.methodLink RX4 86 yX1_dotsInColumn, Cond.instanceMethod yX1_dotsInColumn, Cond.selects RX1 yX1_dotsInColumn yX1_dotsInColumn, Cond.initialized RX1, Cond.code yX1_dotsInColumn cX1_dotsInColumn 11 (some .int), Cond.methodLink RX1 25 Lib.Math.max.name, Cond.static Lib.Math.max.name, Cond.initialized "java/lang/Math", Cond.code Lib.Math.max.name Lib.Math.max.code 2 (some .int), Cond.methodLink RX1 31 Lib.Math.min.name, Cond.static Lib.Math.min.name, Cond.code Lib.Math.min.name Lib.Math.min.code 2 (some .int), Cond.methodLink RX1 17 yX1_read, Cond.instanceMethod yX1_read, Cond.selects RX1 yX1_read yX1_read, Cond.code yX1_read cX1_read 3 (some .int), Cond.fieldLink RX1 13 "InvaderBoard$Memory" "ram" "[I", Cond.constant RX1 16 (65535), Cond.fieldLink RX1 9 "InvaderBoard$Memory" "rom" "[I", Cond.methodLink RX1 34 yJ6_bitCount_0f7a4, Cond.static yJ6_bitCount_0f7a4]
def wsX4_dot_r2 : List Cond := [Cond.initialized RJ6, Cond.code yJ6_bitCount_0f7a4 cJ6_bitCount_0f7a4 1 (some .int), Cond.constant RJ6 265 (1431655765), Cond.constant RJ6 266 (858993459), Cond.constant RJ6 267 (252645135)]
def wsX4_dot : List Cond := .code yX4_dot cX4_dot 3 (some .int) :: ((wsX4_dot_r1 ++ wsX4_dot_r2) ++ wsX40 ++ wsX10 ++ (vx_atS RX4 85 "java/lang/IndexOutOfBoundsException" ["java/lang/RuntimeException", "java/lang/Exception"]).filter goodWord)
def wsX4_onScreen : List Cond := .code yX4_onScreen cX4_onScreen 3 (some .int) :: ([.methodLink RX4 161 Lib.MathLoose.min_long.x, .static Lib.MathLoose.min_long.x, .initialized "java/lang/Math", .code Lib.MathLoose.min_long.x Lib.MathLoose.min_long.code 4 (some .long), .methodLink RX4 164 Lib.MathLoose.max_long.x, .static Lib.MathLoose.max_long.x, .code Lib.MathLoose.max_long.x Lib.MathLoose.max_long.code 4 (some .long)])
def wsX4_lit_r1 : List Cond := [Cond.fieldLink RX4 10 "InvaderBoard" "store" "LInvaderBoard$Memory;", Cond.methodLink RX4 90 yX4_onScreen, Cond.static yX4_onScreen, Cond.initialized RX4, Cond.code yX4_onScreen cX4_onScreen 3 (some .int), Cond.methodLink RX4 161 Lib.MathLoose.min_long.x, Cond.static Lib.MathLoose.min_long.x, Cond.initialized "java/lang/Math", Cond.code Lib.MathLoose.min_long.x Lib.MathLoose.min_long.code 4 (some .long), Cond.methodLink RX4 164 Lib.MathLoose.max_long.x, Cond.static Lib.MathLoose.max_long.x, Cond.code Lib.MathLoose.max_long.x Lib.MathLoose.max_long.code 4 (some .long), Cond.methodLink RX4 86 yX1_dotsInColumn, Cond.instanceMethod yX1_dotsInColumn, Cond.selects RX1 yX1_dotsInColumn yX1_dotsInColumn, Cond.initialized RX1, Cond.code yX1_dotsInColumn cX1_dotsInColumn 11 (some .int), Cond.methodLink RX1 25 Lib.Math.max.name, Cond.static Lib.Math.max.name, Cond.code Lib.Math.max.name Lib.Math.max.code 2 (some .int), Cond.methodLink RX1 31 Lib.Math.min.name, Cond.static Lib.Math.min.name, Cond.code Lib.Math.min.name Lib.Math.min.code 2 (some .int), Cond.methodLink RX1 17 yX1_read]
def wsX4_lit_r2 : List Cond := [Cond.instanceMethod yX1_read, Cond.selects RX1 yX1_read yX1_read, Cond.code yX1_read cX1_read 3 (some .int), Cond.fieldLink RX1 13 "InvaderBoard$Memory" "ram" "[I", Cond.constant RX1 16 (65535), Cond.fieldLink RX1 9 "InvaderBoard$Memory" "rom" "[I", Cond.methodLink RX1 34 yJ6_bitCount_0f7a4, Cond.static yJ6_bitCount_0f7a4, Cond.initialized RJ6, Cond.code yJ6_bitCount_0f7a4 cJ6_bitCount_0f7a4 1 (some .int), Cond.constant RJ6 265 (1431655765), Cond.constant RJ6 266 (858993459), Cond.constant RJ6 267 (252645135)]
def wsX4_lit : List Cond := .code yX4_lit cX4_lit 11 (some .int) :: ((wsX4_lit_r1 ++ wsX4_lit_r2) ++ wsX40 ++ wsX10)
def wsX4_state : List Cond := .code yX4_state cX4_state 2 (some .int) :: ([.classLink RX4 39 "java/lang/IllegalArgumentException", .initialized "java/lang/IllegalArgumentException", .fieldLink RX4 19 "InvaderBoard" "ports" "LInvaderBoard$Ports;", .fieldLink RX4 35 "InvaderBoard" "frames" "LInvaderBoard$Frames;", .methodLink RX4 94 yX2_latchOf, .instanceMethod yX2_latchOf, .selects RX2 yX2_latchOf yX2_latchOf, .initialized RX2, .code yX2_latchOf cX2_latchOf 2 (some .int), .fieldLink RX2 13 "InvaderBoard$Ports" "latches" "[I", .methodLink RX4 110 yX2_shifted, .instanceMethod yX2_shifted, .selects RX2 yX2_shifted yX2_shifted, .code yX2_shifted cX2_shifted 1 (some .int), .fieldLink RX2 19 "InvaderBoard$Ports" "shifter" "I", .fieldLink RX2 23 "InvaderBoard$Ports" "offset" "I"] ++ wsX40 ++ wsX00 ++ wsX20 ++ (vx_atS RX4 43 "java/lang/IllegalArgumentException" ["java/lang/RuntimeException", "java/lang/Exception"]).filter goodWord)
def wsX4_sounds : List Cond := .code yX4_sounds cX4_sounds 2 (some .int) :: ([.classLink RX4 39 "java/lang/IllegalArgumentException", .initialized "java/lang/IllegalArgumentException", .fieldLink RX4 19 "InvaderBoard" "ports" "LInvaderBoard$Ports;", .methodLink RX4 118 yX2_risesOf, .instanceMethod yX2_risesOf, .selects RX2 yX2_risesOf yX2_risesOf, .initialized RX2, .code yX2_risesOf cX2_risesOf 2 (some .int), .fieldLink RX2 16 "InvaderBoard$Ports" "rises" "[I"] ++ wsX40 ++ wsX20 ++ (vx_atS RX4 43 "java/lang/IllegalArgumentException" ["java/lang/RuntimeException", "java/lang/Exception"]).filter goodWord)
def wsX5_init : List Cond := .code yX5_init cX5_init 1 none :: ([.methodLink RX5 1 objectInit, .instanceMethod objectInit, .code objectInit ⟨#[0xb1]⟩ 1 none, .arrayClass .int, .fieldLink RX5 7 "InvaderBoardModel" "rom" "[I", .fieldLink RX5 13 "InvaderBoardModel" "ram" "[I", .fieldLink RX5 16 "InvaderBoardModel" "reg" "[I", .fieldLink RX5 19 "InvaderBoardModel" "inputs" "[I", .fieldLink RX5 22 "InvaderBoardModel" "latch" "[I", .fieldLink RX5 25 "InvaderBoardModel" "edges" "[I"] ++ wsX50)
def wsX5_thrown : List Cond := .code yX5_thrown cX5_thrown 1 (some .int) :: ([.fieldLink RX5 28 "InvaderBoardModel" "code" "I"] ++ wsX50)
def wsX5_read : List Cond := .code yX5_read cX5_read 4 (some .int) :: ([.constant RX5 32 (65535), .fieldLink RX5 13 "InvaderBoardModel" "ram" "[I", .fieldLink RX5 7 "InvaderBoardModel" "rom" "[I"] ++ wsX50)
def wsX5_write : List Cond := .code yX5_write cX5_write 4 none :: ([.fieldLink RX5 13 "InvaderBoardModel" "ram" "[I"] ++ wsX50)
def wsX5_next : List Cond := .code yX5_next cX5_next 2 (some .int) :: ([.fieldLink RX5 33 "InvaderBoardModel" "pc" "I", .constant RX5 32 (65535), .methodLink RX5 36 yX5_read, .instanceMethod yX5_read, .selects RX5 yX5_read yX5_read, .initialized RX5, .code yX5_read cX5_read 4 (some .int), .fieldLink RX5 13 "InvaderBoardModel" "ram" "[I", .fieldLink RX5 7 "InvaderBoardModel" "rom" "[I"] ++ wsX50)
def wsX5_nextTwo : List Cond := .code yX5_nextTwo cX5_nextTwo 2 (some .int) :: ([.methodLink RX5 40 yX5_next, .instanceMethod yX5_next, .selects RX5 yX5_next yX5_next, .initialized RX5, .code yX5_next cX5_next 2 (some .int), .fieldLink RX5 33 "InvaderBoardModel" "pc" "I", .constant RX5 32 (65535), .methodLink RX5 36 yX5_read, .instanceMethod yX5_read, .selects RX5 yX5_read yX5_read, .code yX5_read cX5_read 4 (some .int), .fieldLink RX5 13 "InvaderBoardModel" "ram" "[I", .fieldLink RX5 7 "InvaderBoardModel" "rom" "[I"] ++ wsX50)
def wsX5_push : List Cond := .code yX5_push cX5_push 2 none :: ([.fieldLink RX5 44 "InvaderBoardModel" "sp" "I", .constant RX5 32 (65535), .methodLink RX5 47 yX5_write, .instanceMethod yX5_write, .selects RX5 yX5_write yX5_write, .initialized RX5, .code yX5_write cX5_write 4 none, .fieldLink RX5 13 "InvaderBoardModel" "ram" "[I"] ++ wsX50)
def wsX5_pop : List Cond := .code yX5_pop cX5_pop 2 (some .int) :: ([.fieldLink RX5 44 "InvaderBoardModel" "sp" "I", .constant RX5 32 (65535), .methodLink RX5 36 yX5_read, .instanceMethod yX5_read, .selects RX5 yX5_read yX5_read, .initialized RX5, .code yX5_read cX5_read 4 (some .int), .fieldLink RX5 13 "InvaderBoardModel" "ram" "[I", .fieldLink RX5 7 "InvaderBoardModel" "rom" "[I"] ++ wsX50)
def wsX5_hl : List Cond := .code yX5_hl cX5_hl 1 (some .int) :: ([.fieldLink RX5 16 "InvaderBoardModel" "reg" "[I"] ++ wsX50)
def wsX5_get : List Cond := .code yX5_get cX5_get 2 (some .int) :: ([.fieldLink RX5 16 "InvaderBoardModel" "reg" "[I", .methodLink RX5 51 yX5_hl, .instanceMethod yX5_hl, .selects RX5 yX5_hl yX5_hl, .initialized RX5, .code yX5_hl cX5_hl 1 (some .int), .methodLink RX5 36 yX5_read, .instanceMethod yX5_read, .selects RX5 yX5_read yX5_read, .code yX5_read cX5_read 4 (some .int), .constant RX5 32 (65535), .fieldLink RX5 13 "InvaderBoardModel" "ram" "[I", .fieldLink RX5 7 "InvaderBoardModel" "rom" "[I"] ++ wsX50)
def wsX5_set : List Cond := .code yX5_set cX5_set 3 none :: ([.fieldLink RX5 16 "InvaderBoardModel" "reg" "[I", .methodLink RX5 51 yX5_hl, .instanceMethod yX5_hl, .selects RX5 yX5_hl yX5_hl, .initialized RX5, .code yX5_hl cX5_hl 1 (some .int), .methodLink RX5 47 yX5_write, .instanceMethod yX5_write, .selects RX5 yX5_write yX5_write, .code yX5_write cX5_write 4 none, .fieldLink RX5 13 "InvaderBoardModel" "ram" "[I"] ++ wsX50)
def wsX5_pair : List Cond := .code yX5_pair cX5_pair 2 (some .int) :: ([.fieldLink RX5 44 "InvaderBoardModel" "sp" "I", .fieldLink RX5 16 "InvaderBoardModel" "reg" "[I"] ++ wsX50)
def wsX5_setPair : List Cond := .code yX5_setPair cX5_setPair 3 none :: ([.constant RX5 32 (65535), .fieldLink RX5 44 "InvaderBoardModel" "sp" "I", .fieldLink RX5 16 "InvaderBoardModel" "reg" "[I"] ++ wsX50)
def wsX5_signs : List Cond := .code yX5_signs cX5_signs 4 none :: ([.fieldLink RX5 54 "InvaderBoardModel" "sign" "I", .fieldLink RX5 57 "InvaderBoardModel" "zero" "I", .fieldLink RX5 60 "InvaderBoardModel" "parity" "I"] ++ wsX50)
def wsX5_flags : List Cond := .code yX5_flags cX5_flags 1 (some .int) :: ([.fieldLink RX5 54 "InvaderBoardModel" "sign" "I", .fieldLink RX5 57 "InvaderBoardModel" "zero" "I", .fieldLink RX5 63 "InvaderBoardModel" "half" "I", .fieldLink RX5 60 "InvaderBoardModel" "parity" "I", .fieldLink RX5 66 "InvaderBoardModel" "carry" "I"] ++ wsX50)
def wsX5_setFlags : List Cond := .code yX5_setFlags cX5_setFlags 2 none :: ([.fieldLink RX5 54 "InvaderBoardModel" "sign" "I", .fieldLink RX5 57 "InvaderBoardModel" "zero" "I", .fieldLink RX5 63 "InvaderBoardModel" "half" "I", .fieldLink RX5 60 "InvaderBoardModel" "parity" "I", .fieldLink RX5 66 "InvaderBoardModel" "carry" "I"] ++ wsX50)
def wsX5_alu : List Cond := .code yX5_alu cX5_alu 6 none :: ([.fieldLink RX5 16 "InvaderBoardModel" "reg" "[I", .fieldLink RX5 66 "InvaderBoardModel" "carry" "I", .fieldLink RX5 63 "InvaderBoardModel" "half" "I", .methodLink RX5 69 yX5_signs, .instanceMethod yX5_signs, .selects RX5 yX5_signs yX5_signs, .initialized RX5, .code yX5_signs cX5_signs 4 none, .fieldLink RX5 54 "InvaderBoardModel" "sign" "I", .fieldLink RX5 57 "InvaderBoardModel" "zero" "I", .fieldLink RX5 60 "InvaderBoardModel" "parity" "I"] ++ wsX50)
def wsX5_count_r1 : List Cond := [Cond.fieldLink RX5 63 "InvaderBoardModel" "half" "I", Cond.methodLink RX5 73 yX5_get, Cond.instanceMethod yX5_get, Cond.selects RX5 yX5_get yX5_get, Cond.initialized RX5, Cond.code yX5_get cX5_get 2 (some .int), Cond.fieldLink RX5 16 "InvaderBoardModel" "reg" "[I", Cond.methodLink RX5 51 yX5_hl, Cond.instanceMethod yX5_hl, Cond.selects RX5 yX5_hl yX5_hl, Cond.code yX5_hl cX5_hl 1 (some .int), Cond.methodLink RX5 36 yX5_read, Cond.instanceMethod yX5_read, Cond.selects RX5 yX5_read yX5_read, Cond.code yX5_read cX5_read 4 (some .int), Cond.constant RX5 32 (65535), Cond.fieldLink RX5 13 "InvaderBoardModel" "ram" "[I", Cond.fieldLink RX5 7 "InvaderBoardModel" "rom" "[I", Cond.methodLink RX5 76 yX5_set, Cond.instanceMethod yX5_set, Cond.selects RX5 yX5_set yX5_set, Cond.code yX5_set cX5_set 3 none, Cond.methodLink RX5 47 yX5_write, Cond.instanceMethod yX5_write]
def wsX5_count_r2 : List Cond := [Cond.selects RX5 yX5_write yX5_write, Cond.code yX5_write cX5_write 4 none, Cond.methodLink RX5 69 yX5_signs, Cond.instanceMethod yX5_signs, Cond.selects RX5 yX5_signs yX5_signs, Cond.code yX5_signs cX5_signs 4 none, Cond.fieldLink RX5 54 "InvaderBoardModel" "sign" "I", Cond.fieldLink RX5 57 "InvaderBoardModel" "zero" "I", Cond.fieldLink RX5 60 "InvaderBoardModel" "parity" "I"]
def wsX5_count : List Cond := .code yX5_count cX5_count 4 none :: ((wsX5_count_r1 ++ wsX5_count_r2) ++ wsX50)
def wsX5_adjust : List Cond := .code yX5_adjust cX5_adjust 4 none :: ([.fieldLink RX5 16 "InvaderBoardModel" "reg" "[I", .fieldLink RX5 63 "InvaderBoardModel" "half" "I", .fieldLink RX5 66 "InvaderBoardModel" "carry" "I", .methodLink RX5 69 yX5_signs, .instanceMethod yX5_signs, .selects RX5 yX5_signs yX5_signs, .initialized RX5, .code yX5_signs cX5_signs 4 none, .fieldLink RX5 54 "InvaderBoardModel" "sign" "I", .fieldLink RX5 57 "InvaderBoardModel" "zero" "I", .fieldLink RX5 60 "InvaderBoardModel" "parity" "I"] ++ wsX50)
def wsX5_turn : List Cond := .code yX5_turn cX5_turn 3 none :: ([.fieldLink RX5 16 "InvaderBoardModel" "reg" "[I", .fieldLink RX5 66 "InvaderBoardModel" "carry" "I", .methodLink RX5 79 yX5_adjust, .instanceMethod yX5_adjust, .selects RX5 yX5_adjust yX5_adjust, .initialized RX5, .code yX5_adjust cX5_adjust 4 none, .fieldLink RX5 63 "InvaderBoardModel" "half" "I", .methodLink RX5 69 yX5_signs, .instanceMethod yX5_signs, .selects RX5 yX5_signs yX5_signs, .code yX5_signs cX5_signs 4 none, .fieldLink RX5 54 "InvaderBoardModel" "sign" "I", .fieldLink RX5 57 "InvaderBoardModel" "zero" "I", .fieldLink RX5 60 "InvaderBoardModel" "parity" "I"] ++ wsX50)
def wsX5_holds : List Cond := .code yX5_holds cX5_holds 3 (some .boolean) :: ([.fieldLink RX5 57 "InvaderBoardModel" "zero" "I", .fieldLink RX5 66 "InvaderBoardModel" "carry" "I", .fieldLink RX5 60 "InvaderBoardModel" "parity" "I", .fieldLink RX5 54 "InvaderBoardModel" "sign" "I"] ++ wsX50)
def wsX5_moved_r1 : List Cond := [Cond.fieldLink RX5 16 "InvaderBoardModel" "reg" "[I", Cond.constant RX5 32 (65535), Cond.methodLink RX5 96 yX5_pair, Cond.instanceMethod yX5_pair, Cond.selects RX5 yX5_pair yX5_pair, Cond.initialized RX5, Cond.code yX5_pair cX5_pair 2 (some .int), Cond.fieldLink RX5 44 "InvaderBoardModel" "sp" "I", Cond.methodLink RX5 47 yX5_write, Cond.instanceMethod yX5_write, Cond.selects RX5 yX5_write yX5_write, Cond.code yX5_write cX5_write 4 none, Cond.fieldLink RX5 13 "InvaderBoardModel" "ram" "[I", Cond.methodLink RX5 36 yX5_read, Cond.instanceMethod yX5_read, Cond.selects RX5 yX5_read yX5_read, Cond.code yX5_read cX5_read 4 (some .int), Cond.fieldLink RX5 7 "InvaderBoardModel" "rom" "[I", Cond.methodLink RX5 102 yX5_nextTwo, Cond.instanceMethod yX5_nextTwo, Cond.selects RX5 yX5_nextTwo yX5_nextTwo, Cond.code yX5_nextTwo cX5_nextTwo 2 (some .int), Cond.methodLink RX5 40 yX5_next, Cond.instanceMethod yX5_next]
def wsX5_moved_r2 : List Cond := [Cond.selects RX5 yX5_next yX5_next, Cond.code yX5_next cX5_next 2 (some .int), Cond.fieldLink RX5 33 "InvaderBoardModel" "pc" "I"]
def wsX5_moved : List Cond := .code yX5_moved cX5_moved 3 (some .int) :: ((wsX5_moved_r1 ++ wsX5_moved_r2) ++ wsX50)
def wsX5_low_r1 : List Cond := [Cond.fieldLink RX5 66 "InvaderBoardModel" "carry" "I", Cond.constant RX5 32 (65535), Cond.methodLink RX5 51 yX5_hl, Cond.instanceMethod yX5_hl, Cond.selects RX5 yX5_hl yX5_hl, Cond.initialized RX5, Cond.code yX5_hl cX5_hl 1 (some .int), Cond.fieldLink RX5 16 "InvaderBoardModel" "reg" "[I", Cond.methodLink RX5 96 yX5_pair, Cond.instanceMethod yX5_pair, Cond.selects RX5 yX5_pair yX5_pair, Cond.code yX5_pair cX5_pair 2 (some .int), Cond.fieldLink RX5 44 "InvaderBoardModel" "sp" "I", Cond.methodLink RX5 99 yX5_setPair, Cond.instanceMethod yX5_setPair, Cond.selects RX5 yX5_setPair yX5_setPair, Cond.code yX5_setPair cX5_setPair 3 none, Cond.methodLink RX5 102 yX5_nextTwo, Cond.instanceMethod yX5_nextTwo, Cond.selects RX5 yX5_nextTwo yX5_nextTwo, Cond.code yX5_nextTwo cX5_nextTwo 2 (some .int), Cond.methodLink RX5 40 yX5_next, Cond.instanceMethod yX5_next, Cond.selects RX5 yX5_next yX5_next]
def wsX5_low_r2 : List Cond := [Cond.code yX5_next cX5_next 2 (some .int), Cond.fieldLink RX5 33 "InvaderBoardModel" "pc" "I", Cond.methodLink RX5 36 yX5_read, Cond.instanceMethod yX5_read, Cond.selects RX5 yX5_read yX5_read, Cond.code yX5_read cX5_read 4 (some .int), Cond.fieldLink RX5 13 "InvaderBoardModel" "ram" "[I", Cond.fieldLink RX5 7 "InvaderBoardModel" "rom" "[I", Cond.methodLink RX5 105 yX5_moved, Cond.instanceMethod yX5_moved, Cond.selects RX5 yX5_moved yX5_moved, Cond.code yX5_moved cX5_moved 3 (some .int), Cond.methodLink RX5 47 yX5_write, Cond.instanceMethod yX5_write, Cond.selects RX5 yX5_write yX5_write, Cond.code yX5_write cX5_write 4 none, Cond.methodLink RX5 108 yX5_count, Cond.instanceMethod yX5_count, Cond.selects RX5 yX5_count yX5_count, Cond.code yX5_count cX5_count 4 none, Cond.fieldLink RX5 63 "InvaderBoardModel" "half" "I", Cond.methodLink RX5 73 yX5_get, Cond.instanceMethod yX5_get, Cond.selects RX5 yX5_get yX5_get]
def wsX5_low_r3 : List Cond := [Cond.code yX5_get cX5_get 2 (some .int), Cond.methodLink RX5 76 yX5_set, Cond.instanceMethod yX5_set, Cond.selects RX5 yX5_set yX5_set, Cond.code yX5_set cX5_set 3 none, Cond.methodLink RX5 69 yX5_signs, Cond.instanceMethod yX5_signs, Cond.selects RX5 yX5_signs yX5_signs, Cond.code yX5_signs cX5_signs 4 none, Cond.fieldLink RX5 54 "InvaderBoardModel" "sign" "I", Cond.fieldLink RX5 57 "InvaderBoardModel" "zero" "I", Cond.fieldLink RX5 60 "InvaderBoardModel" "parity" "I", Cond.methodLink RX5 111 yX5_turn, Cond.instanceMethod yX5_turn, Cond.selects RX5 yX5_turn yX5_turn, Cond.code yX5_turn cX5_turn 3 none, Cond.methodLink RX5 79 yX5_adjust, Cond.instanceMethod yX5_adjust, Cond.selects RX5 yX5_adjust yX5_adjust, Cond.code yX5_adjust cX5_adjust 4 none]
def wsX5_low : List Cond := .code yX5_low cX5_low 6 (some .int) :: ((wsX5_low_r1 ++ (wsX5_low_r2 ++ wsX5_low_r3)) ++ wsX50)
def wsX5_popped_r1 : List Cond := [Cond.fieldLink RX5 16 "InvaderBoardModel" "reg" "[I", Cond.methodLink RX5 118 yX5_pop, Cond.instanceMethod yX5_pop, Cond.selects RX5 yX5_pop yX5_pop, Cond.initialized RX5, Cond.code yX5_pop cX5_pop 2 (some .int), Cond.fieldLink RX5 44 "InvaderBoardModel" "sp" "I", Cond.constant RX5 32 (65535), Cond.methodLink RX5 36 yX5_read, Cond.instanceMethod yX5_read, Cond.selects RX5 yX5_read yX5_read, Cond.code yX5_read cX5_read 4 (some .int), Cond.fieldLink RX5 13 "InvaderBoardModel" "ram" "[I", Cond.fieldLink RX5 7 "InvaderBoardModel" "rom" "[I", Cond.methodLink RX5 139 yX5_setFlags, Cond.instanceMethod yX5_setFlags, Cond.selects RX5 yX5_setFlags yX5_setFlags, Cond.code yX5_setFlags cX5_setFlags 2 none, Cond.fieldLink RX5 54 "InvaderBoardModel" "sign" "I", Cond.fieldLink RX5 57 "InvaderBoardModel" "zero" "I", Cond.fieldLink RX5 63 "InvaderBoardModel" "half" "I", Cond.fieldLink RX5 60 "InvaderBoardModel" "parity" "I", Cond.fieldLink RX5 66 "InvaderBoardModel" "carry" "I", Cond.methodLink RX5 99 yX5_setPair]
def wsX5_popped_r2 : List Cond := [Cond.instanceMethod yX5_setPair, Cond.selects RX5 yX5_setPair yX5_setPair, Cond.code yX5_setPair cX5_setPair 3 none]
def wsX5_popped : List Cond := .code yX5_popped cX5_popped 3 (some .int) :: ((wsX5_popped_r1 ++ wsX5_popped_r2) ++ wsX50)
def wsX5_odd : List Cond := .code yX5_odd cX5_odd 2 (some .int) :: ([.fieldLink RX5 33 "InvaderBoardModel" "pc" "I", .fieldLink RX5 44 "InvaderBoardModel" "sp" "I", .methodLink RX5 118 yX5_pop, .instanceMethod yX5_pop, .selects RX5 yX5_pop yX5_pop, .initialized RX5, .code yX5_pop cX5_pop 2 (some .int), .constant RX5 32 (65535), .methodLink RX5 36 yX5_read, .instanceMethod yX5_read, .selects RX5 yX5_read yX5_read, .code yX5_read cX5_read 4 (some .int), .fieldLink RX5 13 "InvaderBoardModel" "ram" "[I", .fieldLink RX5 7 "InvaderBoardModel" "rom" "[I", .methodLink RX5 51 yX5_hl, .instanceMethod yX5_hl, .selects RX5 yX5_hl yX5_hl, .code yX5_hl cX5_hl 1 (some .int), .fieldLink RX5 16 "InvaderBoardModel" "reg" "[I"] ++ wsX50)
def wsX5_out : List Cond := .code yX5_out cX5_out 5 none :: ([.fieldLink RX5 160 "InvaderBoardModel" "offset" "I", .fieldLink RX5 25 "InvaderBoardModel" "edges" "[I", .fieldLink RX5 22 "InvaderBoardModel" "latch" "[I", .fieldLink RX5 157 "InvaderBoardModel" "shifter" "I", .fieldLink RX5 163 "InvaderBoardModel" "hunger" "I"] ++ wsX50)
def wsX5_in : List Cond := .code yX5_in cX5_in 2 (some .int) :: ([.fieldLink RX5 19 "InvaderBoardModel" "inputs" "[I", .fieldLink RX5 157 "InvaderBoardModel" "shifter" "I", .fieldLink RX5 160 "InvaderBoardModel" "offset" "I"] ++ wsX50)
def wsX5_single_r1 : List Cond := [Cond.fieldLink RX5 33 "InvaderBoardModel" "pc" "I", Cond.fieldLink RX5 16 "InvaderBoardModel" "reg" "[I", Cond.fieldLink RX5 44 "InvaderBoardModel" "sp" "I", Cond.constant RX5 32 (65535), Cond.fieldLink RX5 148 "InvaderBoardModel" "enabled" "Z", Cond.fieldLink RX5 151 "InvaderBoardModel" "due" "Z", Cond.fieldLink RX5 154 "InvaderBoardModel" "soon" "Z", Cond.methodLink RX5 102 yX5_nextTwo, Cond.instanceMethod yX5_nextTwo, Cond.selects RX5 yX5_nextTwo yX5_nextTwo, Cond.initialized RX5, Cond.code yX5_nextTwo cX5_nextTwo 2 (some .int), Cond.methodLink RX5 40 yX5_next, Cond.instanceMethod yX5_next, Cond.selects RX5 yX5_next yX5_next, Cond.code yX5_next cX5_next 2 (some .int), Cond.methodLink RX5 36 yX5_read, Cond.instanceMethod yX5_read, Cond.selects RX5 yX5_read yX5_read, Cond.code yX5_read cX5_read 4 (some .int), Cond.fieldLink RX5 13 "InvaderBoardModel" "ram" "[I", Cond.fieldLink RX5 7 "InvaderBoardModel" "rom" "[I", Cond.methodLink RX5 142 yX5_out, Cond.instanceMethod yX5_out]
def wsX5_single_r2 : List Cond := [Cond.selects RX5 yX5_out yX5_out, Cond.code yX5_out cX5_out 5 none, Cond.fieldLink RX5 160 "InvaderBoardModel" "offset" "I", Cond.fieldLink RX5 25 "InvaderBoardModel" "edges" "[I", Cond.fieldLink RX5 22 "InvaderBoardModel" "latch" "[I", Cond.fieldLink RX5 157 "InvaderBoardModel" "shifter" "I", Cond.fieldLink RX5 163 "InvaderBoardModel" "hunger" "I", Cond.methodLink RX5 145 yX5_in, Cond.instanceMethod yX5_in, Cond.selects RX5 yX5_in yX5_in, Cond.code yX5_in cX5_in 2 (some .int), Cond.fieldLink RX5 19 "InvaderBoardModel" "inputs" "[I", Cond.methodLink RX5 47 yX5_write, Cond.instanceMethod yX5_write, Cond.selects RX5 yX5_write yX5_write, Cond.code yX5_write cX5_write 4 none, Cond.methodLink RX5 99 yX5_setPair, Cond.instanceMethod yX5_setPair, Cond.selects RX5 yX5_setPair yX5_setPair, Cond.code yX5_setPair cX5_setPair 3 none, Cond.methodLink RX5 51 yX5_hl, Cond.instanceMethod yX5_hl, Cond.selects RX5 yX5_hl yX5_hl, Cond.code yX5_hl cX5_hl 1 (some .int)]
def wsX5_single_r3 : List Cond := [Cond.methodLink RX5 96 yX5_pair, Cond.instanceMethod yX5_pair, Cond.selects RX5 yX5_pair yX5_pair, Cond.code yX5_pair cX5_pair 2 (some .int)]
def wsX5_single : List Cond := .code yX5_single cX5_single 3 (some .int) :: ((wsX5_single_r1 ++ (wsX5_single_r2 ++ wsX5_single_r3)) ++ wsX50)
def wsX5_call : List Cond := .code yX5_call cX5_call 2 (some .int) :: ([.fieldLink RX5 33 "InvaderBoardModel" "pc" "I", .methodLink RX5 136 yX5_push, .instanceMethod yX5_push, .selects RX5 yX5_push yX5_push, .initialized RX5, .code yX5_push cX5_push 2 none, .fieldLink RX5 44 "InvaderBoardModel" "sp" "I", .constant RX5 32 (65535), .methodLink RX5 47 yX5_write, .instanceMethod yX5_write, .selects RX5 yX5_write yX5_write, .code yX5_write cX5_write 4 none, .fieldLink RX5 13 "InvaderBoardModel" "ram" "[I"] ++ wsX50)
def wsX5_high_r1 : List Cond := [Cond.fieldLink RX5 33 "InvaderBoardModel" "pc" "I", Cond.fieldLink RX5 16 "InvaderBoardModel" "reg" "[I", Cond.methodLink RX5 114 yX5_holds, Cond.instanceMethod yX5_holds, Cond.selects RX5 yX5_holds yX5_holds, Cond.initialized RX5, Cond.code yX5_holds cX5_holds 3 (some .boolean), Cond.fieldLink RX5 57 "InvaderBoardModel" "zero" "I", Cond.fieldLink RX5 66 "InvaderBoardModel" "carry" "I", Cond.fieldLink RX5 60 "InvaderBoardModel" "parity" "I", Cond.fieldLink RX5 54 "InvaderBoardModel" "sign" "I", Cond.methodLink RX5 118 yX5_pop, Cond.instanceMethod yX5_pop, Cond.selects RX5 yX5_pop yX5_pop, Cond.code yX5_pop cX5_pop 2 (some .int), Cond.fieldLink RX5 44 "InvaderBoardModel" "sp" "I", Cond.constant RX5 32 (65535), Cond.methodLink RX5 36 yX5_read, Cond.instanceMethod yX5_read, Cond.selects RX5 yX5_read yX5_read, Cond.code yX5_read cX5_read 4 (some .int), Cond.fieldLink RX5 13 "InvaderBoardModel" "ram" "[I", Cond.fieldLink RX5 7 "InvaderBoardModel" "rom" "[I", Cond.methodLink RX5 121 yX5_popped]
def wsX5_high_r2 : List Cond := [Cond.instanceMethod yX5_popped, Cond.selects RX5 yX5_popped yX5_popped, Cond.code yX5_popped cX5_popped 3 (some .int), Cond.methodLink RX5 139 yX5_setFlags, Cond.instanceMethod yX5_setFlags, Cond.selects RX5 yX5_setFlags yX5_setFlags, Cond.code yX5_setFlags cX5_setFlags 2 none, Cond.fieldLink RX5 63 "InvaderBoardModel" "half" "I", Cond.methodLink RX5 99 yX5_setPair, Cond.instanceMethod yX5_setPair, Cond.selects RX5 yX5_setPair yX5_setPair, Cond.code yX5_setPair cX5_setPair 3 none, Cond.methodLink RX5 124 yX5_odd, Cond.instanceMethod yX5_odd, Cond.selects RX5 yX5_odd yX5_odd, Cond.code yX5_odd cX5_odd 2 (some .int), Cond.methodLink RX5 51 yX5_hl, Cond.instanceMethod yX5_hl, Cond.selects RX5 yX5_hl yX5_hl, Cond.code yX5_hl cX5_hl 1 (some .int), Cond.methodLink RX5 102 yX5_nextTwo, Cond.instanceMethod yX5_nextTwo, Cond.selects RX5 yX5_nextTwo yX5_nextTwo, Cond.code yX5_nextTwo cX5_nextTwo 2 (some .int)]
def wsX5_high_r3 : List Cond := [Cond.methodLink RX5 40 yX5_next, Cond.instanceMethod yX5_next, Cond.selects RX5 yX5_next yX5_next, Cond.code yX5_next cX5_next 2 (some .int), Cond.methodLink RX5 127 yX5_single, Cond.instanceMethod yX5_single, Cond.selects RX5 yX5_single yX5_single, Cond.code yX5_single cX5_single 3 (some .int), Cond.fieldLink RX5 148 "InvaderBoardModel" "enabled" "Z", Cond.fieldLink RX5 151 "InvaderBoardModel" "due" "Z", Cond.fieldLink RX5 154 "InvaderBoardModel" "soon" "Z", Cond.methodLink RX5 142 yX5_out, Cond.instanceMethod yX5_out, Cond.selects RX5 yX5_out yX5_out, Cond.code yX5_out cX5_out 5 none, Cond.fieldLink RX5 160 "InvaderBoardModel" "offset" "I", Cond.fieldLink RX5 25 "InvaderBoardModel" "edges" "[I", Cond.fieldLink RX5 22 "InvaderBoardModel" "latch" "[I", Cond.fieldLink RX5 157 "InvaderBoardModel" "shifter" "I", Cond.fieldLink RX5 163 "InvaderBoardModel" "hunger" "I", Cond.methodLink RX5 145 yX5_in, Cond.instanceMethod yX5_in, Cond.selects RX5 yX5_in yX5_in, Cond.code yX5_in cX5_in 2 (some .int)]
def wsX5_high_r4 : List Cond := [Cond.fieldLink RX5 19 "InvaderBoardModel" "inputs" "[I", Cond.methodLink RX5 47 yX5_write, Cond.instanceMethod yX5_write, Cond.selects RX5 yX5_write yX5_write, Cond.code yX5_write cX5_write 4 none, Cond.methodLink RX5 96 yX5_pair, Cond.instanceMethod yX5_pair, Cond.selects RX5 yX5_pair yX5_pair, Cond.code yX5_pair cX5_pair 2 (some .int), Cond.methodLink RX5 130 yX5_call, Cond.instanceMethod yX5_call, Cond.selects RX5 yX5_call yX5_call, Cond.code yX5_call cX5_call 2 (some .int), Cond.methodLink RX5 136 yX5_push, Cond.instanceMethod yX5_push, Cond.selects RX5 yX5_push yX5_push, Cond.code yX5_push cX5_push 2 none, Cond.methodLink RX5 133 yX5_flags, Cond.instanceMethod yX5_flags, Cond.selects RX5 yX5_flags yX5_flags, Cond.code yX5_flags cX5_flags 1 (some .int), Cond.methodLink RX5 86 yX5_alu, Cond.instanceMethod yX5_alu, Cond.selects RX5 yX5_alu yX5_alu]
def wsX5_high_r5 : List Cond := [Cond.code yX5_alu cX5_alu 6 none, Cond.methodLink RX5 69 yX5_signs, Cond.instanceMethod yX5_signs, Cond.selects RX5 yX5_signs yX5_signs, Cond.code yX5_signs cX5_signs 4 none]
def wsX5_high : List Cond := .code yX5_high cX5_high 4 (some .int) :: ((wsX5_high_r1 ++ (wsX5_high_r2 ++ (wsX5_high_r3 ++ (wsX5_high_r4 ++ wsX5_high_r5)))) ++ wsX50)
def wsX5_one_r1 : List Cond := [Cond.fieldLink RX5 82 "InvaderBoardModel" "halted" "Z", Cond.methodLink RX5 40 yX5_next, Cond.instanceMethod yX5_next, Cond.selects RX5 yX5_next yX5_next, Cond.initialized RX5, Cond.code yX5_next cX5_next 2 (some .int), Cond.fieldLink RX5 33 "InvaderBoardModel" "pc" "I", Cond.constant RX5 32 (65535), Cond.methodLink RX5 36 yX5_read, Cond.instanceMethod yX5_read, Cond.selects RX5 yX5_read yX5_read, Cond.code yX5_read cX5_read 4 (some .int), Cond.fieldLink RX5 13 "InvaderBoardModel" "ram" "[I", Cond.fieldLink RX5 7 "InvaderBoardModel" "rom" "[I", Cond.methodLink RX5 73 yX5_get, Cond.instanceMethod yX5_get, Cond.selects RX5 yX5_get yX5_get, Cond.code yX5_get cX5_get 2 (some .int), Cond.fieldLink RX5 16 "InvaderBoardModel" "reg" "[I", Cond.methodLink RX5 51 yX5_hl, Cond.instanceMethod yX5_hl, Cond.selects RX5 yX5_hl yX5_hl, Cond.code yX5_hl cX5_hl 1 (some .int), Cond.methodLink RX5 76 yX5_set]
def wsX5_one_r2 : List Cond := [Cond.instanceMethod yX5_set, Cond.selects RX5 yX5_set yX5_set, Cond.code yX5_set cX5_set 3 none, Cond.methodLink RX5 47 yX5_write, Cond.instanceMethod yX5_write, Cond.selects RX5 yX5_write yX5_write, Cond.code yX5_write cX5_write 4 none, Cond.methodLink RX5 86 yX5_alu, Cond.instanceMethod yX5_alu, Cond.selects RX5 yX5_alu yX5_alu, Cond.code yX5_alu cX5_alu 6 none, Cond.fieldLink RX5 66 "InvaderBoardModel" "carry" "I", Cond.fieldLink RX5 63 "InvaderBoardModel" "half" "I", Cond.methodLink RX5 69 yX5_signs, Cond.instanceMethod yX5_signs, Cond.selects RX5 yX5_signs yX5_signs, Cond.code yX5_signs cX5_signs 4 none, Cond.fieldLink RX5 54 "InvaderBoardModel" "sign" "I", Cond.fieldLink RX5 57 "InvaderBoardModel" "zero" "I", Cond.fieldLink RX5 60 "InvaderBoardModel" "parity" "I", Cond.methodLink RX5 89 yX5_low, Cond.instanceMethod yX5_low, Cond.selects RX5 yX5_low yX5_low, Cond.code yX5_low cX5_low 6 (some .int)]
def wsX5_one_r3 : List Cond := [Cond.methodLink RX5 96 yX5_pair, Cond.instanceMethod yX5_pair, Cond.selects RX5 yX5_pair yX5_pair, Cond.code yX5_pair cX5_pair 2 (some .int), Cond.fieldLink RX5 44 "InvaderBoardModel" "sp" "I", Cond.methodLink RX5 99 yX5_setPair, Cond.instanceMethod yX5_setPair, Cond.selects RX5 yX5_setPair yX5_setPair, Cond.code yX5_setPair cX5_setPair 3 none, Cond.methodLink RX5 102 yX5_nextTwo, Cond.instanceMethod yX5_nextTwo, Cond.selects RX5 yX5_nextTwo yX5_nextTwo, Cond.code yX5_nextTwo cX5_nextTwo 2 (some .int), Cond.methodLink RX5 105 yX5_moved, Cond.instanceMethod yX5_moved, Cond.selects RX5 yX5_moved yX5_moved, Cond.code yX5_moved cX5_moved 3 (some .int), Cond.methodLink RX5 108 yX5_count, Cond.instanceMethod yX5_count, Cond.selects RX5 yX5_count yX5_count, Cond.code yX5_count cX5_count 4 none, Cond.methodLink RX5 111 yX5_turn, Cond.instanceMethod yX5_turn, Cond.selects RX5 yX5_turn yX5_turn]
def wsX5_one_r4 : List Cond := [Cond.code yX5_turn cX5_turn 3 none, Cond.methodLink RX5 79 yX5_adjust, Cond.instanceMethod yX5_adjust, Cond.selects RX5 yX5_adjust yX5_adjust, Cond.code yX5_adjust cX5_adjust 4 none, Cond.methodLink RX5 93 yX5_high, Cond.instanceMethod yX5_high, Cond.selects RX5 yX5_high yX5_high, Cond.code yX5_high cX5_high 4 (some .int), Cond.methodLink RX5 114 yX5_holds, Cond.instanceMethod yX5_holds, Cond.selects RX5 yX5_holds yX5_holds, Cond.code yX5_holds cX5_holds 3 (some .boolean), Cond.methodLink RX5 118 yX5_pop, Cond.instanceMethod yX5_pop, Cond.selects RX5 yX5_pop yX5_pop, Cond.code yX5_pop cX5_pop 2 (some .int), Cond.methodLink RX5 121 yX5_popped, Cond.instanceMethod yX5_popped, Cond.selects RX5 yX5_popped yX5_popped, Cond.code yX5_popped cX5_popped 3 (some .int), Cond.methodLink RX5 139 yX5_setFlags, Cond.instanceMethod yX5_setFlags, Cond.selects RX5 yX5_setFlags yX5_setFlags]
def wsX5_one_r5 : List Cond := [Cond.code yX5_setFlags cX5_setFlags 2 none, Cond.methodLink RX5 124 yX5_odd, Cond.instanceMethod yX5_odd, Cond.selects RX5 yX5_odd yX5_odd, Cond.code yX5_odd cX5_odd 2 (some .int), Cond.methodLink RX5 127 yX5_single, Cond.instanceMethod yX5_single, Cond.selects RX5 yX5_single yX5_single, Cond.code yX5_single cX5_single 3 (some .int), Cond.fieldLink RX5 148 "InvaderBoardModel" "enabled" "Z", Cond.fieldLink RX5 151 "InvaderBoardModel" "due" "Z", Cond.fieldLink RX5 154 "InvaderBoardModel" "soon" "Z", Cond.methodLink RX5 142 yX5_out, Cond.instanceMethod yX5_out, Cond.selects RX5 yX5_out yX5_out, Cond.code yX5_out cX5_out 5 none, Cond.fieldLink RX5 160 "InvaderBoardModel" "offset" "I", Cond.fieldLink RX5 25 "InvaderBoardModel" "edges" "[I", Cond.fieldLink RX5 22 "InvaderBoardModel" "latch" "[I", Cond.fieldLink RX5 157 "InvaderBoardModel" "shifter" "I", Cond.fieldLink RX5 163 "InvaderBoardModel" "hunger" "I", Cond.methodLink RX5 145 yX5_in, Cond.instanceMethod yX5_in, Cond.selects RX5 yX5_in yX5_in]
def wsX5_one_r6 : List Cond := [Cond.code yX5_in cX5_in 2 (some .int), Cond.fieldLink RX5 19 "InvaderBoardModel" "inputs" "[I", Cond.methodLink RX5 130 yX5_call, Cond.instanceMethod yX5_call, Cond.selects RX5 yX5_call yX5_call, Cond.code yX5_call cX5_call 2 (some .int), Cond.methodLink RX5 136 yX5_push, Cond.instanceMethod yX5_push, Cond.selects RX5 yX5_push yX5_push, Cond.code yX5_push cX5_push 2 none, Cond.methodLink RX5 133 yX5_flags, Cond.instanceMethod yX5_flags, Cond.selects RX5 yX5_flags yX5_flags, Cond.code yX5_flags cX5_flags 1 (some .int)]
def wsX5_one : List Cond := .code yX5_one cX5_one 5 (some .int) :: ((wsX5_one_r1 ++ (wsX5_one_r2 ++ (wsX5_one_r3 ++ (wsX5_one_r4 ++ (wsX5_one_r5 ++ wsX5_one_r6))))) ++ wsX50)
def wsX5_clear : List Cond := .code yX5_clear cX5_clear 2 none :: ([.fieldLink RX5 16 "InvaderBoardModel" "reg" "[I", .fieldLink RX5 44 "InvaderBoardModel" "sp" "I", .fieldLink RX5 33 "InvaderBoardModel" "pc" "I", .fieldLink RX5 157 "InvaderBoardModel" "shifter" "I", .fieldLink RX5 160 "InvaderBoardModel" "offset" "I", .fieldLink RX5 22 "InvaderBoardModel" "latch" "[I", .fieldLink RX5 148 "InvaderBoardModel" "enabled" "Z", .fieldLink RX5 154 "InvaderBoardModel" "soon" "Z", .fieldLink RX5 151 "InvaderBoardModel" "due" "Z", .fieldLink RX5 82 "InvaderBoardModel" "halted" "Z", .fieldLink RX5 166 "InvaderBoardModel" "request" "I", .fieldLink RX5 163 "InvaderBoardModel" "hunger" "I", .methodLink RX5 139 yX5_setFlags, .instanceMethod yX5_setFlags, .selects RX5 yX5_setFlags yX5_setFlags, .initialized RX5, .code yX5_setFlags cX5_setFlags 2 none, .fieldLink RX5 54 "InvaderBoardModel" "sign" "I", .fieldLink RX5 57 "InvaderBoardModel" "zero" "I", .fieldLink RX5 63 "InvaderBoardModel" "half" "I", .fieldLink RX5 60 "InvaderBoardModel" "parity" "I", .fieldLink RX5 66 "InvaderBoardModel" "carry" "I"] ++ wsX50)
def wsX5_worked_r1 : List Cond := [Cond.fieldLink RX5 148 "InvaderBoardModel" "enabled" "Z", Cond.fieldLink RX5 166 "InvaderBoardModel" "request" "I", Cond.fieldLink RX5 82 "InvaderBoardModel" "halted" "Z", Cond.fieldLink RX5 33 "InvaderBoardModel" "pc" "I", Cond.fieldLink RX5 154 "InvaderBoardModel" "soon" "Z", Cond.fieldLink RX5 151 "InvaderBoardModel" "due" "Z", Cond.methodLink RX5 136 yX5_push, Cond.instanceMethod yX5_push, Cond.selects RX5 yX5_push yX5_push, Cond.initialized RX5, Cond.code yX5_push cX5_push 2 none, Cond.fieldLink RX5 44 "InvaderBoardModel" "sp" "I", Cond.constant RX5 32 (65535), Cond.methodLink RX5 47 yX5_write, Cond.instanceMethod yX5_write, Cond.selects RX5 yX5_write yX5_write, Cond.code yX5_write cX5_write 4 none, Cond.fieldLink RX5 13 "InvaderBoardModel" "ram" "[I", Cond.methodLink RX5 169 yX5_one, Cond.instanceMethod yX5_one, Cond.selects RX5 yX5_one yX5_one, Cond.code yX5_one cX5_one 5 (some .int), Cond.methodLink RX5 40 yX5_next, Cond.instanceMethod yX5_next]
def wsX5_worked_r2 : List Cond := [Cond.selects RX5 yX5_next yX5_next, Cond.code yX5_next cX5_next 2 (some .int), Cond.methodLink RX5 36 yX5_read, Cond.instanceMethod yX5_read, Cond.selects RX5 yX5_read yX5_read, Cond.code yX5_read cX5_read 4 (some .int), Cond.fieldLink RX5 7 "InvaderBoardModel" "rom" "[I", Cond.methodLink RX5 73 yX5_get, Cond.instanceMethod yX5_get, Cond.selects RX5 yX5_get yX5_get, Cond.code yX5_get cX5_get 2 (some .int), Cond.fieldLink RX5 16 "InvaderBoardModel" "reg" "[I", Cond.methodLink RX5 51 yX5_hl, Cond.instanceMethod yX5_hl, Cond.selects RX5 yX5_hl yX5_hl, Cond.code yX5_hl cX5_hl 1 (some .int), Cond.methodLink RX5 76 yX5_set, Cond.instanceMethod yX5_set, Cond.selects RX5 yX5_set yX5_set, Cond.code yX5_set cX5_set 3 none, Cond.methodLink RX5 86 yX5_alu, Cond.instanceMethod yX5_alu, Cond.selects RX5 yX5_alu yX5_alu, Cond.code yX5_alu cX5_alu 6 none]
def wsX5_worked_r3 : List Cond := [Cond.fieldLink RX5 66 "InvaderBoardModel" "carry" "I", Cond.fieldLink RX5 63 "InvaderBoardModel" "half" "I", Cond.methodLink RX5 69 yX5_signs, Cond.instanceMethod yX5_signs, Cond.selects RX5 yX5_signs yX5_signs, Cond.code yX5_signs cX5_signs 4 none, Cond.fieldLink RX5 54 "InvaderBoardModel" "sign" "I", Cond.fieldLink RX5 57 "InvaderBoardModel" "zero" "I", Cond.fieldLink RX5 60 "InvaderBoardModel" "parity" "I", Cond.methodLink RX5 89 yX5_low, Cond.instanceMethod yX5_low, Cond.selects RX5 yX5_low yX5_low, Cond.code yX5_low cX5_low 6 (some .int), Cond.methodLink RX5 96 yX5_pair, Cond.instanceMethod yX5_pair, Cond.selects RX5 yX5_pair yX5_pair, Cond.code yX5_pair cX5_pair 2 (some .int), Cond.methodLink RX5 99 yX5_setPair, Cond.instanceMethod yX5_setPair, Cond.selects RX5 yX5_setPair yX5_setPair, Cond.code yX5_setPair cX5_setPair 3 none, Cond.methodLink RX5 102 yX5_nextTwo, Cond.instanceMethod yX5_nextTwo, Cond.selects RX5 yX5_nextTwo yX5_nextTwo]
def wsX5_worked_r4 : List Cond := [Cond.code yX5_nextTwo cX5_nextTwo 2 (some .int), Cond.methodLink RX5 105 yX5_moved, Cond.instanceMethod yX5_moved, Cond.selects RX5 yX5_moved yX5_moved, Cond.code yX5_moved cX5_moved 3 (some .int), Cond.methodLink RX5 108 yX5_count, Cond.instanceMethod yX5_count, Cond.selects RX5 yX5_count yX5_count, Cond.code yX5_count cX5_count 4 none, Cond.methodLink RX5 111 yX5_turn, Cond.instanceMethod yX5_turn, Cond.selects RX5 yX5_turn yX5_turn, Cond.code yX5_turn cX5_turn 3 none, Cond.methodLink RX5 79 yX5_adjust, Cond.instanceMethod yX5_adjust, Cond.selects RX5 yX5_adjust yX5_adjust, Cond.code yX5_adjust cX5_adjust 4 none, Cond.methodLink RX5 93 yX5_high, Cond.instanceMethod yX5_high, Cond.selects RX5 yX5_high yX5_high, Cond.code yX5_high cX5_high 4 (some .int), Cond.methodLink RX5 114 yX5_holds, Cond.instanceMethod yX5_holds, Cond.selects RX5 yX5_holds yX5_holds]
def wsX5_worked_r5 : List Cond := [Cond.code yX5_holds cX5_holds 3 (some .boolean), Cond.methodLink RX5 118 yX5_pop, Cond.instanceMethod yX5_pop, Cond.selects RX5 yX5_pop yX5_pop, Cond.code yX5_pop cX5_pop 2 (some .int), Cond.methodLink RX5 121 yX5_popped, Cond.instanceMethod yX5_popped, Cond.selects RX5 yX5_popped yX5_popped, Cond.code yX5_popped cX5_popped 3 (some .int), Cond.methodLink RX5 139 yX5_setFlags, Cond.instanceMethod yX5_setFlags, Cond.selects RX5 yX5_setFlags yX5_setFlags, Cond.code yX5_setFlags cX5_setFlags 2 none, Cond.methodLink RX5 124 yX5_odd, Cond.instanceMethod yX5_odd, Cond.selects RX5 yX5_odd yX5_odd, Cond.code yX5_odd cX5_odd 2 (some .int), Cond.methodLink RX5 127 yX5_single, Cond.instanceMethod yX5_single, Cond.selects RX5 yX5_single yX5_single, Cond.code yX5_single cX5_single 3 (some .int), Cond.methodLink RX5 142 yX5_out, Cond.instanceMethod yX5_out, Cond.selects RX5 yX5_out yX5_out]
def wsX5_worked_r6 : List Cond := [Cond.code yX5_out cX5_out 5 none, Cond.fieldLink RX5 160 "InvaderBoardModel" "offset" "I", Cond.fieldLink RX5 25 "InvaderBoardModel" "edges" "[I", Cond.fieldLink RX5 22 "InvaderBoardModel" "latch" "[I", Cond.fieldLink RX5 157 "InvaderBoardModel" "shifter" "I", Cond.fieldLink RX5 163 "InvaderBoardModel" "hunger" "I", Cond.methodLink RX5 145 yX5_in, Cond.instanceMethod yX5_in, Cond.selects RX5 yX5_in yX5_in, Cond.code yX5_in cX5_in 2 (some .int), Cond.fieldLink RX5 19 "InvaderBoardModel" "inputs" "[I", Cond.methodLink RX5 130 yX5_call, Cond.instanceMethod yX5_call, Cond.selects RX5 yX5_call yX5_call, Cond.code yX5_call cX5_call 2 (some .int), Cond.methodLink RX5 133 yX5_flags, Cond.instanceMethod yX5_flags, Cond.selects RX5 yX5_flags yX5_flags, Cond.code yX5_flags cX5_flags 1 (some .int)]
def wsX5_worked : List Cond := .code yX5_worked cX5_worked 2 (some .int) :: ((wsX5_worked_r1 ++ (wsX5_worked_r2 ++ (wsX5_worked_r3 ++ (wsX5_worked_r4 ++ (wsX5_worked_r5 ++ wsX5_worked_r6))))) ++ wsX50)
def wsX5_step_r1 : List Cond := [Cond.fieldLink RX5 28 "InvaderBoardModel" "code" "I", Cond.fieldLink RX5 175 "InvaderBoardModel" "states" "I", Cond.fieldLink RX5 166 "InvaderBoardModel" "request" "I", Cond.constant RX5 178 (33333), Cond.fieldLink RX5 179 "InvaderBoardModel" "frames" "I", Cond.fieldLink RX5 163 "InvaderBoardModel" "hunger" "I", Cond.methodLink RX5 172 yX5_worked, Cond.instanceMethod yX5_worked, Cond.selects RX5 yX5_worked yX5_worked, Cond.initialized RX5, Cond.code yX5_worked cX5_worked 2 (some .int), Cond.fieldLink RX5 148 "InvaderBoardModel" "enabled" "Z", Cond.fieldLink RX5 82 "InvaderBoardModel" "halted" "Z", Cond.fieldLink RX5 33 "InvaderBoardModel" "pc" "I", Cond.fieldLink RX5 154 "InvaderBoardModel" "soon" "Z", Cond.fieldLink RX5 151 "InvaderBoardModel" "due" "Z", Cond.methodLink RX5 136 yX5_push, Cond.instanceMethod yX5_push, Cond.selects RX5 yX5_push yX5_push, Cond.code yX5_push cX5_push 2 none, Cond.fieldLink RX5 44 "InvaderBoardModel" "sp" "I", Cond.constant RX5 32 (65535), Cond.methodLink RX5 47 yX5_write, Cond.instanceMethod yX5_write]
def wsX5_step_r2 : List Cond := [Cond.selects RX5 yX5_write yX5_write, Cond.code yX5_write cX5_write 4 none, Cond.fieldLink RX5 13 "InvaderBoardModel" "ram" "[I", Cond.methodLink RX5 169 yX5_one, Cond.instanceMethod yX5_one, Cond.selects RX5 yX5_one yX5_one, Cond.code yX5_one cX5_one 5 (some .int), Cond.methodLink RX5 40 yX5_next, Cond.instanceMethod yX5_next, Cond.selects RX5 yX5_next yX5_next, Cond.code yX5_next cX5_next 2 (some .int), Cond.methodLink RX5 36 yX5_read, Cond.instanceMethod yX5_read, Cond.selects RX5 yX5_read yX5_read, Cond.code yX5_read cX5_read 4 (some .int), Cond.fieldLink RX5 7 "InvaderBoardModel" "rom" "[I", Cond.methodLink RX5 73 yX5_get, Cond.instanceMethod yX5_get, Cond.selects RX5 yX5_get yX5_get, Cond.code yX5_get cX5_get 2 (some .int), Cond.fieldLink RX5 16 "InvaderBoardModel" "reg" "[I", Cond.methodLink RX5 51 yX5_hl, Cond.instanceMethod yX5_hl, Cond.selects RX5 yX5_hl yX5_hl]
def wsX5_step_r3 : List Cond := [Cond.code yX5_hl cX5_hl 1 (some .int), Cond.methodLink RX5 76 yX5_set, Cond.instanceMethod yX5_set, Cond.selects RX5 yX5_set yX5_set, Cond.code yX5_set cX5_set 3 none, Cond.methodLink RX5 86 yX5_alu, Cond.instanceMethod yX5_alu, Cond.selects RX5 yX5_alu yX5_alu, Cond.code yX5_alu cX5_alu 6 none, Cond.fieldLink RX5 66 "InvaderBoardModel" "carry" "I", Cond.fieldLink RX5 63 "InvaderBoardModel" "half" "I", Cond.methodLink RX5 69 yX5_signs, Cond.instanceMethod yX5_signs, Cond.selects RX5 yX5_signs yX5_signs, Cond.code yX5_signs cX5_signs 4 none, Cond.fieldLink RX5 54 "InvaderBoardModel" "sign" "I", Cond.fieldLink RX5 57 "InvaderBoardModel" "zero" "I", Cond.fieldLink RX5 60 "InvaderBoardModel" "parity" "I", Cond.methodLink RX5 89 yX5_low, Cond.instanceMethod yX5_low, Cond.selects RX5 yX5_low yX5_low, Cond.code yX5_low cX5_low 6 (some .int), Cond.methodLink RX5 96 yX5_pair, Cond.instanceMethod yX5_pair]
def wsX5_step_r4 : List Cond := [Cond.selects RX5 yX5_pair yX5_pair, Cond.code yX5_pair cX5_pair 2 (some .int), Cond.methodLink RX5 99 yX5_setPair, Cond.instanceMethod yX5_setPair, Cond.selects RX5 yX5_setPair yX5_setPair, Cond.code yX5_setPair cX5_setPair 3 none, Cond.methodLink RX5 102 yX5_nextTwo, Cond.instanceMethod yX5_nextTwo, Cond.selects RX5 yX5_nextTwo yX5_nextTwo, Cond.code yX5_nextTwo cX5_nextTwo 2 (some .int), Cond.methodLink RX5 105 yX5_moved, Cond.instanceMethod yX5_moved, Cond.selects RX5 yX5_moved yX5_moved, Cond.code yX5_moved cX5_moved 3 (some .int), Cond.methodLink RX5 108 yX5_count, Cond.instanceMethod yX5_count, Cond.selects RX5 yX5_count yX5_count, Cond.code yX5_count cX5_count 4 none, Cond.methodLink RX5 111 yX5_turn, Cond.instanceMethod yX5_turn, Cond.selects RX5 yX5_turn yX5_turn, Cond.code yX5_turn cX5_turn 3 none, Cond.methodLink RX5 79 yX5_adjust, Cond.instanceMethod yX5_adjust]
def wsX5_step_r5 : List Cond := [Cond.selects RX5 yX5_adjust yX5_adjust, Cond.code yX5_adjust cX5_adjust 4 none, Cond.methodLink RX5 93 yX5_high, Cond.instanceMethod yX5_high, Cond.selects RX5 yX5_high yX5_high, Cond.code yX5_high cX5_high 4 (some .int), Cond.methodLink RX5 114 yX5_holds, Cond.instanceMethod yX5_holds, Cond.selects RX5 yX5_holds yX5_holds, Cond.code yX5_holds cX5_holds 3 (some .boolean), Cond.methodLink RX5 118 yX5_pop, Cond.instanceMethod yX5_pop, Cond.selects RX5 yX5_pop yX5_pop, Cond.code yX5_pop cX5_pop 2 (some .int), Cond.methodLink RX5 121 yX5_popped, Cond.instanceMethod yX5_popped, Cond.selects RX5 yX5_popped yX5_popped, Cond.code yX5_popped cX5_popped 3 (some .int), Cond.methodLink RX5 139 yX5_setFlags, Cond.instanceMethod yX5_setFlags, Cond.selects RX5 yX5_setFlags yX5_setFlags, Cond.code yX5_setFlags cX5_setFlags 2 none, Cond.methodLink RX5 124 yX5_odd, Cond.instanceMethod yX5_odd]
def wsX5_step_r6 : List Cond := [Cond.selects RX5 yX5_odd yX5_odd, Cond.code yX5_odd cX5_odd 2 (some .int), Cond.methodLink RX5 127 yX5_single, Cond.instanceMethod yX5_single, Cond.selects RX5 yX5_single yX5_single, Cond.code yX5_single cX5_single 3 (some .int), Cond.methodLink RX5 142 yX5_out, Cond.instanceMethod yX5_out, Cond.selects RX5 yX5_out yX5_out, Cond.code yX5_out cX5_out 5 none, Cond.fieldLink RX5 160 "InvaderBoardModel" "offset" "I", Cond.fieldLink RX5 25 "InvaderBoardModel" "edges" "[I", Cond.fieldLink RX5 22 "InvaderBoardModel" "latch" "[I", Cond.fieldLink RX5 157 "InvaderBoardModel" "shifter" "I", Cond.methodLink RX5 145 yX5_in, Cond.instanceMethod yX5_in, Cond.selects RX5 yX5_in yX5_in, Cond.code yX5_in cX5_in 2 (some .int), Cond.fieldLink RX5 19 "InvaderBoardModel" "inputs" "[I", Cond.methodLink RX5 130 yX5_call, Cond.instanceMethod yX5_call, Cond.selects RX5 yX5_call yX5_call, Cond.code yX5_call cX5_call 2 (some .int), Cond.methodLink RX5 133 yX5_flags]
def wsX5_step_r7 : List Cond := [Cond.instanceMethod yX5_flags, Cond.selects RX5 yX5_flags yX5_flags, Cond.code yX5_flags cX5_flags 1 (some .int), Cond.methodLink RX5 182 yX5_clear, Cond.instanceMethod yX5_clear, Cond.selects RX5 yX5_clear yX5_clear, Cond.code yX5_clear cX5_clear 2 none]
def wsX5_step : List Cond := .code yX5_step cX5_step 3 (some .int) :: ((wsX5_step_r1 ++ (wsX5_step_r2 ++ (wsX5_step_r3 ++ (wsX5_step_r4 ++ (wsX5_step_r5 ++ (wsX5_step_r6 ++ wsX5_step_r7)))))) ++ wsX50)
def wsX5_run_r1 : List Cond := [Cond.constant RX5 185 (40000), Cond.fieldLink RX5 28 "InvaderBoardModel" "code" "I", Cond.methodLink RX5 186 yX5_step, Cond.instanceMethod yX5_step, Cond.selects RX5 yX5_step yX5_step, Cond.initialized RX5, Cond.code yX5_step cX5_step 3 (some .int), Cond.fieldLink RX5 175 "InvaderBoardModel" "states" "I", Cond.fieldLink RX5 166 "InvaderBoardModel" "request" "I", Cond.constant RX5 178 (33333), Cond.fieldLink RX5 179 "InvaderBoardModel" "frames" "I", Cond.fieldLink RX5 163 "InvaderBoardModel" "hunger" "I", Cond.methodLink RX5 172 yX5_worked, Cond.instanceMethod yX5_worked, Cond.selects RX5 yX5_worked yX5_worked, Cond.code yX5_worked cX5_worked 2 (some .int), Cond.fieldLink RX5 148 "InvaderBoardModel" "enabled" "Z", Cond.fieldLink RX5 82 "InvaderBoardModel" "halted" "Z", Cond.fieldLink RX5 33 "InvaderBoardModel" "pc" "I", Cond.fieldLink RX5 154 "InvaderBoardModel" "soon" "Z", Cond.fieldLink RX5 151 "InvaderBoardModel" "due" "Z", Cond.methodLink RX5 136 yX5_push, Cond.instanceMethod yX5_push, Cond.selects RX5 yX5_push yX5_push]
def wsX5_run_r2 : List Cond := [Cond.code yX5_push cX5_push 2 none, Cond.fieldLink RX5 44 "InvaderBoardModel" "sp" "I", Cond.constant RX5 32 (65535), Cond.methodLink RX5 47 yX5_write, Cond.instanceMethod yX5_write, Cond.selects RX5 yX5_write yX5_write, Cond.code yX5_write cX5_write 4 none, Cond.fieldLink RX5 13 "InvaderBoardModel" "ram" "[I", Cond.methodLink RX5 169 yX5_one, Cond.instanceMethod yX5_one, Cond.selects RX5 yX5_one yX5_one, Cond.code yX5_one cX5_one 5 (some .int), Cond.methodLink RX5 40 yX5_next, Cond.instanceMethod yX5_next, Cond.selects RX5 yX5_next yX5_next, Cond.code yX5_next cX5_next 2 (some .int), Cond.methodLink RX5 36 yX5_read, Cond.instanceMethod yX5_read, Cond.selects RX5 yX5_read yX5_read, Cond.code yX5_read cX5_read 4 (some .int), Cond.fieldLink RX5 7 "InvaderBoardModel" "rom" "[I", Cond.methodLink RX5 73 yX5_get, Cond.instanceMethod yX5_get, Cond.selects RX5 yX5_get yX5_get]
def wsX5_run_r3 : List Cond := [Cond.code yX5_get cX5_get 2 (some .int), Cond.fieldLink RX5 16 "InvaderBoardModel" "reg" "[I", Cond.methodLink RX5 51 yX5_hl, Cond.instanceMethod yX5_hl, Cond.selects RX5 yX5_hl yX5_hl, Cond.code yX5_hl cX5_hl 1 (some .int), Cond.methodLink RX5 76 yX5_set, Cond.instanceMethod yX5_set, Cond.selects RX5 yX5_set yX5_set, Cond.code yX5_set cX5_set 3 none, Cond.methodLink RX5 86 yX5_alu, Cond.instanceMethod yX5_alu, Cond.selects RX5 yX5_alu yX5_alu, Cond.code yX5_alu cX5_alu 6 none, Cond.fieldLink RX5 66 "InvaderBoardModel" "carry" "I", Cond.fieldLink RX5 63 "InvaderBoardModel" "half" "I", Cond.methodLink RX5 69 yX5_signs, Cond.instanceMethod yX5_signs, Cond.selects RX5 yX5_signs yX5_signs, Cond.code yX5_signs cX5_signs 4 none, Cond.fieldLink RX5 54 "InvaderBoardModel" "sign" "I", Cond.fieldLink RX5 57 "InvaderBoardModel" "zero" "I", Cond.fieldLink RX5 60 "InvaderBoardModel" "parity" "I", Cond.methodLink RX5 89 yX5_low]
def wsX5_run_r4 : List Cond := [Cond.instanceMethod yX5_low, Cond.selects RX5 yX5_low yX5_low, Cond.code yX5_low cX5_low 6 (some .int), Cond.methodLink RX5 96 yX5_pair, Cond.instanceMethod yX5_pair, Cond.selects RX5 yX5_pair yX5_pair, Cond.code yX5_pair cX5_pair 2 (some .int), Cond.methodLink RX5 99 yX5_setPair, Cond.instanceMethod yX5_setPair, Cond.selects RX5 yX5_setPair yX5_setPair, Cond.code yX5_setPair cX5_setPair 3 none, Cond.methodLink RX5 102 yX5_nextTwo, Cond.instanceMethod yX5_nextTwo, Cond.selects RX5 yX5_nextTwo yX5_nextTwo, Cond.code yX5_nextTwo cX5_nextTwo 2 (some .int), Cond.methodLink RX5 105 yX5_moved, Cond.instanceMethod yX5_moved, Cond.selects RX5 yX5_moved yX5_moved, Cond.code yX5_moved cX5_moved 3 (some .int), Cond.methodLink RX5 108 yX5_count, Cond.instanceMethod yX5_count, Cond.selects RX5 yX5_count yX5_count, Cond.code yX5_count cX5_count 4 none, Cond.methodLink RX5 111 yX5_turn]
def wsX5_run_r5 : List Cond := [Cond.instanceMethod yX5_turn, Cond.selects RX5 yX5_turn yX5_turn, Cond.code yX5_turn cX5_turn 3 none, Cond.methodLink RX5 79 yX5_adjust, Cond.instanceMethod yX5_adjust, Cond.selects RX5 yX5_adjust yX5_adjust, Cond.code yX5_adjust cX5_adjust 4 none, Cond.methodLink RX5 93 yX5_high, Cond.instanceMethod yX5_high, Cond.selects RX5 yX5_high yX5_high, Cond.code yX5_high cX5_high 4 (some .int), Cond.methodLink RX5 114 yX5_holds, Cond.instanceMethod yX5_holds, Cond.selects RX5 yX5_holds yX5_holds, Cond.code yX5_holds cX5_holds 3 (some .boolean), Cond.methodLink RX5 118 yX5_pop, Cond.instanceMethod yX5_pop, Cond.selects RX5 yX5_pop yX5_pop, Cond.code yX5_pop cX5_pop 2 (some .int), Cond.methodLink RX5 121 yX5_popped, Cond.instanceMethod yX5_popped, Cond.selects RX5 yX5_popped yX5_popped, Cond.code yX5_popped cX5_popped 3 (some .int), Cond.methodLink RX5 139 yX5_setFlags]
def wsX5_run_r6 : List Cond := [Cond.instanceMethod yX5_setFlags, Cond.selects RX5 yX5_setFlags yX5_setFlags, Cond.code yX5_setFlags cX5_setFlags 2 none, Cond.methodLink RX5 124 yX5_odd, Cond.instanceMethod yX5_odd, Cond.selects RX5 yX5_odd yX5_odd, Cond.code yX5_odd cX5_odd 2 (some .int), Cond.methodLink RX5 127 yX5_single, Cond.instanceMethod yX5_single, Cond.selects RX5 yX5_single yX5_single, Cond.code yX5_single cX5_single 3 (some .int), Cond.methodLink RX5 142 yX5_out, Cond.instanceMethod yX5_out, Cond.selects RX5 yX5_out yX5_out, Cond.code yX5_out cX5_out 5 none, Cond.fieldLink RX5 160 "InvaderBoardModel" "offset" "I", Cond.fieldLink RX5 25 "InvaderBoardModel" "edges" "[I", Cond.fieldLink RX5 22 "InvaderBoardModel" "latch" "[I", Cond.fieldLink RX5 157 "InvaderBoardModel" "shifter" "I", Cond.methodLink RX5 145 yX5_in, Cond.instanceMethod yX5_in, Cond.selects RX5 yX5_in yX5_in, Cond.code yX5_in cX5_in 2 (some .int), Cond.fieldLink RX5 19 "InvaderBoardModel" "inputs" "[I"]
def wsX5_run_r7 : List Cond := [Cond.methodLink RX5 130 yX5_call, Cond.instanceMethod yX5_call, Cond.selects RX5 yX5_call yX5_call, Cond.code yX5_call cX5_call 2 (some .int), Cond.methodLink RX5 133 yX5_flags, Cond.instanceMethod yX5_flags, Cond.selects RX5 yX5_flags yX5_flags, Cond.code yX5_flags cX5_flags 1 (some .int), Cond.methodLink RX5 182 yX5_clear, Cond.instanceMethod yX5_clear, Cond.selects RX5 yX5_clear yX5_clear, Cond.code yX5_clear cX5_clear 2 none]
def wsX5_run : List Cond := .code yX5_run cX5_run 3 (some .int) :: ((wsX5_run_r1 ++ (wsX5_run_r2 ++ (wsX5_run_r3 ++ (wsX5_run_r4 ++ (wsX5_run_r5 ++ (wsX5_run_r6 ++ wsX5_run_r7)))))) ++ wsX50)
def wsX5_reset_r1 : List Cond := [Cond.fieldLink RX5 28 "InvaderBoardModel" "code" "I", Cond.fieldLink RX5 175 "InvaderBoardModel" "states" "I", Cond.methodLink RX5 182 yX5_clear, Cond.instanceMethod yX5_clear, Cond.selects RX5 yX5_clear yX5_clear, Cond.initialized RX5, Cond.code yX5_clear cX5_clear 2 none, Cond.fieldLink RX5 16 "InvaderBoardModel" "reg" "[I", Cond.fieldLink RX5 44 "InvaderBoardModel" "sp" "I", Cond.fieldLink RX5 33 "InvaderBoardModel" "pc" "I", Cond.fieldLink RX5 157 "InvaderBoardModel" "shifter" "I", Cond.fieldLink RX5 160 "InvaderBoardModel" "offset" "I", Cond.fieldLink RX5 22 "InvaderBoardModel" "latch" "[I", Cond.fieldLink RX5 148 "InvaderBoardModel" "enabled" "Z", Cond.fieldLink RX5 154 "InvaderBoardModel" "soon" "Z", Cond.fieldLink RX5 151 "InvaderBoardModel" "due" "Z", Cond.fieldLink RX5 82 "InvaderBoardModel" "halted" "Z", Cond.fieldLink RX5 166 "InvaderBoardModel" "request" "I", Cond.fieldLink RX5 163 "InvaderBoardModel" "hunger" "I", Cond.methodLink RX5 139 yX5_setFlags, Cond.instanceMethod yX5_setFlags, Cond.selects RX5 yX5_setFlags yX5_setFlags, Cond.code yX5_setFlags cX5_setFlags 2 none, Cond.fieldLink RX5 54 "InvaderBoardModel" "sign" "I"]
def wsX5_reset_r2 : List Cond := [Cond.fieldLink RX5 57 "InvaderBoardModel" "zero" "I", Cond.fieldLink RX5 63 "InvaderBoardModel" "half" "I", Cond.fieldLink RX5 60 "InvaderBoardModel" "parity" "I", Cond.fieldLink RX5 66 "InvaderBoardModel" "carry" "I"]
def wsX5_reset : List Cond := .code yX5_reset cX5_reset 1 none :: ((wsX5_reset_r1 ++ wsX5_reset_r2) ++ wsX50)
def wsX5_load : List Cond := .code yX5_load cX5_load 5 (some .int) :: ([.fieldLink RX5 28 "InvaderBoardModel" "code" "I", .fieldLink RX5 7 "InvaderBoardModel" "rom" "[I"] ++ wsX50)
def wsX5_input : List Cond := .code yX5_input cX5_input 3 none :: ([.fieldLink RX5 28 "InvaderBoardModel" "code" "I", .fieldLink RX5 19 "InvaderBoardModel" "inputs" "[I"] ++ wsX50)
def wsX5_register : List Cond := .code yX5_register cX5_register 2 (some .int) :: ([.fieldLink RX5 28 "InvaderBoardModel" "code" "I", .fieldLink RX5 16 "InvaderBoardModel" "reg" "[I", .fieldLink RX5 44 "InvaderBoardModel" "sp" "I", .fieldLink RX5 33 "InvaderBoardModel" "pc" "I", .fieldLink RX5 148 "InvaderBoardModel" "enabled" "Z", .fieldLink RX5 82 "InvaderBoardModel" "halted" "Z", .methodLink RX5 133 yX5_flags, .instanceMethod yX5_flags, .selects RX5 yX5_flags yX5_flags, .initialized RX5, .code yX5_flags cX5_flags 1 (some .int), .fieldLink RX5 54 "InvaderBoardModel" "sign" "I", .fieldLink RX5 57 "InvaderBoardModel" "zero" "I", .fieldLink RX5 63 "InvaderBoardModel" "half" "I", .fieldLink RX5 60 "InvaderBoardModel" "parity" "I", .fieldLink RX5 66 "InvaderBoardModel" "carry" "I"] ++ wsX50)
def wsX5_memory : List Cond := .code yX5_memory cX5_memory 2 (some .int) :: ([.fieldLink RX5 28 "InvaderBoardModel" "code" "I", .methodLink RX5 36 yX5_read, .instanceMethod yX5_read, .selects RX5 yX5_read yX5_read, .initialized RX5, .code yX5_read cX5_read 4 (some .int), .constant RX5 32 (65535), .fieldLink RX5 13 "InvaderBoardModel" "ram" "[I", .fieldLink RX5 7 "InvaderBoardModel" "rom" "[I"] ++ wsX50)
def wsX5_poke : List Cond := .code yX5_poke cX5_poke 3 (some .int) :: ([.fieldLink RX5 28 "InvaderBoardModel" "code" "I", .methodLink RX5 47 yX5_write, .instanceMethod yX5_write, .selects RX5 yX5_write yX5_write, .initialized RX5, .code yX5_write cX5_write 4 none, .fieldLink RX5 13 "InvaderBoardModel" "ram" "[I", .methodLink RX5 36 yX5_read, .instanceMethod yX5_read, .selects RX5 yX5_read yX5_read, .code yX5_read cX5_read 4 (some .int), .constant RX5 32 (65535), .fieldLink RX5 7 "InvaderBoardModel" "rom" "[I"] ++ wsX50)
def wsX5_bit : List Cond := .code yX5_bit cX5_bit 3 (some .int) :: ([.fieldLink RX5 13 "InvaderBoardModel" "ram" "[I"] ++ wsX50)
def wsX5_dot : List Cond := .code yX5_dot cX5_dot 3 (some .int) :: ([.fieldLink RX5 28 "InvaderBoardModel" "code" "I", .methodLink RX5 189 yX5_bit, .instanceMethod yX5_bit, .selects RX5 yX5_bit yX5_bit, .initialized RX5, .code yX5_bit cX5_bit 3 (some .int), .fieldLink RX5 13 "InvaderBoardModel" "ram" "[I"] ++ wsX50)
def wsX5_lit : List Cond := .code yX5_lit cX5_lit 8 (some .int) :: ([.fieldLink RX5 28 "InvaderBoardModel" "code" "I", .methodLink RX5 189 yX5_bit, .instanceMethod yX5_bit, .selects RX5 yX5_bit yX5_bit, .initialized RX5, .code yX5_bit cX5_bit 3 (some .int), .fieldLink RX5 13 "InvaderBoardModel" "ram" "[I"] ++ wsX50)
def wsX5_state : List Cond := .code yX5_state cX5_state 2 (some .int) :: ([.fieldLink RX5 28 "InvaderBoardModel" "code" "I", .fieldLink RX5 22 "InvaderBoardModel" "latch" "[I", .fieldLink RX5 175 "InvaderBoardModel" "states" "I", .fieldLink RX5 179 "InvaderBoardModel" "frames" "I", .fieldLink RX5 166 "InvaderBoardModel" "request" "I", .fieldLink RX5 163 "InvaderBoardModel" "hunger" "I", .methodLink RX5 145 yX5_in, .instanceMethod yX5_in, .selects RX5 yX5_in yX5_in, .initialized RX5, .code yX5_in cX5_in 2 (some .int), .fieldLink RX5 19 "InvaderBoardModel" "inputs" "[I", .fieldLink RX5 157 "InvaderBoardModel" "shifter" "I", .fieldLink RX5 160 "InvaderBoardModel" "offset" "I"] ++ wsX50)
def wsX5_sounds : List Cond := .code yX5_sounds cX5_sounds 2 (some .int) :: ([.fieldLink RX5 28 "InvaderBoardModel" "code" "I", .fieldLink RX5 25 "InvaderBoardModel" "edges" "[I"] ++ wsX50)
def wsJ9_max_7cf53 : List Cond := .code yJ9_max_7cf53 cJ9_max_7cf53 2 (some .int) :: ([])
def wsJ9_max_f86c9 : List Cond := .code yJ9_max_f86c9 cJ9_max_f86c9 4 (some .long) :: ([])
def wsJ9_min_7cf53 : List Cond := .code yJ9_min_7cf53 cJ9_min_7cf53 2 (some .int) :: ([])
def wsJ9_min_f86c9 : List Cond := .code yJ9_min_f86c9 cJ9_min_f86c9 4 (some .long) :: ([])
def wsL_load : List Cond := .codeWith yL_load cL_load 6 (some .int) [(0, 12, 15, 13)] :: ([.classLink RL 13 "java/lang/IllegalArgumentException", .methodLink RL 7 yX4_load, .instanceMethod yX4_load, .selects RX4 yX4_load yX4_load, .initialized RX4, .code yX4_load cX4_load 5 (some .int), .classLink RX4 39 "java/lang/IllegalArgumentException", .initialized "java/lang/IllegalArgumentException", .fieldLink RX4 10 "InvaderBoard" "store" "LInvaderBoard$Memory;", .methodLink RX4 48 yX1_burn, .instanceMethod yX1_burn, .selects RX1 yX1_burn yX1_burn, .initialized RX1, .code yX1_burn cX1_burn 3 none, .fieldLink RX1 9 "InvaderBoard$Memory" "rom" "[I"] ++ wsX40 ++ wsX10 ++ (vx_atS RX4 43 "java/lang/IllegalArgumentException" ["java/lang/RuntimeException", "java/lang/Exception"]).filter goodWord)
def wsL_input : List Cond := .codeWith yL_input cL_input 4 (some .int) [(0, 6, 9, 13)] :: ([.classLink RL 13 "java/lang/IllegalArgumentException", .methodLink RL 15 yX4_input, .instanceMethod yX4_input, .selects RX4 yX4_input yX4_input, .initialized RX4, .code yX4_input cX4_input 3 none, .classLink RX4 39 "java/lang/IllegalArgumentException", .initialized "java/lang/IllegalArgumentException", .fieldLink RX4 19 "InvaderBoard" "ports" "LInvaderBoard$Ports;", .methodLink RX4 60 yX2_setInput, .instanceMethod yX2_setInput, .selects RX2 yX2_setInput yX2_setInput, .initialized RX2, .code yX2_setInput cX2_setInput 3 none, .fieldLink RX2 9 "InvaderBoard$Ports" "inputs" "[I"] ++ wsX40 ++ wsX20 ++ (vx_atS RX4 43 "java/lang/IllegalArgumentException" ["java/lang/RuntimeException", "java/lang/Exception"]).filter goodWord)
def wsL_run_r1 : List Cond := [Cond.classLink RL 13 "java/lang/IllegalArgumentException", Cond.methodLink RL 19 yX4_run, Cond.instanceMethod yX4_run, Cond.selects RX4 yX4_run yX4_run, Cond.initialized RX4, Cond.code yX4_run cX4_run 4 (some .int), Cond.classLink RX4 39 "java/lang/IllegalArgumentException", Cond.initialized "java/lang/IllegalArgumentException", Cond.constant RX4 67 (40000), Cond.methodLink RX4 63 yX4_advance, Cond.instanceMethod yX4_advance, Cond.selects RX4 yX4_advance yX4_advance, Cond.code yX4_advance cX4_advance 3 (some .int), Cond.fieldLink RX4 28 "InvaderBoard" "processor" "LInvaderBoard$Processor;", Cond.fieldLink RX4 35 "InvaderBoard" "frames" "LInvaderBoard$Frames;", Cond.methodLink RX4 137 Lib.Math.min.name, Cond.static Lib.Math.min.name, Cond.initialized "java/lang/Math", Cond.code Lib.Math.min.name Lib.Math.min.code 2 (some .int), Cond.fieldLink RX4 19 "InvaderBoard" "ports" "LInvaderBoard$Ports;", Cond.methodLink RX4 125 yX0_takeWaiting, Cond.instanceMethod yX0_takeWaiting, Cond.selects RX0 yX0_takeWaiting yX0_takeWaiting, Cond.initialized RX0]
def wsL_run_r2 : List Cond := [Cond.code yX0_takeWaiting cX0_takeWaiting 2 (some .int), Cond.fieldLink RX0 13 "InvaderBoard$Frames" "waiting" "I", Cond.methodLink RX4 128 yX3_takeRequest, Cond.instanceMethod yX3_takeRequest, Cond.selects RX3 yX3_takeRequest yX3_takeRequest, Cond.initialized RX3, Cond.code yX3_takeRequest cX3_takeRequest 2 (some .int), Cond.fieldLink RX3 31 "InvaderBoard$Processor" "enabled" "Z", Cond.fieldLink RX3 38 "InvaderBoard$Processor" "halted" "Z", Cond.fieldLink RX3 28 "InvaderBoard$Processor" "pc" "I", Cond.methodLink RX3 41 yX3_push, Cond.instanceMethod yX3_push, Cond.selects RX3 yX3_push yX3_push, Cond.code yX3_push cX3_push 2 none, Cond.fieldLink RX3 25 "InvaderBoard$Processor" "sp" "I", Cond.constant RX3 184 (65535), Cond.fieldLink RX3 17 "InvaderBoard$Processor" "store" "LInvaderBoard$Memory;", Cond.methodLink RX3 131 yX1_writeWord, Cond.instanceMethod yX1_writeWord, Cond.selects RX1 yX1_writeWord yX1_writeWord, Cond.initialized RX1, Cond.code yX1_writeWord cX1_writeWord 3 none, Cond.methodLink RX1 21 yX1_write, Cond.instanceMethod yX1_write]
def wsL_run_r3 : List Cond := [Cond.selects RX1 yX1_write yX1_write, Cond.code yX1_write cX1_write 3 none, Cond.fieldLink RX1 13 "InvaderBoard$Memory" "ram" "[I", Cond.methodLink RX4 134 yX0_untilRequest, Cond.instanceMethod yX0_untilRequest, Cond.selects RX0 yX0_untilRequest yX0_untilRequest, Cond.code yX0_untilRequest cX0_untilRequest 1 (some .int), Cond.fieldLink RX0 7 "InvaderBoard$Frames" "gone" "I", Cond.constant RX0 16 (33333), Cond.methodLink RX4 143 yX3_execute, Cond.instanceMethod yX3_execute, Cond.selects RX3 yX3_execute yX3_execute, Cond.code yX3_execute cX3_execute 4 (some .int), Cond.fieldLink RX3 35 "InvaderBoard$Processor" "enabling" "Z", Cond.fieldLink RX3 49 "InvaderBoard$Processor" "STATES" "[I", Cond.methodLink RX3 45 yX3_fetch, Cond.instanceMethod yX3_fetch, Cond.selects RX3 yX3_fetch yX3_fetch, Cond.code yX3_fetch cX3_fetch 2 (some .int), Cond.methodLink RX3 128 yX1_read, Cond.instanceMethod yX1_read, Cond.selects RX1 yX1_read yX1_read, Cond.code yX1_read cX1_read 3 (some .int), Cond.constant RX1 16 (65535)]
def wsL_run_r4 : List Cond := [Cond.fieldLink RX1 9 "InvaderBoard$Memory" "rom" "[I", Cond.methodLink RX3 52 yX3_executeLow, Cond.instanceMethod yX3_executeLow, Cond.selects RX3 yX3_executeLow yX3_executeLow, Cond.code yX3_executeLow cX3_executeLow 5 none, Cond.methodLink RX3 69 yX3_pairOrSp, Cond.instanceMethod yX3_pairOrSp, Cond.selects RX3 yX3_pairOrSp yX3_pairOrSp, Cond.code yX3_pairOrSp cX3_pairOrSp 2 (some .int), Cond.methodLink RX3 120 yX3_pairAt, Cond.instanceMethod yX3_pairAt, Cond.selects RX3 yX3_pairAt yX3_pairAt, Cond.code yX3_pairAt cX3_pairAt 3 (some .int), Cond.fieldLink RX3 9 "InvaderBoard$Processor" "registers" "[I", Cond.methodLink RX3 72 yX3_addToHl, Cond.instanceMethod yX3_addToHl, Cond.selects RX3 yX3_addToHl yX3_addToHl, Cond.code yX3_addToHl cX3_addToHl 3 none, Cond.methodLink RX3 137 yX3_setPairAt, Cond.instanceMethod yX3_setPairAt, Cond.selects RX3 yX3_setPairAt yX3_setPairAt, Cond.code yX3_setPairAt cX3_setPairAt 4 none, Cond.methodLink RX3 146 yX3_setCarry, Cond.instanceMethod yX3_setCarry]
def wsL_run_r5 : List Cond := [Cond.selects RX3 yX3_setCarry yX3_setCarry, Cond.code yX3_setCarry cX3_setCarry 2 none, Cond.fieldLink RX3 13 "InvaderBoard$Processor" "flags" "I", Cond.methodLink RX3 75 yX3_fetchWord, Cond.instanceMethod yX3_fetchWord, Cond.selects RX3 yX3_fetchWord yX3_fetchWord, Cond.code yX3_fetchWord cX3_fetchWord 2 (some .int), Cond.methodLink RX3 134 yX1_readWord, Cond.instanceMethod yX1_readWord, Cond.selects RX1 yX1_readWord yX1_readWord, Cond.code yX1_readWord cX1_readWord 2 (some .int), Cond.methodLink RX1 17 yX1_read, Cond.methodLink RX3 78 yX3_setPairOrSp, Cond.instanceMethod yX3_setPairOrSp, Cond.selects RX3 yX3_setPairOrSp yX3_setPairOrSp, Cond.code yX3_setPairOrSp cX3_setPairOrSp 3 none, Cond.methodLink RX3 81 yX3_loadOrStore, Cond.instanceMethod yX3_loadOrStore, Cond.selects RX3 yX3_loadOrStore yX3_loadOrStore, Cond.code yX3_loadOrStore cX3_loadOrStore 2 none, Cond.methodLink RX3 123 yX1_write, Cond.methodLink RX3 58 yX3_operand, Cond.instanceMethod yX3_operand, Cond.selects RX3 yX3_operand yX3_operand]
def wsL_run_r6 : List Cond := [Cond.code yX3_operand cX3_operand 3 (some .int), Cond.methodLink RX3 84 yX3_increment, Cond.instanceMethod yX3_increment, Cond.selects RX3 yX3_increment yX3_increment, Cond.code yX3_increment cX3_increment 4 (some .int), Cond.methodLink RX3 149 yX3_flagsOf, Cond.static yX3_flagsOf, Cond.code yX3_flagsOf cX3_flagsOf 3 (some .int), Cond.methodLink RX3 179 yJ6_bitCount_0f7a4, Cond.static yJ6_bitCount_0f7a4, Cond.initialized RJ6, Cond.code yJ6_bitCount_0f7a4 cJ6_bitCount_0f7a4 1 (some .int), Cond.constant RJ6 265 (1431655765), Cond.constant RJ6 266 (858993459), Cond.constant RJ6 267 (252645135), Cond.methodLink RX3 87 yX3_setOperand, Cond.instanceMethod yX3_setOperand, Cond.selects RX3 yX3_setOperand yX3_setOperand, Cond.code yX3_setOperand cX3_setOperand 4 none, Cond.methodLink RX3 90 yX3_decrement, Cond.instanceMethod yX3_decrement, Cond.selects RX3 yX3_decrement yX3_decrement, Cond.code yX3_decrement cX3_decrement 4 (some .int), Cond.methodLink RX3 93 yX3_changeAccumulator]
def wsL_run_r7 : List Cond := [Cond.instanceMethod yX3_changeAccumulator, Cond.selects RX3 yX3_changeAccumulator yX3_changeAccumulator, Cond.code yX3_changeAccumulator cX3_changeAccumulator 4 none, Cond.methodLink RX3 140 yX3_setRotated, Cond.instanceMethod yX3_setRotated, Cond.selects RX3 yX3_setRotated yX3_setRotated, Cond.code yX3_setRotated cX3_setRotated 3 none, Cond.methodLink RX3 143 yX3_adjustDecimal, Cond.instanceMethod yX3_adjustDecimal, Cond.selects RX3 yX3_adjustDecimal yX3_adjustDecimal, Cond.code yX3_adjustDecimal cX3_adjustDecimal 5 none, Cond.methodLink RX3 55 yX3_executeMove, Cond.instanceMethod yX3_executeMove, Cond.selects RX3 yX3_executeMove yX3_executeMove, Cond.code yX3_executeMove cX3_executeMove 4 none, Cond.methodLink RX3 62 yX3_calculate, Cond.instanceMethod yX3_calculate, Cond.selects RX3 yX3_calculate yX3_calculate, Cond.code yX3_calculate cX3_calculate 5 none, Cond.methodLink RX3 172 yX3_add, Cond.instanceMethod yX3_add, Cond.selects RX3 yX3_add yX3_add, Cond.code yX3_add cX3_add 8 (some .int), Cond.methodLink RX3 176 yX3_setLogical]
def wsL_run_r8 : List Cond := [Cond.instanceMethod yX3_setLogical, Cond.selects RX3 yX3_setLogical yX3_setLogical, Cond.code yX3_setLogical cX3_setLogical 3 none, Cond.methodLink RX3 66 yX3_executeHigh, Cond.instanceMethod yX3_executeHigh, Cond.selects RX3 yX3_executeHigh yX3_executeHigh, Cond.code yX3_executeHigh cX3_executeHigh 3 (some .int), Cond.methodLink RX3 96 yX3_holds, Cond.instanceMethod yX3_holds, Cond.selects RX3 yX3_holds yX3_holds, Cond.code yX3_holds cX3_holds 4 (some .boolean), Cond.methodLink RX3 100 yX3_returnIf, Cond.instanceMethod yX3_returnIf, Cond.selects RX3 yX3_returnIf yX3_returnIf, Cond.code yX3_returnIf cX3_returnIf 2 (some .int), Cond.methodLink RX3 166 yX3_pop, Cond.instanceMethod yX3_pop, Cond.selects RX3 yX3_pop yX3_pop, Cond.code yX3_pop cX3_pop 2 (some .int), Cond.methodLink RX3 104 yX3_popOrReturn, Cond.instanceMethod yX3_popOrReturn, Cond.selects RX3 yX3_popOrReturn yX3_popOrReturn, Cond.code yX3_popOrReturn cX3_popOrReturn 2 none, Cond.methodLink RX3 169 yX3_setStatusWord]
def wsL_run_r9 : List Cond := [Cond.instanceMethod yX3_setStatusWord, Cond.selects RX3 yX3_setStatusWord yX3_setStatusWord, Cond.code yX3_setStatusWord cX3_setStatusWord 2 none, Cond.methodLink RX3 107 yX3_jumpIf, Cond.instanceMethod yX3_jumpIf, Cond.selects RX3 yX3_jumpIf yX3_jumpIf, Cond.code yX3_jumpIf cX3_jumpIf 3 none, Cond.methodLink RX3 111 yX3_executeSingle, Cond.instanceMethod yX3_executeSingle, Cond.selects RX3 yX3_executeSingle yX3_executeSingle, Cond.code yX3_executeSingle cX3_executeSingle 2 none, Cond.fieldLink RX3 21 "InvaderBoard$Processor" "ports" "LInvaderBoard$Ports;", Cond.methodLink RX3 152 yX2_out, Cond.instanceMethod yX2_out, Cond.selects RX2 yX2_out yX2_out, Cond.initialized RX2, Cond.code yX2_out cX2_out 3 none, Cond.fieldLink RX2 23 "InvaderBoard$Ports" "offset" "I", Cond.fieldLink RX2 19 "InvaderBoard$Ports" "shifter" "I", Cond.fieldLink RX2 26 "InvaderBoard$Ports" "framesUnfed" "I", Cond.methodLink RX2 33 yX2_setLatch, Cond.instanceMethod yX2_setLatch, Cond.selects RX2 yX2_setLatch yX2_setLatch, Cond.code yX2_setLatch cX2_setLatch 5 none]
def wsL_run_r10 : List Cond := [Cond.fieldLink RX2 13 "InvaderBoard$Ports" "latches" "[I", Cond.fieldLink RX2 16 "InvaderBoard$Ports" "rises" "[I", Cond.methodLink RX3 157 yX2_in, Cond.instanceMethod yX2_in, Cond.selects RX2 yX2_in yX2_in, Cond.code yX2_in cX2_in 2 (some .int), Cond.fieldLink RX2 9 "InvaderBoard$Ports" "inputs" "[I", Cond.methodLink RX2 29 yX2_shifted, Cond.instanceMethod yX2_shifted, Cond.selects RX2 yX2_shifted yX2_shifted, Cond.code yX2_shifted cX2_shifted 1 (some .int), Cond.methodLink RX3 160 yX3_exchangeTop, Cond.instanceMethod yX3_exchangeTop, Cond.selects RX3 yX3_exchangeTop yX3_exchangeTop, Cond.code yX3_exchangeTop cX3_exchangeTop 3 (some .int), Cond.methodLink RX3 163 yX3_exchangePairs, Cond.instanceMethod yX3_exchangePairs, Cond.selects RX3 yX3_exchangePairs yX3_exchangePairs, Cond.code yX3_exchangePairs cX3_exchangePairs 2 none, Cond.methodLink RX3 114 yX3_callIf, Cond.instanceMethod yX3_callIf, Cond.selects RX3 yX3_callIf yX3_callIf, Cond.code yX3_callIf cX3_callIf 3 (some .int), Cond.methodLink RX3 117 yX3_statusWord]
def wsL_run_r11 : List Cond := [Cond.instanceMethod yX3_statusWord, Cond.selects RX3 yX3_statusWord yX3_statusWord, Cond.code yX3_statusWord cX3_statusWord 1 (some .int), Cond.methodLink RX4 146 yX0_pass, Cond.instanceMethod yX0_pass, Cond.selects RX0 yX0_pass yX0_pass, Cond.code yX0_pass cX0_pass 3 (some .boolean), Cond.fieldLink RX0 17 "InvaderBoard$Frames" "ended" "I", Cond.methodLink RX4 150 yX2_endFrameUnfed, Cond.instanceMethod yX2_endFrameUnfed, Cond.selects RX2 yX2_endFrameUnfed yX2_endFrameUnfed, Cond.code yX2_endFrameUnfed cX2_endFrameUnfed 1 (some .boolean), Cond.methodLink RX4 52 yX4_resetParts, Cond.instanceMethod yX4_resetParts, Cond.selects RX4 yX4_resetParts yX4_resetParts, Cond.code yX4_resetParts cX4_resetParts 1 none, Cond.methodLink RX4 154 yX3_clear, Cond.instanceMethod yX3_clear, Cond.selects RX3 yX3_clear yX3_clear, Cond.code yX3_clear cX3_clear 2 none, Cond.methodLink RX4 157 yX2_clear, Cond.instanceMethod yX2_clear, Cond.selects RX2 yX2_clear yX2_clear, Cond.code yX2_clear cX2_clear 1 none]
def wsL_run_r12 : List Cond := [Cond.methodLink RX4 158 yX0_dropWaiting, Cond.instanceMethod yX0_dropWaiting, Cond.selects RX0 yX0_dropWaiting yX0_dropWaiting, Cond.code yX0_dropWaiting cX0_dropWaiting 1 none]
def wsL_run : List Cond := .codeWith yL_run cL_run 4 (some .int) [(0, 9, 12, 13)] :: ((wsL_run_r1 ++ (wsL_run_r2 ++ (wsL_run_r3 ++ (wsL_run_r4 ++ (wsL_run_r5 ++ (wsL_run_r6 ++ (wsL_run_r7 ++ (wsL_run_r8 ++ (wsL_run_r9 ++ (wsL_run_r10 ++ (wsL_run_r11 ++ wsL_run_r12))))))))))) ++ wsX40 ++ wsX30 ++ wsX00 ++ wsX10 ++ wsX20 ++ (vx_atS RX4 43 "java/lang/IllegalArgumentException" ["java/lang/RuntimeException", "java/lang/Exception"]).filter goodWord)
def wsL_register : List Cond := .codeWith yL_register cL_register 4 (some .int) [(0, 9, 12, 13)] :: ([.classLink RL 13 "java/lang/IllegalArgumentException", .methodLink RL 23 yX4_register, .instanceMethod yX4_register, .selects RX4 yX4_register yX4_register, .initialized RX4, .code yX4_register cX4_register 2 (some .int), .classLink RX4 39 "java/lang/IllegalArgumentException", .initialized "java/lang/IllegalArgumentException", .fieldLink RX4 28 "InvaderBoard" "processor" "LInvaderBoard$Processor;", .methodLink RX4 72 yX3_contentOf, .instanceMethod yX3_contentOf, .selects RX3 yX3_contentOf yX3_contentOf, .initialized RX3, .code yX3_contentOf cX3_contentOf 2 (some .int), .fieldLink RX3 13 "InvaderBoard$Processor" "flags" "I", .fieldLink RX3 25 "InvaderBoard$Processor" "sp" "I", .fieldLink RX3 28 "InvaderBoard$Processor" "pc" "I", .fieldLink RX3 31 "InvaderBoard$Processor" "enabled" "Z", .fieldLink RX3 38 "InvaderBoard$Processor" "halted" "Z", .fieldLink RX3 9 "InvaderBoard$Processor" "registers" "[I"] ++ wsX40 ++ wsX30 ++ (vx_atS RX4 43 "java/lang/IllegalArgumentException" ["java/lang/RuntimeException", "java/lang/Exception"]).filter goodWord)
def wsL_dot_r1 : List Cond := [Cond.classLink RL 30 "java/lang/IndexOutOfBoundsException", Cond.methodLink RL 26 yX4_dot, Cond.instanceMethod yX4_dot, Cond.selects RX4 yX4_dot yX4_dot, Cond.initialized RX4, Cond.code yX4_dot cX4_dot 3 (some .int), Cond.classLink RX4 81 "java/lang/IndexOutOfBoundsException", Cond.initialized "java/lang/IndexOutOfBoundsException", Cond.fieldLink RX4 10 "InvaderBoard" "store" "LInvaderBoard$Memory;", Cond.methodLink RX4 86 yX1_dotsInColumn, Cond.instanceMethod yX1_dotsInColumn, Cond.selects RX1 yX1_dotsInColumn yX1_dotsInColumn, Cond.initialized RX1, Cond.code yX1_dotsInColumn cX1_dotsInColumn 11 (some .int), Cond.methodLink RX1 25 Lib.Math.max.name, Cond.static Lib.Math.max.name, Cond.initialized "java/lang/Math", Cond.code Lib.Math.max.name Lib.Math.max.code 2 (some .int), Cond.methodLink RX1 31 Lib.Math.min.name, Cond.static Lib.Math.min.name, Cond.code Lib.Math.min.name Lib.Math.min.code 2 (some .int), Cond.methodLink RX1 17 yX1_read, Cond.instanceMethod yX1_read, Cond.selects RX1 yX1_read yX1_read]
def wsL_dot_r2 : List Cond := [Cond.code yX1_read cX1_read 3 (some .int), Cond.fieldLink RX1 13 "InvaderBoard$Memory" "ram" "[I", Cond.constant RX1 16 (65535), Cond.fieldLink RX1 9 "InvaderBoard$Memory" "rom" "[I", Cond.methodLink RX1 34 yJ6_bitCount_0f7a4, Cond.static yJ6_bitCount_0f7a4, Cond.initialized RJ6, Cond.code yJ6_bitCount_0f7a4 cJ6_bitCount_0f7a4 1 (some .int), Cond.constant RJ6 265 (1431655765), Cond.constant RJ6 266 (858993459), Cond.constant RJ6 267 (252645135)]
def wsL_dot : List Cond := .codeWith yL_dot cL_dot 5 (some .int) [(0, 10, 13, 30)] :: ((wsL_dot_r1 ++ wsL_dot_r2) ++ wsX40 ++ wsX10 ++ (vx_atS RX4 85 "java/lang/IndexOutOfBoundsException" ["java/lang/RuntimeException", "java/lang/Exception"]).filter goodWord)
def wsL_state : List Cond := .codeWith yL_state cL_state 4 (some .int) [(0, 9, 12, 13)] :: ([.classLink RL 13 "java/lang/IllegalArgumentException", .methodLink RL 32 yX4_state, .instanceMethod yX4_state, .selects RX4 yX4_state yX4_state, .initialized RX4, .code yX4_state cX4_state 2 (some .int), .classLink RX4 39 "java/lang/IllegalArgumentException", .initialized "java/lang/IllegalArgumentException", .fieldLink RX4 19 "InvaderBoard" "ports" "LInvaderBoard$Ports;", .fieldLink RX4 35 "InvaderBoard" "frames" "LInvaderBoard$Frames;", .methodLink RX4 94 yX2_latchOf, .instanceMethod yX2_latchOf, .selects RX2 yX2_latchOf yX2_latchOf, .initialized RX2, .code yX2_latchOf cX2_latchOf 2 (some .int), .fieldLink RX2 13 "InvaderBoard$Ports" "latches" "[I", .methodLink RX4 110 yX2_shifted, .instanceMethod yX2_shifted, .selects RX2 yX2_shifted yX2_shifted, .code yX2_shifted cX2_shifted 1 (some .int), .fieldLink RX2 19 "InvaderBoard$Ports" "shifter" "I", .fieldLink RX2 23 "InvaderBoard$Ports" "offset" "I"] ++ wsX40 ++ wsX00 ++ wsX20 ++ (vx_atS RX4 43 "java/lang/IllegalArgumentException" ["java/lang/RuntimeException", "java/lang/Exception"]).filter goodWord)
def wsL_sounds : List Cond := .codeWith yL_sounds cL_sounds 4 (some .int) [(0, 9, 12, 13)] :: ([.classLink RL 13 "java/lang/IllegalArgumentException", .methodLink RL 35 yX4_sounds, .instanceMethod yX4_sounds, .selects RX4 yX4_sounds yX4_sounds, .initialized RX4, .code yX4_sounds cX4_sounds 2 (some .int), .classLink RX4 39 "java/lang/IllegalArgumentException", .initialized "java/lang/IllegalArgumentException", .fieldLink RX4 19 "InvaderBoard" "ports" "LInvaderBoard$Ports;", .methodLink RX4 118 yX2_risesOf, .instanceMethod yX2_risesOf, .selects RX2 yX2_risesOf yX2_risesOf, .initialized RX2, .code yX2_risesOf cX2_risesOf 2 (some .int), .fieldLink RX2 16 "InvaderBoard$Ports" "rises" "[I"] ++ wsX40 ++ wsX20 ++ (vx_atS RX4 43 "java/lang/IllegalArgumentException" ["java/lang/RuntimeException", "java/lang/Exception"]).filter goodWord)
def wsL_law0_r1 : List Cond := [Cond.classLink RL 8 RX4, Cond.instantiable RX4 4, Cond.initialized RX4, Cond.classLink RL 39 RX5, Cond.instantiable RX5 24, Cond.initialized RX5, Cond.arrayClass .long, Cond.methodLink RL 38 yX4_init, Cond.instanceMethod yX4_init, Cond.code yX4_init cX4_init 1 none, Cond.methodLink RX4 1 objectInit, Cond.instanceMethod objectInit, Cond.code objectInit ⟨#[0xb1]⟩ 1 none, Cond.classLink RX4 7 RX1, Cond.instantiable RX1 2, Cond.initialized RX1, Cond.fieldLink RX4 10 "InvaderBoard" "store" "LInvaderBoard$Memory;", Cond.classLink RX4 16 RX2, Cond.instantiable RX2 6, Cond.initialized RX2, Cond.fieldLink RX4 19 "InvaderBoard" "ports" "LInvaderBoard$Ports;", Cond.classLink RX4 23 RX3, Cond.instantiable RX3 9, Cond.initialized RX3]
def wsL_law0_r2 : List Cond := [Cond.fieldLink RX4 28 "InvaderBoard" "processor" "LInvaderBoard$Processor;", Cond.classLink RX4 32 RX0, Cond.instantiable RX0 3, Cond.initialized RX0, Cond.fieldLink RX4 35 "InvaderBoard" "frames" "LInvaderBoard$Frames;", Cond.instanceMethod yX1_init, Cond.code yX1_init cX1_init 1 none, Cond.methodLink RX1 1 objectInit, Cond.arrayClass .int, Cond.fieldLink RX1 9 "InvaderBoard$Memory" "rom" "[I", Cond.fieldLink RX1 13 "InvaderBoard$Memory" "ram" "[I", Cond.instanceMethod yX2_init, Cond.code yX2_init cX2_init 1 none, Cond.methodLink RX2 1 objectInit, Cond.fieldLink RX2 9 "InvaderBoard$Ports" "inputs" "[I", Cond.fieldLink RX2 13 "InvaderBoard$Ports" "latches" "[I", Cond.fieldLink RX2 16 "InvaderBoard$Ports" "rises" "[I", Cond.methodLink RX4 25 yX3_init, Cond.instanceMethod yX3_init, Cond.code yX3_init cX3_init 3 none, Cond.methodLink RX3 3 objectInit, Cond.fieldLink RX3 9 "InvaderBoard$Processor" "registers" "[I", Cond.fieldLink RX3 13 "InvaderBoard$Processor" "flags" "I", Cond.fieldLink RX3 17 "InvaderBoard$Processor" "store" "LInvaderBoard$Memory;"]
def wsL_law0_r3 : List Cond := [Cond.fieldLink RX3 21 "InvaderBoard$Processor" "ports" "LInvaderBoard$Ports;", Cond.instanceMethod yX0_init, Cond.code yX0_init cX0_init 1 none, Cond.methodLink RX0 1 objectInit, Cond.methodLink RL 41 yX5_init, Cond.instanceMethod yX5_init, Cond.code yX5_init cX5_init 1 none, Cond.methodLink RX5 1 objectInit, Cond.fieldLink RX5 7 "InvaderBoardModel" "rom" "[I", Cond.fieldLink RX5 13 "InvaderBoardModel" "ram" "[I", Cond.fieldLink RX5 16 "InvaderBoardModel" "reg" "[I", Cond.fieldLink RX5 19 "InvaderBoardModel" "inputs" "[I", Cond.fieldLink RX5 22 "InvaderBoardModel" "latch" "[I", Cond.fieldLink RX5 25 "InvaderBoardModel" "edges" "[I", Cond.methodLink RL 42 yL_load, Cond.static yL_load, Cond.initialized RL, Cond.codeWith yL_load cL_load 6 (some .int) [(0, 12, 15, 13)], Cond.classLink RL 13 "java/lang/IllegalArgumentException", Cond.methodLink RL 7 yX4_load, Cond.instanceMethod yX4_load, Cond.selects RX4 yX4_load yX4_load, Cond.code yX4_load cX4_load 5 (some .int), Cond.classLink RX4 39 "java/lang/IllegalArgumentException"]
def wsL_law0_r4 : List Cond := [Cond.initialized "java/lang/IllegalArgumentException", Cond.methodLink RX4 48 yX1_burn, Cond.instanceMethod yX1_burn, Cond.selects RX1 yX1_burn yX1_burn, Cond.code yX1_burn cX1_burn 3 none, Cond.methodLink RL 47 yX5_load, Cond.instanceMethod yX5_load, Cond.selects RX5 yX5_load yX5_load, Cond.code yX5_load cX5_load 5 (some .int), Cond.fieldLink RX5 28 "InvaderBoardModel" "code" "I", Cond.methodLink RL 48 yX5_thrown, Cond.instanceMethod yX5_thrown, Cond.selects RX5 yX5_thrown yX5_thrown, Cond.code yX5_thrown cX5_thrown 1 (some .int), Cond.methodLink RL 52 yX4_reset, Cond.instanceMethod yX4_reset, Cond.selects RX4 yX4_reset yX4_reset, Cond.code yX4_reset cX4_reset 1 none, Cond.methodLink RX4 52 yX4_resetParts, Cond.instanceMethod yX4_resetParts, Cond.selects RX4 yX4_resetParts yX4_resetParts, Cond.code yX4_resetParts cX4_resetParts 1 none, Cond.methodLink RX4 154 yX3_clear, Cond.instanceMethod yX3_clear]
def wsL_law0_r5 : List Cond := [Cond.selects RX3 yX3_clear yX3_clear, Cond.code yX3_clear cX3_clear 2 none, Cond.fieldLink RX3 25 "InvaderBoard$Processor" "sp" "I", Cond.fieldLink RX3 28 "InvaderBoard$Processor" "pc" "I", Cond.fieldLink RX3 31 "InvaderBoard$Processor" "enabled" "Z", Cond.fieldLink RX3 35 "InvaderBoard$Processor" "enabling" "Z", Cond.fieldLink RX3 38 "InvaderBoard$Processor" "halted" "Z", Cond.methodLink RX4 157 yX2_clear, Cond.instanceMethod yX2_clear, Cond.selects RX2 yX2_clear yX2_clear, Cond.code yX2_clear cX2_clear 1 none, Cond.fieldLink RX2 19 "InvaderBoard$Ports" "shifter" "I", Cond.fieldLink RX2 23 "InvaderBoard$Ports" "offset" "I", Cond.fieldLink RX2 26 "InvaderBoard$Ports" "framesUnfed" "I", Cond.methodLink RX4 158 yX0_dropWaiting, Cond.instanceMethod yX0_dropWaiting, Cond.selects RX0 yX0_dropWaiting yX0_dropWaiting, Cond.code yX0_dropWaiting cX0_dropWaiting 1 none, Cond.fieldLink RX0 13 "InvaderBoard$Frames" "waiting" "I", Cond.methodLink RX4 55 yX0_beginAnew, Cond.instanceMethod yX0_beginAnew, Cond.selects RX0 yX0_beginAnew yX0_beginAnew, Cond.code yX0_beginAnew cX0_beginAnew 1 none, Cond.fieldLink RX0 7 "InvaderBoard$Frames" "gone" "I"]
def wsL_law0_r6 : List Cond := [Cond.methodLink RL 55 yX5_reset, Cond.instanceMethod yX5_reset, Cond.selects RX5 yX5_reset yX5_reset, Cond.code yX5_reset cX5_reset 1 none, Cond.fieldLink RX5 175 "InvaderBoardModel" "states" "I", Cond.methodLink RX5 182 yX5_clear, Cond.instanceMethod yX5_clear, Cond.selects RX5 yX5_clear yX5_clear, Cond.code yX5_clear cX5_clear 2 none, Cond.fieldLink RX5 44 "InvaderBoardModel" "sp" "I", Cond.fieldLink RX5 33 "InvaderBoardModel" "pc" "I", Cond.fieldLink RX5 157 "InvaderBoardModel" "shifter" "I", Cond.fieldLink RX5 160 "InvaderBoardModel" "offset" "I", Cond.fieldLink RX5 148 "InvaderBoardModel" "enabled" "Z", Cond.fieldLink RX5 154 "InvaderBoardModel" "soon" "Z", Cond.fieldLink RX5 151 "InvaderBoardModel" "due" "Z", Cond.fieldLink RX5 82 "InvaderBoardModel" "halted" "Z", Cond.fieldLink RX5 166 "InvaderBoardModel" "request" "I", Cond.fieldLink RX5 163 "InvaderBoardModel" "hunger" "I", Cond.methodLink RX5 139 yX5_setFlags, Cond.instanceMethod yX5_setFlags, Cond.selects RX5 yX5_setFlags yX5_setFlags, Cond.code yX5_setFlags cX5_setFlags 2 none, Cond.fieldLink RX5 54 "InvaderBoardModel" "sign" "I"]
def wsL_law0_r7 : List Cond := [Cond.fieldLink RX5 57 "InvaderBoardModel" "zero" "I", Cond.fieldLink RX5 63 "InvaderBoardModel" "half" "I", Cond.fieldLink RX5 60 "InvaderBoardModel" "parity" "I", Cond.fieldLink RX5 66 "InvaderBoardModel" "carry" "I", Cond.methodLink RL 56 yL_input, Cond.static yL_input, Cond.codeWith yL_input cL_input 4 (some .int) [(0, 6, 9, 13)], Cond.methodLink RL 15 yX4_input, Cond.instanceMethod yX4_input, Cond.selects RX4 yX4_input yX4_input, Cond.code yX4_input cX4_input 3 none, Cond.methodLink RX4 60 yX2_setInput, Cond.instanceMethod yX2_setInput, Cond.selects RX2 yX2_setInput yX2_setInput, Cond.code yX2_setInput cX2_setInput 3 none, Cond.methodLink RL 59 yX5_input, Cond.instanceMethod yX5_input, Cond.selects RX5 yX5_input yX5_input, Cond.code yX5_input cX5_input 3 none, Cond.methodLink RL 60 yX4_step, Cond.instanceMethod yX4_step, Cond.selects RX4 yX4_step yX4_step, Cond.code yX4_step cX4_step 1 (some .int), Cond.methodLink RX4 63 yX4_advance]
def wsL_law0_r8 : List Cond := [Cond.instanceMethod yX4_advance, Cond.selects RX4 yX4_advance yX4_advance, Cond.code yX4_advance cX4_advance 3 (some .int), Cond.methodLink RX4 137 Lib.Math.min.name, Cond.static Lib.Math.min.name, Cond.initialized "java/lang/Math", Cond.code Lib.Math.min.name Lib.Math.min.code 2 (some .int), Cond.methodLink RX4 125 yX0_takeWaiting, Cond.instanceMethod yX0_takeWaiting, Cond.selects RX0 yX0_takeWaiting yX0_takeWaiting, Cond.code yX0_takeWaiting cX0_takeWaiting 2 (some .int), Cond.methodLink RX4 128 yX3_takeRequest, Cond.instanceMethod yX3_takeRequest, Cond.selects RX3 yX3_takeRequest yX3_takeRequest, Cond.code yX3_takeRequest cX3_takeRequest 2 (some .int), Cond.methodLink RX3 41 yX3_push, Cond.instanceMethod yX3_push, Cond.selects RX3 yX3_push yX3_push, Cond.code yX3_push cX3_push 2 none, Cond.constant RX3 184 (65535), Cond.methodLink RX3 131 yX1_writeWord, Cond.instanceMethod yX1_writeWord, Cond.selects RX1 yX1_writeWord yX1_writeWord, Cond.code yX1_writeWord cX1_writeWord 3 none]
def wsL_law0_r9 : List Cond := [Cond.methodLink RX1 21 yX1_write, Cond.instanceMethod yX1_write, Cond.selects RX1 yX1_write yX1_write, Cond.code yX1_write cX1_write 3 none, Cond.methodLink RX4 134 yX0_untilRequest, Cond.instanceMethod yX0_untilRequest, Cond.selects RX0 yX0_untilRequest yX0_untilRequest, Cond.code yX0_untilRequest cX0_untilRequest 1 (some .int), Cond.constant RX0 16 (33333), Cond.methodLink RX4 143 yX3_execute, Cond.instanceMethod yX3_execute, Cond.selects RX3 yX3_execute yX3_execute, Cond.code yX3_execute cX3_execute 4 (some .int), Cond.fieldLink RX3 49 "InvaderBoard$Processor" "STATES" "[I", Cond.methodLink RX3 45 yX3_fetch, Cond.instanceMethod yX3_fetch, Cond.selects RX3 yX3_fetch yX3_fetch, Cond.code yX3_fetch cX3_fetch 2 (some .int), Cond.methodLink RX3 128 yX1_read, Cond.instanceMethod yX1_read, Cond.selects RX1 yX1_read yX1_read, Cond.code yX1_read cX1_read 3 (some .int), Cond.constant RX1 16 (65535), Cond.methodLink RX3 52 yX3_executeLow]
def wsL_law0_r10 : List Cond := [Cond.instanceMethod yX3_executeLow, Cond.selects RX3 yX3_executeLow yX3_executeLow, Cond.code yX3_executeLow cX3_executeLow 5 none, Cond.methodLink RX3 69 yX3_pairOrSp, Cond.instanceMethod yX3_pairOrSp, Cond.selects RX3 yX3_pairOrSp yX3_pairOrSp, Cond.code yX3_pairOrSp cX3_pairOrSp 2 (some .int), Cond.methodLink RX3 120 yX3_pairAt, Cond.instanceMethod yX3_pairAt, Cond.selects RX3 yX3_pairAt yX3_pairAt, Cond.code yX3_pairAt cX3_pairAt 3 (some .int), Cond.methodLink RX3 72 yX3_addToHl, Cond.instanceMethod yX3_addToHl, Cond.selects RX3 yX3_addToHl yX3_addToHl, Cond.code yX3_addToHl cX3_addToHl 3 none, Cond.methodLink RX3 137 yX3_setPairAt, Cond.instanceMethod yX3_setPairAt, Cond.selects RX3 yX3_setPairAt yX3_setPairAt, Cond.code yX3_setPairAt cX3_setPairAt 4 none, Cond.methodLink RX3 146 yX3_setCarry, Cond.instanceMethod yX3_setCarry, Cond.selects RX3 yX3_setCarry yX3_setCarry, Cond.code yX3_setCarry cX3_setCarry 2 none, Cond.methodLink RX3 75 yX3_fetchWord]
def wsL_law0_r11 : List Cond := [Cond.instanceMethod yX3_fetchWord, Cond.selects RX3 yX3_fetchWord yX3_fetchWord, Cond.code yX3_fetchWord cX3_fetchWord 2 (some .int), Cond.methodLink RX3 134 yX1_readWord, Cond.instanceMethod yX1_readWord, Cond.selects RX1 yX1_readWord yX1_readWord, Cond.code yX1_readWord cX1_readWord 2 (some .int), Cond.methodLink RX1 17 yX1_read, Cond.methodLink RX3 78 yX3_setPairOrSp, Cond.instanceMethod yX3_setPairOrSp, Cond.selects RX3 yX3_setPairOrSp yX3_setPairOrSp, Cond.code yX3_setPairOrSp cX3_setPairOrSp 3 none, Cond.methodLink RX3 81 yX3_loadOrStore, Cond.instanceMethod yX3_loadOrStore, Cond.selects RX3 yX3_loadOrStore yX3_loadOrStore, Cond.code yX3_loadOrStore cX3_loadOrStore 2 none, Cond.methodLink RX3 123 yX1_write, Cond.methodLink RX3 58 yX3_operand, Cond.instanceMethod yX3_operand, Cond.selects RX3 yX3_operand yX3_operand, Cond.code yX3_operand cX3_operand 3 (some .int), Cond.methodLink RX3 84 yX3_increment, Cond.instanceMethod yX3_increment, Cond.selects RX3 yX3_increment yX3_increment]
def wsL_law0_r12 : List Cond := [Cond.code yX3_increment cX3_increment 4 (some .int), Cond.methodLink RX3 149 yX3_flagsOf, Cond.static yX3_flagsOf, Cond.code yX3_flagsOf cX3_flagsOf 3 (some .int), Cond.methodLink RX3 179 yJ6_bitCount_0f7a4, Cond.static yJ6_bitCount_0f7a4, Cond.initialized RJ6, Cond.code yJ6_bitCount_0f7a4 cJ6_bitCount_0f7a4 1 (some .int), Cond.constant RJ6 265 (1431655765), Cond.constant RJ6 266 (858993459), Cond.constant RJ6 267 (252645135), Cond.methodLink RX3 87 yX3_setOperand, Cond.instanceMethod yX3_setOperand, Cond.selects RX3 yX3_setOperand yX3_setOperand, Cond.code yX3_setOperand cX3_setOperand 4 none, Cond.methodLink RX3 90 yX3_decrement, Cond.instanceMethod yX3_decrement, Cond.selects RX3 yX3_decrement yX3_decrement, Cond.code yX3_decrement cX3_decrement 4 (some .int), Cond.methodLink RX3 93 yX3_changeAccumulator, Cond.instanceMethod yX3_changeAccumulator, Cond.selects RX3 yX3_changeAccumulator yX3_changeAccumulator, Cond.code yX3_changeAccumulator cX3_changeAccumulator 4 none, Cond.methodLink RX3 140 yX3_setRotated]
def wsL_law0_r13 : List Cond := [Cond.instanceMethod yX3_setRotated, Cond.selects RX3 yX3_setRotated yX3_setRotated, Cond.code yX3_setRotated cX3_setRotated 3 none, Cond.methodLink RX3 143 yX3_adjustDecimal, Cond.instanceMethod yX3_adjustDecimal, Cond.selects RX3 yX3_adjustDecimal yX3_adjustDecimal, Cond.code yX3_adjustDecimal cX3_adjustDecimal 5 none, Cond.methodLink RX3 55 yX3_executeMove, Cond.instanceMethod yX3_executeMove, Cond.selects RX3 yX3_executeMove yX3_executeMove, Cond.code yX3_executeMove cX3_executeMove 4 none, Cond.methodLink RX3 62 yX3_calculate, Cond.instanceMethod yX3_calculate, Cond.selects RX3 yX3_calculate yX3_calculate, Cond.code yX3_calculate cX3_calculate 5 none, Cond.methodLink RX3 172 yX3_add, Cond.instanceMethod yX3_add, Cond.selects RX3 yX3_add yX3_add, Cond.code yX3_add cX3_add 8 (some .int), Cond.methodLink RX3 176 yX3_setLogical, Cond.instanceMethod yX3_setLogical, Cond.selects RX3 yX3_setLogical yX3_setLogical, Cond.code yX3_setLogical cX3_setLogical 3 none, Cond.methodLink RX3 66 yX3_executeHigh]
def wsL_law0_r14 : List Cond := [Cond.instanceMethod yX3_executeHigh, Cond.selects RX3 yX3_executeHigh yX3_executeHigh, Cond.code yX3_executeHigh cX3_executeHigh 3 (some .int), Cond.methodLink RX3 96 yX3_holds, Cond.instanceMethod yX3_holds, Cond.selects RX3 yX3_holds yX3_holds, Cond.code yX3_holds cX3_holds 4 (some .boolean), Cond.methodLink RX3 100 yX3_returnIf, Cond.instanceMethod yX3_returnIf, Cond.selects RX3 yX3_returnIf yX3_returnIf, Cond.code yX3_returnIf cX3_returnIf 2 (some .int), Cond.methodLink RX3 166 yX3_pop, Cond.instanceMethod yX3_pop, Cond.selects RX3 yX3_pop yX3_pop, Cond.code yX3_pop cX3_pop 2 (some .int), Cond.methodLink RX3 104 yX3_popOrReturn, Cond.instanceMethod yX3_popOrReturn, Cond.selects RX3 yX3_popOrReturn yX3_popOrReturn, Cond.code yX3_popOrReturn cX3_popOrReturn 2 none, Cond.methodLink RX3 169 yX3_setStatusWord, Cond.instanceMethod yX3_setStatusWord, Cond.selects RX3 yX3_setStatusWord yX3_setStatusWord, Cond.code yX3_setStatusWord cX3_setStatusWord 2 none, Cond.methodLink RX3 107 yX3_jumpIf]
def wsL_law0_r15 : List Cond := [Cond.instanceMethod yX3_jumpIf, Cond.selects RX3 yX3_jumpIf yX3_jumpIf, Cond.code yX3_jumpIf cX3_jumpIf 3 none, Cond.methodLink RX3 111 yX3_executeSingle, Cond.instanceMethod yX3_executeSingle, Cond.selects RX3 yX3_executeSingle yX3_executeSingle, Cond.code yX3_executeSingle cX3_executeSingle 2 none, Cond.methodLink RX3 152 yX2_out, Cond.instanceMethod yX2_out, Cond.selects RX2 yX2_out yX2_out, Cond.code yX2_out cX2_out 3 none, Cond.methodLink RX2 33 yX2_setLatch, Cond.instanceMethod yX2_setLatch, Cond.selects RX2 yX2_setLatch yX2_setLatch, Cond.code yX2_setLatch cX2_setLatch 5 none, Cond.methodLink RX3 157 yX2_in, Cond.instanceMethod yX2_in, Cond.selects RX2 yX2_in yX2_in, Cond.code yX2_in cX2_in 2 (some .int), Cond.methodLink RX2 29 yX2_shifted, Cond.instanceMethod yX2_shifted, Cond.selects RX2 yX2_shifted yX2_shifted, Cond.code yX2_shifted cX2_shifted 1 (some .int), Cond.methodLink RX3 160 yX3_exchangeTop]
def wsL_law0_r16 : List Cond := [Cond.instanceMethod yX3_exchangeTop, Cond.selects RX3 yX3_exchangeTop yX3_exchangeTop, Cond.code yX3_exchangeTop cX3_exchangeTop 3 (some .int), Cond.methodLink RX3 163 yX3_exchangePairs, Cond.instanceMethod yX3_exchangePairs, Cond.selects RX3 yX3_exchangePairs yX3_exchangePairs, Cond.code yX3_exchangePairs cX3_exchangePairs 2 none, Cond.methodLink RX3 114 yX3_callIf, Cond.instanceMethod yX3_callIf, Cond.selects RX3 yX3_callIf yX3_callIf, Cond.code yX3_callIf cX3_callIf 3 (some .int), Cond.methodLink RX3 117 yX3_statusWord, Cond.instanceMethod yX3_statusWord, Cond.selects RX3 yX3_statusWord yX3_statusWord, Cond.code yX3_statusWord cX3_statusWord 1 (some .int), Cond.methodLink RX4 146 yX0_pass, Cond.instanceMethod yX0_pass, Cond.selects RX0 yX0_pass yX0_pass, Cond.code yX0_pass cX0_pass 3 (some .boolean), Cond.fieldLink RX0 17 "InvaderBoard$Frames" "ended" "I", Cond.methodLink RX4 150 yX2_endFrameUnfed, Cond.instanceMethod yX2_endFrameUnfed, Cond.selects RX2 yX2_endFrameUnfed yX2_endFrameUnfed, Cond.code yX2_endFrameUnfed cX2_endFrameUnfed 1 (some .boolean)]
def wsL_law0_r17 : List Cond := [Cond.methodLink RL 63 yX5_step, Cond.instanceMethod yX5_step, Cond.selects RX5 yX5_step yX5_step, Cond.code yX5_step cX5_step 3 (some .int), Cond.constant RX5 178 (33333), Cond.fieldLink RX5 179 "InvaderBoardModel" "frames" "I", Cond.methodLink RX5 172 yX5_worked, Cond.instanceMethod yX5_worked, Cond.selects RX5 yX5_worked yX5_worked, Cond.code yX5_worked cX5_worked 2 (some .int), Cond.methodLink RX5 136 yX5_push, Cond.instanceMethod yX5_push, Cond.selects RX5 yX5_push yX5_push, Cond.code yX5_push cX5_push 2 none, Cond.constant RX5 32 (65535), Cond.methodLink RX5 47 yX5_write, Cond.instanceMethod yX5_write, Cond.selects RX5 yX5_write yX5_write, Cond.code yX5_write cX5_write 4 none, Cond.methodLink RX5 169 yX5_one, Cond.instanceMethod yX5_one, Cond.selects RX5 yX5_one yX5_one, Cond.code yX5_one cX5_one 5 (some .int), Cond.methodLink RX5 40 yX5_next]
def wsL_law0_r18 : List Cond := [Cond.instanceMethod yX5_next, Cond.selects RX5 yX5_next yX5_next, Cond.code yX5_next cX5_next 2 (some .int), Cond.methodLink RX5 36 yX5_read, Cond.instanceMethod yX5_read, Cond.selects RX5 yX5_read yX5_read, Cond.code yX5_read cX5_read 4 (some .int), Cond.methodLink RX5 73 yX5_get, Cond.instanceMethod yX5_get, Cond.selects RX5 yX5_get yX5_get, Cond.code yX5_get cX5_get 2 (some .int), Cond.methodLink RX5 51 yX5_hl, Cond.instanceMethod yX5_hl, Cond.selects RX5 yX5_hl yX5_hl, Cond.code yX5_hl cX5_hl 1 (some .int), Cond.methodLink RX5 76 yX5_set, Cond.instanceMethod yX5_set, Cond.selects RX5 yX5_set yX5_set, Cond.code yX5_set cX5_set 3 none, Cond.methodLink RX5 86 yX5_alu, Cond.instanceMethod yX5_alu, Cond.selects RX5 yX5_alu yX5_alu, Cond.code yX5_alu cX5_alu 6 none, Cond.methodLink RX5 69 yX5_signs]
def wsL_law0_r19 : List Cond := [Cond.instanceMethod yX5_signs, Cond.selects RX5 yX5_signs yX5_signs, Cond.code yX5_signs cX5_signs 4 none, Cond.methodLink RX5 89 yX5_low, Cond.instanceMethod yX5_low, Cond.selects RX5 yX5_low yX5_low, Cond.code yX5_low cX5_low 6 (some .int), Cond.methodLink RX5 96 yX5_pair, Cond.instanceMethod yX5_pair, Cond.selects RX5 yX5_pair yX5_pair, Cond.code yX5_pair cX5_pair 2 (some .int), Cond.methodLink RX5 99 yX5_setPair, Cond.instanceMethod yX5_setPair, Cond.selects RX5 yX5_setPair yX5_setPair, Cond.code yX5_setPair cX5_setPair 3 none, Cond.methodLink RX5 102 yX5_nextTwo, Cond.instanceMethod yX5_nextTwo, Cond.selects RX5 yX5_nextTwo yX5_nextTwo, Cond.code yX5_nextTwo cX5_nextTwo 2 (some .int), Cond.methodLink RX5 105 yX5_moved, Cond.instanceMethod yX5_moved, Cond.selects RX5 yX5_moved yX5_moved, Cond.code yX5_moved cX5_moved 3 (some .int), Cond.methodLink RX5 108 yX5_count]
def wsL_law0_r20 : List Cond := [Cond.instanceMethod yX5_count, Cond.selects RX5 yX5_count yX5_count, Cond.code yX5_count cX5_count 4 none, Cond.methodLink RX5 111 yX5_turn, Cond.instanceMethod yX5_turn, Cond.selects RX5 yX5_turn yX5_turn, Cond.code yX5_turn cX5_turn 3 none, Cond.methodLink RX5 79 yX5_adjust, Cond.instanceMethod yX5_adjust, Cond.selects RX5 yX5_adjust yX5_adjust, Cond.code yX5_adjust cX5_adjust 4 none, Cond.methodLink RX5 93 yX5_high, Cond.instanceMethod yX5_high, Cond.selects RX5 yX5_high yX5_high, Cond.code yX5_high cX5_high 4 (some .int), Cond.methodLink RX5 114 yX5_holds, Cond.instanceMethod yX5_holds, Cond.selects RX5 yX5_holds yX5_holds, Cond.code yX5_holds cX5_holds 3 (some .boolean), Cond.methodLink RX5 118 yX5_pop, Cond.instanceMethod yX5_pop, Cond.selects RX5 yX5_pop yX5_pop, Cond.code yX5_pop cX5_pop 2 (some .int), Cond.methodLink RX5 121 yX5_popped]
def wsL_law0_r21 : List Cond := [Cond.instanceMethod yX5_popped, Cond.selects RX5 yX5_popped yX5_popped, Cond.code yX5_popped cX5_popped 3 (some .int), Cond.methodLink RX5 124 yX5_odd, Cond.instanceMethod yX5_odd, Cond.selects RX5 yX5_odd yX5_odd, Cond.code yX5_odd cX5_odd 2 (some .int), Cond.methodLink RX5 127 yX5_single, Cond.instanceMethod yX5_single, Cond.selects RX5 yX5_single yX5_single, Cond.code yX5_single cX5_single 3 (some .int), Cond.methodLink RX5 142 yX5_out, Cond.instanceMethod yX5_out, Cond.selects RX5 yX5_out yX5_out, Cond.code yX5_out cX5_out 5 none, Cond.methodLink RX5 145 yX5_in, Cond.instanceMethod yX5_in, Cond.selects RX5 yX5_in yX5_in, Cond.code yX5_in cX5_in 2 (some .int), Cond.methodLink RX5 130 yX5_call, Cond.instanceMethod yX5_call, Cond.selects RX5 yX5_call yX5_call, Cond.code yX5_call cX5_call 2 (some .int), Cond.methodLink RX5 133 yX5_flags]
def wsL_law0_r22 : List Cond := [Cond.instanceMethod yX5_flags, Cond.selects RX5 yX5_flags yX5_flags, Cond.code yX5_flags cX5_flags 1 (some .int), Cond.methodLink RL 64 yL_run, Cond.static yL_run, Cond.codeWith yL_run cL_run 4 (some .int) [(0, 9, 12, 13)], Cond.methodLink RL 19 yX4_run, Cond.instanceMethod yX4_run, Cond.selects RX4 yX4_run yX4_run, Cond.code yX4_run cX4_run 4 (some .int), Cond.constant RX4 67 (40000), Cond.methodLink RL 67 yX5_run, Cond.instanceMethod yX5_run, Cond.selects RX5 yX5_run yX5_run, Cond.code yX5_run cX5_run 3 (some .int), Cond.constant RX5 185 (40000), Cond.methodLink RX5 186 yX5_step, Cond.methodLink RL 68 yL_register, Cond.static yL_register, Cond.codeWith yL_register cL_register 4 (some .int) [(0, 9, 12, 13)], Cond.methodLink RL 23 yX4_register, Cond.instanceMethod yX4_register, Cond.selects RX4 yX4_register yX4_register, Cond.code yX4_register cX4_register 2 (some .int)]
def wsL_law0_r23 : List Cond := [Cond.methodLink RX4 72 yX3_contentOf, Cond.instanceMethod yX3_contentOf, Cond.selects RX3 yX3_contentOf yX3_contentOf, Cond.code yX3_contentOf cX3_contentOf 2 (some .int), Cond.methodLink RL 70 yX5_register, Cond.instanceMethod yX5_register, Cond.selects RX5 yX5_register yX5_register, Cond.code yX5_register cX5_register 2 (some .int), Cond.methodLink RL 71 yX4_memory, Cond.instanceMethod yX4_memory, Cond.selects RX4 yX4_memory yX4_memory, Cond.code yX4_memory cX4_memory 2 (some .int), Cond.methodLink RX4 75 yX1_read, Cond.methodLink RL 74 yX5_memory, Cond.instanceMethod yX5_memory, Cond.selects RX5 yX5_memory yX5_memory, Cond.code yX5_memory cX5_memory 2 (some .int), Cond.methodLink RL 75 yX4_poke, Cond.instanceMethod yX4_poke, Cond.selects RX4 yX4_poke yX4_poke, Cond.code yX4_poke cX4_poke 3 (some .int), Cond.methodLink RX4 78 yX1_write, Cond.methodLink RL 78 yX5_poke, Cond.instanceMethod yX5_poke]
def wsL_law0_r24 : List Cond := [Cond.selects RX5 yX5_poke yX5_poke, Cond.code yX5_poke cX5_poke 3 (some .int), Cond.methodLink RL 79 yL_dot, Cond.static yL_dot, Cond.codeWith yL_dot cL_dot 5 (some .int) [(0, 10, 13, 30)], Cond.classLink RL 30 "java/lang/IndexOutOfBoundsException", Cond.methodLink RL 26 yX4_dot, Cond.instanceMethod yX4_dot, Cond.selects RX4 yX4_dot yX4_dot, Cond.code yX4_dot cX4_dot 3 (some .int), Cond.classLink RX4 81 "java/lang/IndexOutOfBoundsException", Cond.initialized "java/lang/IndexOutOfBoundsException", Cond.methodLink RX4 86 yX1_dotsInColumn, Cond.instanceMethod yX1_dotsInColumn, Cond.selects RX1 yX1_dotsInColumn yX1_dotsInColumn, Cond.code yX1_dotsInColumn cX1_dotsInColumn 11 (some .int), Cond.methodLink RX1 25 Lib.Math.max.name, Cond.static Lib.Math.max.name, Cond.code Lib.Math.max.name Lib.Math.max.code 2 (some .int), Cond.methodLink RX1 31 Lib.Math.min.name, Cond.methodLink RX1 34 yJ6_bitCount_0f7a4, Cond.methodLink RL 82 yX5_dot, Cond.instanceMethod yX5_dot, Cond.selects RX5 yX5_dot yX5_dot]
def wsL_law0_r25 : List Cond := [Cond.code yX5_dot cX5_dot 3 (some .int), Cond.methodLink RX5 189 yX5_bit, Cond.instanceMethod yX5_bit, Cond.selects RX5 yX5_bit yX5_bit, Cond.code yX5_bit cX5_bit 3 (some .int), Cond.methodLink RL 83 yX4_lit, Cond.instanceMethod yX4_lit, Cond.selects RX4 yX4_lit yX4_lit, Cond.code yX4_lit cX4_lit 11 (some .int), Cond.methodLink RX4 90 yX4_onScreen, Cond.static yX4_onScreen, Cond.code yX4_onScreen cX4_onScreen 3 (some .int), Cond.methodLink RX4 161 Lib.MathLoose.min_long.x, Cond.static Lib.MathLoose.min_long.x, Cond.code Lib.MathLoose.min_long.x Lib.MathLoose.min_long.code 4 (some .long), Cond.methodLink RX4 164 Lib.MathLoose.max_long.x, Cond.static Lib.MathLoose.max_long.x, Cond.code Lib.MathLoose.max_long.x Lib.MathLoose.max_long.code 4 (some .long), Cond.methodLink RL 87 yX5_lit, Cond.instanceMethod yX5_lit, Cond.selects RX5 yX5_lit yX5_lit, Cond.code yX5_lit cX5_lit 8 (some .int), Cond.methodLink RL 88 yL_state, Cond.static yL_state]
def wsL_law0_r26 : List Cond := [Cond.codeWith yL_state cL_state 4 (some .int) [(0, 9, 12, 13)], Cond.methodLink RL 32 yX4_state, Cond.instanceMethod yX4_state, Cond.selects RX4 yX4_state yX4_state, Cond.code yX4_state cX4_state 2 (some .int), Cond.methodLink RX4 94 yX2_latchOf, Cond.instanceMethod yX2_latchOf, Cond.selects RX2 yX2_latchOf yX2_latchOf, Cond.code yX2_latchOf cX2_latchOf 2 (some .int), Cond.methodLink RX4 110 yX2_shifted, Cond.methodLink RL 90 yX5_state, Cond.instanceMethod yX5_state, Cond.selects RX5 yX5_state yX5_state, Cond.code yX5_state cX5_state 2 (some .int), Cond.methodLink RL 91 yL_sounds, Cond.static yL_sounds, Cond.codeWith yL_sounds cL_sounds 4 (some .int) [(0, 9, 12, 13)], Cond.methodLink RL 35 yX4_sounds, Cond.instanceMethod yX4_sounds, Cond.selects RX4 yX4_sounds yX4_sounds, Cond.code yX4_sounds cX4_sounds 2 (some .int), Cond.methodLink RX4 118 yX2_risesOf, Cond.instanceMethod yX2_risesOf, Cond.selects RX2 yX2_risesOf yX2_risesOf]
def wsL_law0_r27 : List Cond := [Cond.code yX2_risesOf cX2_risesOf 2 (some .int), Cond.methodLink RL 93 yX5_sounds, Cond.instanceMethod yX5_sounds, Cond.selects RX5 yX5_sounds yX5_sounds, Cond.code yX5_sounds cX5_sounds 2 (some .int)]
def wsL_law0 : List Cond := (wsL_law0_r1 ++ (wsL_law0_r2 ++ (wsL_law0_r3 ++ (wsL_law0_r4 ++ (wsL_law0_r5 ++ (wsL_law0_r6 ++ (wsL_law0_r7 ++ (wsL_law0_r8 ++ (wsL_law0_r9 ++ (wsL_law0_r10 ++ (wsL_law0_r11 ++ (wsL_law0_r12 ++ (wsL_law0_r13 ++ (wsL_law0_r14 ++ (wsL_law0_r15 ++ (wsL_law0_r16 ++ (wsL_law0_r17 ++ (wsL_law0_r18 ++ (wsL_law0_r19 ++ (wsL_law0_r20 ++ (wsL_law0_r21 ++ (wsL_law0_r22 ++ (wsL_law0_r23 ++ (wsL_law0_r24 ++ (wsL_law0_r25 ++ (wsL_law0_r26 ++ wsL_law0_r27)))))))))))))))))))))))))) ++ wsX40 ++ wsX50 ++ wsX10 ++ wsX20 ++ wsX30 ++ wsX00 ++ ([] : List Cond)
def wsL_law : List Cond := wsL_law0 ++ (vx_atS RX4 43 "java/lang/IllegalArgumentException" ["java/lang/RuntimeException", "java/lang/Exception"]).filter goodWord ++ (vx_atS RX4 85 "java/lang/IndexOutOfBoundsException" ["java/lang/RuntimeException", "java/lang/Exception"]).filter goodWord
abbrev vwCl : List vw_C := [(RX0, TX0, 3), (RX1, TX1, 2), (RX2, TX2, 6), (RX3, TX3, 9), (RX4, TX4, 4), (RX5, TX5, 24)]
end
section
theorem dX0_init_0 : decode cX0_init 0 = .ok (.aload_n 0, 1) := by decide +kernel
theorem dX0_init_1 : decode cX0_init 1 = .ok (.invokespecial 1, 3) := by decide +kernel
theorem dX0_init_4 : decode cX0_init 4 = .ok (.return_, 1) := by decide +kernel
theorem dX0_beginAnew_0 : decode cX0_beginAnew 0 = .ok (.aload_n 0, 1) := by decide +kernel
theorem dX0_beginAnew_1 : decode cX0_beginAnew 1 = .ok (.iconst 0, 1) := by decide +kernel
theorem dX0_beginAnew_2 : decode cX0_beginAnew 2 = .ok (.putfield 7, 3) := by decide +kernel
theorem dX0_beginAnew_5 : decode cX0_beginAnew 5 = .ok (.return_, 1) := by decide +kernel
theorem dX0_dropWaiting_0 : decode cX0_dropWaiting 0 = .ok (.aload_n 0, 1) := by decide +kernel
theorem dX0_dropWaiting_1 : decode cX0_dropWaiting 1 = .ok (.iconst 0, 1) := by decide +kernel
theorem dX0_dropWaiting_2 : decode cX0_dropWaiting 2 = .ok (.putfield 13, 3) := by decide +kernel
theorem dX0_dropWaiting_5 : decode cX0_dropWaiting 5 = .ok (.return_, 1) := by decide +kernel
theorem dX0_takeWaiting_0 : decode cX0_takeWaiting 0 = .ok (.aload_n 0, 1) := by decide +kernel
theorem dX0_takeWaiting_1 : decode cX0_takeWaiting 1 = .ok (.getfield 13, 3) := by decide +kernel
theorem dX0_takeWaiting_4 : decode cX0_takeWaiting 4 = .ok (.istore_n 1, 1) := by decide +kernel
theorem dX0_takeWaiting_5 : decode cX0_takeWaiting 5 = .ok (.aload_n 0, 1) := by decide +kernel
theorem dX0_takeWaiting_6 : decode cX0_takeWaiting 6 = .ok (.iconst 0, 1) := by decide +kernel
theorem dX0_takeWaiting_7 : decode cX0_takeWaiting 7 = .ok (.putfield 13, 3) := by decide +kernel
theorem dX0_takeWaiting_10 : decode cX0_takeWaiting 10 = .ok (.iload_n 1, 1) := by decide +kernel
theorem dX0_takeWaiting_11 : decode cX0_takeWaiting 11 = .ok (.ireturn, 1) := by decide +kernel
theorem dX0_untilRequest_0 : decode cX0_untilRequest 0 = .ok (.aload_n 0, 1) := by decide +kernel
theorem dX0_untilRequest_1 : decode cX0_untilRequest 1 = .ok (.getfield 7, 3) := by decide +kernel
theorem dX0_untilRequest_4 : decode cX0_untilRequest 4 = .ok (.sipush 16667, 3) := by decide +kernel
theorem dX0_untilRequest_7 : decode cX0_untilRequest 7 = .ok (.if_icmp .ge 9, 3) := by decide +kernel
theorem dX0_untilRequest_10 : decode cX0_untilRequest 10 = .ok (.sipush 16667, 3) := by decide +kernel
theorem dX0_untilRequest_13 : decode cX0_untilRequest 13 = .ok (.goto 5, 3) := by decide +kernel
theorem dX0_untilRequest_16 : decode cX0_untilRequest 16 = .ok (.ldc 16, 2) := by decide +kernel
theorem dX0_untilRequest_18 : decode cX0_untilRequest 18 = .ok (.aload_n 0, 1) := by decide +kernel
theorem dX0_untilRequest_19 : decode cX0_untilRequest 19 = .ok (.getfield 7, 3) := by decide +kernel
theorem dX0_untilRequest_22 : decode cX0_untilRequest 22 = .ok (.isub, 1) := by decide +kernel
theorem dX0_untilRequest_23 : decode cX0_untilRequest 23 = .ok (.ireturn, 1) := by decide +kernel
theorem dX0_pass_0 : decode cX0_pass 0 = .ok (.aload_n 0, 1) := by decide +kernel
theorem dX0_pass_1 : decode cX0_pass 1 = .ok (.getfield 7, 3) := by decide +kernel
theorem dX0_pass_4 : decode cX0_pass 4 = .ok (.sipush 16667, 3) := by decide +kernel
theorem dX0_pass_7 : decode cX0_pass 7 = .ok (.if_icmp .ge 7, 3) := by decide +kernel
theorem dX0_pass_10 : decode cX0_pass 10 = .ok (.iconst 1, 1) := by decide +kernel
theorem dX0_pass_11 : decode cX0_pass 11 = .ok (.goto 4, 3) := by decide +kernel
theorem dX0_pass_14 : decode cX0_pass 14 = .ok (.iconst 0, 1) := by decide +kernel
theorem dX0_pass_15 : decode cX0_pass 15 = .ok (.istore_n 2, 1) := by decide +kernel
theorem dX0_pass_16 : decode cX0_pass 16 = .ok (.aload_n 0, 1) := by decide +kernel
theorem dX0_pass_17 : decode cX0_pass 17 = .ok (.dup, 1) := by decide +kernel
theorem dX0_pass_18 : decode cX0_pass 18 = .ok (.getfield 7, 3) := by decide +kernel
theorem dX0_pass_21 : decode cX0_pass 21 = .ok (.iload_n 1, 1) := by decide +kernel
theorem dX0_pass_22 : decode cX0_pass 22 = .ok (.iadd, 1) := by decide +kernel
theorem dX0_pass_23 : decode cX0_pass 23 = .ok (.putfield 7, 3) := by decide +kernel
theorem dX0_pass_26 : decode cX0_pass 26 = .ok (.iload_n 2, 1) := by decide +kernel
theorem dX0_pass_27 : decode cX0_pass 27 = .ok (.ifCond .eq 18, 3) := by decide +kernel
theorem dX0_pass_30 : decode cX0_pass 30 = .ok (.aload_n 0, 1) := by decide +kernel
theorem dX0_pass_31 : decode cX0_pass 31 = .ok (.getfield 7, 3) := by decide +kernel
theorem dX0_pass_34 : decode cX0_pass 34 = .ok (.sipush 16667, 3) := by decide +kernel
theorem dX0_pass_37 : decode cX0_pass 37 = .ok (.if_icmp .lt 8, 3) := by decide +kernel
theorem dX0_pass_40 : decode cX0_pass 40 = .ok (.aload_n 0, 1) := by decide +kernel
theorem dX0_pass_41 : decode cX0_pass 41 = .ok (.iconst 1, 1) := by decide +kernel
theorem dX0_pass_42 : decode cX0_pass 42 = .ok (.putfield 13, 3) := by decide +kernel
theorem dX0_pass_45 : decode cX0_pass 45 = .ok (.aload_n 0, 1) := by decide +kernel
theorem dX0_pass_46 : decode cX0_pass 46 = .ok (.getfield 7, 3) := by decide +kernel
theorem dX0_pass_49 : decode cX0_pass 49 = .ok (.ldc 16, 2) := by decide +kernel
theorem dX0_pass_51 : decode cX0_pass 51 = .ok (.if_icmp .ge 5, 3) := by decide +kernel
theorem dX0_pass_54 : decode cX0_pass 54 = .ok (.iconst 0, 1) := by decide +kernel
theorem dX0_pass_55 : decode cX0_pass 55 = .ok (.ireturn, 1) := by decide +kernel
theorem dX0_pass_56 : decode cX0_pass 56 = .ok (.aload_n 0, 1) := by decide +kernel
theorem dX0_pass_57 : decode cX0_pass 57 = .ok (.dup, 1) := by decide +kernel
theorem dX0_pass_58 : decode cX0_pass 58 = .ok (.getfield 7, 3) := by decide +kernel
theorem dX0_pass_61 : decode cX0_pass 61 = .ok (.ldc 16, 2) := by decide +kernel
theorem dX0_pass_63 : decode cX0_pass 63 = .ok (.isub, 1) := by decide +kernel
theorem dX0_pass_64 : decode cX0_pass 64 = .ok (.putfield 7, 3) := by decide +kernel
theorem dX0_pass_67 : decode cX0_pass 67 = .ok (.aload_n 0, 1) := by decide +kernel
theorem dX0_pass_68 : decode cX0_pass 68 = .ok (.dup, 1) := by decide +kernel
theorem dX0_pass_69 : decode cX0_pass 69 = .ok (.getfield 17, 3) := by decide +kernel
theorem dX0_pass_72 : decode cX0_pass 72 = .ok (.iconst 1, 1) := by decide +kernel
theorem dX0_pass_73 : decode cX0_pass 73 = .ok (.iadd, 1) := by decide +kernel
theorem dX0_pass_74 : decode cX0_pass 74 = .ok (.putfield 17, 3) := by decide +kernel
theorem dX0_pass_77 : decode cX0_pass 77 = .ok (.aload_n 0, 1) := by decide +kernel
theorem dX0_pass_78 : decode cX0_pass 78 = .ok (.iconst 2, 1) := by decide +kernel
theorem dX0_pass_79 : decode cX0_pass 79 = .ok (.putfield 13, 3) := by decide +kernel
theorem dX0_pass_82 : decode cX0_pass 82 = .ok (.iconst 1, 1) := by decide +kernel
theorem dX0_pass_83 : decode cX0_pass 83 = .ok (.ireturn, 1) := by decide +kernel
theorem dX1_init_0 : decode cX1_init 0 = .ok (.aload_n 0, 1) := by decide +kernel
theorem dX1_init_1 : decode cX1_init 1 = .ok (.invokespecial 1, 3) := by decide +kernel
theorem dX1_init_4 : decode cX1_init 4 = .ok (.aload_n 0, 1) := by decide +kernel
theorem dX1_init_5 : decode cX1_init 5 = .ok (.sipush 2048, 3) := by decide +kernel
theorem dX1_init_8 : decode cX1_init 8 = .ok (.newarray .int, 2) := by decide +kernel
theorem dX1_init_10 : decode cX1_init 10 = .ok (.putfield 9, 3) := by decide +kernel
theorem dX1_init_13 : decode cX1_init 13 = .ok (.aload_n 0, 1) := by decide +kernel
theorem dX1_init_14 : decode cX1_init 14 = .ok (.sipush 8192, 3) := by decide +kernel
theorem dX1_init_17 : decode cX1_init 17 = .ok (.newarray .int, 2) := by decide +kernel
theorem dX1_init_19 : decode cX1_init 19 = .ok (.putfield 13, 3) := by decide +kernel
theorem dX1_init_22 : decode cX1_init 22 = .ok (.return_, 1) := by decide +kernel
theorem dX1_read_0 : decode cX1_read 0 = .ok (.iload_n 1, 1) := by decide +kernel
theorem dX1_read_1 : decode cX1_read 1 = .ok (.sipush 8192, 3) := by decide +kernel
theorem dX1_read_4 : decode cX1_read 4 = .ok (.iand, 1) := by decide +kernel
theorem dX1_read_5 : decode cX1_read 5 = .ok (.ifCond .eq 14, 3) := by decide +kernel
theorem dX1_read_8 : decode cX1_read 8 = .ok (.aload_n 0, 1) := by decide +kernel
theorem dX1_read_9 : decode cX1_read 9 = .ok (.getfield 13, 3) := by decide +kernel
theorem dX1_read_12 : decode cX1_read 12 = .ok (.iload_n 1, 1) := by decide +kernel
theorem dX1_read_13 : decode cX1_read 13 = .ok (.sipush 8191, 3) := by decide +kernel
theorem dX1_read_16 : decode cX1_read 16 = .ok (.iand, 1) := by decide +kernel
theorem dX1_read_17 : decode cX1_read 17 = .ok (.iaload, 1) := by decide +kernel
theorem dX1_read_18 : decode cX1_read 18 = .ok (.ireturn, 1) := by decide +kernel
theorem dX1_read_19 : decode cX1_read 19 = .ok (.iload_n 1, 1) := by decide +kernel
theorem dX1_read_20 : decode cX1_read 20 = .ok (.ldc 16, 2) := by decide +kernel
theorem dX1_read_22 : decode cX1_read 22 = .ok (.iand, 1) := by decide +kernel
theorem dX1_read_23 : decode cX1_read 23 = .ok (.istore_n 2, 1) := by decide +kernel
theorem dX1_read_24 : decode cX1_read 24 = .ok (.iload_n 2, 1) := by decide +kernel
theorem dX1_read_25 : decode cX1_read 25 = .ok (.sipush 2048, 3) := by decide +kernel
theorem dX1_read_28 : decode cX1_read 28 = .ok (.if_icmp .ge 12, 3) := by decide +kernel
theorem dX1_read_31 : decode cX1_read 31 = .ok (.aload_n 0, 1) := by decide +kernel
theorem dX1_read_32 : decode cX1_read 32 = .ok (.getfield 9, 3) := by decide +kernel
theorem dX1_read_35 : decode cX1_read 35 = .ok (.iload_n 2, 1) := by decide +kernel
theorem dX1_read_36 : decode cX1_read 36 = .ok (.iaload, 1) := by decide +kernel
theorem dX1_read_37 : decode cX1_read 37 = .ok (.goto 4, 3) := by decide +kernel
theorem dX1_read_40 : decode cX1_read 40 = .ok (.iconst 0, 1) := by decide +kernel
theorem dX1_read_41 : decode cX1_read 41 = .ok (.ireturn, 1) := by decide +kernel
theorem dX1_write_0 : decode cX1_write 0 = .ok (.iload_n 1, 1) := by decide +kernel
theorem dX1_write_1 : decode cX1_write 1 = .ok (.sipush 8192, 3) := by decide +kernel
theorem dX1_write_4 : decode cX1_write 4 = .ok (.iand, 1) := by decide +kernel
theorem dX1_write_5 : decode cX1_write 5 = .ok (.ifCond .eq 18, 3) := by decide +kernel
theorem dX1_write_8 : decode cX1_write 8 = .ok (.aload_n 0, 1) := by decide +kernel
theorem dX1_write_9 : decode cX1_write 9 = .ok (.getfield 13, 3) := by decide +kernel
theorem dX1_write_12 : decode cX1_write 12 = .ok (.iload_n 1, 1) := by decide +kernel
theorem dX1_write_13 : decode cX1_write 13 = .ok (.sipush 8191, 3) := by decide +kernel
theorem dX1_write_16 : decode cX1_write 16 = .ok (.iand, 1) := by decide +kernel
theorem dX1_write_17 : decode cX1_write 17 = .ok (.iload_n 2, 1) := by decide +kernel
theorem dX1_write_18 : decode cX1_write 18 = .ok (.sipush 255, 3) := by decide +kernel
theorem dX1_write_21 : decode cX1_write 21 = .ok (.iand, 1) := by decide +kernel
theorem dX1_write_22 : decode cX1_write 22 = .ok (.iastore, 1) := by decide +kernel
theorem dX1_write_23 : decode cX1_write 23 = .ok (.return_, 1) := by decide +kernel
set_option maxRecDepth 20000 in
theorem ggX1_readWord_X1_read : GoodIn wsX1_readWord wsX1_read := goodIn_r _ [5, 6, 7, 8, 9, 10] (by decide +kernel) (by decide +kernel)
set_option maxRecDepth 20000 in
theorem gX1_readWord_X1_read : GoodIn wsX1_readWord (wsV RX1 17 RX1 yX1_read wsX1_read) := goodIn_app (goodIn_of _ (by decide +kernel)) ggX1_readWord_X1_read
theorem dX1_readWord_0 : decode cX1_readWord 0 = .ok (.aload_n 0, 1) := by decide +kernel
theorem dX1_readWord_1 : decode cX1_readWord 1 = .ok (.iload_n 1, 1) := by decide +kernel
theorem dX1_readWord_2 : decode cX1_readWord 2 = .ok (.invokevirtual 17, 3) := by decide +kernel
theorem dX1_readWord_5 : decode cX1_readWord 5 = .ok (.aload_n 0, 1) := by decide +kernel
theorem dX1_readWord_6 : decode cX1_readWord 6 = .ok (.iload_n 1, 1) := by decide +kernel
theorem dX1_readWord_7 : decode cX1_readWord 7 = .ok (.iconst 1, 1) := by decide +kernel
theorem dX1_readWord_8 : decode cX1_readWord 8 = .ok (.iadd, 1) := by decide +kernel
theorem dX1_readWord_9 : decode cX1_readWord 9 = .ok (.invokevirtual 17, 3) := by decide +kernel
theorem dX1_readWord_12 : decode cX1_readWord 12 = .ok (.bipush 8, 2) := by decide +kernel
theorem dX1_readWord_14 : decode cX1_readWord 14 = .ok (.ishl, 1) := by decide +kernel
theorem dX1_readWord_15 : decode cX1_readWord 15 = .ok (.ior, 1) := by decide +kernel
theorem dX1_readWord_16 : decode cX1_readWord 16 = .ok (.ireturn, 1) := by decide +kernel
set_option maxRecDepth 20000 in
theorem ggX1_writeWord_X1_write : GoodIn wsX1_writeWord wsX1_write := goodIn_r _ [5, 6, 7, 8] (by decide +kernel) (by decide +kernel)
set_option maxRecDepth 20000 in
theorem gX1_writeWord_X1_write : GoodIn wsX1_writeWord (wsV RX1 21 RX1 yX1_write wsX1_write) := goodIn_app (goodIn_of _ (by decide +kernel)) ggX1_writeWord_X1_write
theorem dX1_writeWord_0 : decode cX1_writeWord 0 = .ok (.aload_n 0, 1) := by decide +kernel
theorem dX1_writeWord_1 : decode cX1_writeWord 1 = .ok (.iload_n 1, 1) := by decide +kernel
theorem dX1_writeWord_2 : decode cX1_writeWord 2 = .ok (.iload_n 2, 1) := by decide +kernel
theorem dX1_writeWord_3 : decode cX1_writeWord 3 = .ok (.invokevirtual 21, 3) := by decide +kernel
theorem dX1_writeWord_6 : decode cX1_writeWord 6 = .ok (.aload_n 0, 1) := by decide +kernel
theorem dX1_writeWord_7 : decode cX1_writeWord 7 = .ok (.iload_n 1, 1) := by decide +kernel
theorem dX1_writeWord_8 : decode cX1_writeWord 8 = .ok (.iconst 1, 1) := by decide +kernel
theorem dX1_writeWord_9 : decode cX1_writeWord 9 = .ok (.iadd, 1) := by decide +kernel
theorem dX1_writeWord_10 : decode cX1_writeWord 10 = .ok (.iload_n 2, 1) := by decide +kernel
theorem dX1_writeWord_11 : decode cX1_writeWord 11 = .ok (.bipush 8, 2) := by decide +kernel
theorem dX1_writeWord_13 : decode cX1_writeWord 13 = .ok (.ishr, 1) := by decide +kernel
theorem dX1_writeWord_14 : decode cX1_writeWord 14 = .ok (.invokevirtual 21, 3) := by decide +kernel
theorem dX1_writeWord_17 : decode cX1_writeWord 17 = .ok (.return_, 1) := by decide +kernel
theorem dX1_burn_0 : decode cX1_burn 0 = .ok (.iload_n 1, 1) := by decide +kernel
theorem dX1_burn_1 : decode cX1_burn 1 = .ok (.ifCond .lt 21, 3) := by decide +kernel
theorem dX1_burn_4 : decode cX1_burn 4 = .ok (.iload_n 1, 1) := by decide +kernel
theorem dX1_burn_5 : decode cX1_burn 5 = .ok (.sipush 2048, 3) := by decide +kernel
theorem dX1_burn_8 : decode cX1_burn 8 = .ok (.if_icmp .ge 14, 3) := by decide +kernel
theorem dX1_burn_11 : decode cX1_burn 11 = .ok (.aload_n 0, 1) := by decide +kernel
theorem dX1_burn_12 : decode cX1_burn 12 = .ok (.getfield 9, 3) := by decide +kernel
theorem dX1_burn_15 : decode cX1_burn 15 = .ok (.iload_n 1, 1) := by decide +kernel
theorem dX1_burn_16 : decode cX1_burn 16 = .ok (.iload_n 2, 1) := by decide +kernel
theorem dX1_burn_17 : decode cX1_burn 17 = .ok (.sipush 255, 3) := by decide +kernel
theorem dX1_burn_20 : decode cX1_burn 20 = .ok (.iand, 1) := by decide +kernel
theorem dX1_burn_21 : decode cX1_burn 21 = .ok (.iastore, 1) := by decide +kernel
theorem dX1_burn_22 : decode cX1_burn 22 = .ok (.return_, 1) := by decide +kernel
set_option maxRecDepth 20000 in
theorem ggX1_dotsInColumn_X1_read : GoodIn wsX1_dotsInColumn wsX1_read := goodIn_r _ [12, 13, 14, 15, 23, 24] (by decide +kernel) (by decide +kernel)
set_option maxRecDepth 20000 in
theorem gX1_dotsInColumn_X1_read : GoodIn wsX1_dotsInColumn (wsV RX1 17 RX1 yX1_read wsX1_read) := goodIn_app (goodIn_of _ (by decide +kernel)) ggX1_dotsInColumn_X1_read
set_option maxRecDepth 20000 in
theorem ggX1_dotsInColumn_J6_bitCount_0f7a4 : GoodIn wsX1_dotsInColumn wsJ6_bitCount_0f7a4 := goodIn_r _ [19, 20, 21, 22] (by decide +kernel) (by decide +kernel)
set_option maxRecDepth 20000 in
theorem gX1_dotsInColumn_J6_bitCount_0f7a4 : GoodIn wsX1_dotsInColumn (va_wsS RX1 34 yJ6_bitCount_0f7a4 wsJ6_bitCount_0f7a4) := goodIn_app (goodIn_of _ (by decide +kernel)) ggX1_dotsInColumn_J6_bitCount_0f7a4
theorem dX1_dotsInColumn_0 : decode cX1_dotsInColumn 0 = .ok (.sipush 256, 3) := by decide +kernel
theorem dX1_dotsInColumn_3 : decode cX1_dotsInColumn 3 = .ok (.iload_n 3, 1) := by decide +kernel
theorem dX1_dotsInColumn_4 : decode cX1_dotsInColumn 4 = .ok (.isub, 1) := by decide +kernel
theorem dX1_dotsInColumn_5 : decode cX1_dotsInColumn 5 = .ok (.istore 4, 2) := by decide +kernel
theorem dX1_dotsInColumn_7 : decode cX1_dotsInColumn 7 = .ok (.sipush 256, 3) := by decide +kernel
theorem dX1_dotsInColumn_10 : decode cX1_dotsInColumn 10 = .ok (.iload_n 2, 1) := by decide +kernel
theorem dX1_dotsInColumn_11 : decode cX1_dotsInColumn 11 = .ok (.isub, 1) := by decide +kernel
theorem dX1_dotsInColumn_12 : decode cX1_dotsInColumn 12 = .ok (.istore 5, 2) := by decide +kernel
theorem dX1_dotsInColumn_14 : decode cX1_dotsInColumn 14 = .ok (.iconst 0, 1) := by decide +kernel
theorem dX1_dotsInColumn_15 : decode cX1_dotsInColumn 15 = .ok (.istore 6, 2) := by decide +kernel
theorem dX1_dotsInColumn_17 : decode cX1_dotsInColumn 17 = .ok (.iconst 0, 1) := by decide +kernel
theorem dX1_dotsInColumn_18 : decode cX1_dotsInColumn 18 = .ok (.istore 7, 2) := by decide +kernel
theorem dX1_dotsInColumn_20 : decode cX1_dotsInColumn 20 = .ok (.iload 7, 2) := by decide +kernel
theorem dX1_dotsInColumn_22 : decode cX1_dotsInColumn 22 = .ok (.bipush 32, 2) := by decide +kernel
theorem dX1_dotsInColumn_24 : decode cX1_dotsInColumn 24 = .ok (.if_icmp .ge 89, 3) := by decide +kernel
theorem dX1_dotsInColumn_27 : decode cX1_dotsInColumn 27 = .ok (.iload 4, 2) := by decide +kernel
theorem dX1_dotsInColumn_29 : decode cX1_dotsInColumn 29 = .ok (.bipush 8, 2) := by decide +kernel
theorem dX1_dotsInColumn_31 : decode cX1_dotsInColumn 31 = .ok (.iload 7, 2) := by decide +kernel
theorem dX1_dotsInColumn_33 : decode cX1_dotsInColumn 33 = .ok (.imul, 1) := by decide +kernel
theorem dX1_dotsInColumn_34 : decode cX1_dotsInColumn 34 = .ok (.isub, 1) := by decide +kernel
theorem dX1_dotsInColumn_35 : decode cX1_dotsInColumn 35 = .ok (.iconst 0, 1) := by decide +kernel
theorem dX1_dotsInColumn_36 : decode cX1_dotsInColumn 36 = .ok (.invokestatic 25, 3) := by decide +kernel
theorem dX1_dotsInColumn_39 : decode cX1_dotsInColumn 39 = .ok (.istore 8, 2) := by decide +kernel
theorem dX1_dotsInColumn_41 : decode cX1_dotsInColumn 41 = .ok (.iload 5, 2) := by decide +kernel
theorem dX1_dotsInColumn_43 : decode cX1_dotsInColumn 43 = .ok (.bipush 8, 2) := by decide +kernel
theorem dX1_dotsInColumn_45 : decode cX1_dotsInColumn 45 = .ok (.iload 7, 2) := by decide +kernel
theorem dX1_dotsInColumn_47 : decode cX1_dotsInColumn 47 = .ok (.imul, 1) := by decide +kernel
theorem dX1_dotsInColumn_48 : decode cX1_dotsInColumn 48 = .ok (.isub, 1) := by decide +kernel
theorem dX1_dotsInColumn_49 : decode cX1_dotsInColumn 49 = .ok (.bipush 8, 2) := by decide +kernel
theorem dX1_dotsInColumn_51 : decode cX1_dotsInColumn 51 = .ok (.invokestatic 31, 3) := by decide +kernel
theorem dX1_dotsInColumn_54 : decode cX1_dotsInColumn 54 = .ok (.istore 9, 2) := by decide +kernel
theorem dX1_dotsInColumn_56 : decode cX1_dotsInColumn 56 = .ok (.iload 8, 2) := by decide +kernel
theorem dX1_dotsInColumn_58 : decode cX1_dotsInColumn 58 = .ok (.iload 9, 2) := by decide +kernel
theorem dX1_dotsInColumn_60 : decode cX1_dotsInColumn 60 = .ok (.if_icmp .ge 47, 3) := by decide +kernel
theorem dX1_dotsInColumn_63 : decode cX1_dotsInColumn 63 = .ok (.sipush 255, 3) := by decide +kernel
theorem dX1_dotsInColumn_66 : decode cX1_dotsInColumn 66 = .ok (.iload 8, 2) := by decide +kernel
theorem dX1_dotsInColumn_68 : decode cX1_dotsInColumn 68 = .ok (.ishl, 1) := by decide +kernel
theorem dX1_dotsInColumn_69 : decode cX1_dotsInColumn 69 = .ok (.sipush 255, 3) := by decide +kernel
theorem dX1_dotsInColumn_72 : decode cX1_dotsInColumn 72 = .ok (.bipush 8, 2) := by decide +kernel
theorem dX1_dotsInColumn_74 : decode cX1_dotsInColumn 74 = .ok (.iload 9, 2) := by decide +kernel
theorem dX1_dotsInColumn_76 : decode cX1_dotsInColumn 76 = .ok (.isub, 1) := by decide +kernel
theorem dX1_dotsInColumn_77 : decode cX1_dotsInColumn 77 = .ok (.ishr, 1) := by decide +kernel
theorem dX1_dotsInColumn_78 : decode cX1_dotsInColumn 78 = .ok (.iand, 1) := by decide +kernel
theorem dX1_dotsInColumn_79 : decode cX1_dotsInColumn 79 = .ok (.istore 10, 2) := by decide +kernel
theorem dX1_dotsInColumn_81 : decode cX1_dotsInColumn 81 = .ok (.iload 6, 2) := by decide +kernel
theorem dX1_dotsInColumn_83 : decode cX1_dotsInColumn 83 = .ok (.aload_n 0, 1) := by decide +kernel
theorem dX1_dotsInColumn_84 : decode cX1_dotsInColumn 84 = .ok (.sipush 9216, 3) := by decide +kernel
theorem dX1_dotsInColumn_87 : decode cX1_dotsInColumn 87 = .ok (.bipush 32, 2) := by decide +kernel
theorem dX1_dotsInColumn_89 : decode cX1_dotsInColumn 89 = .ok (.iload_n 1, 1) := by decide +kernel
theorem dX1_dotsInColumn_90 : decode cX1_dotsInColumn 90 = .ok (.imul, 1) := by decide +kernel
theorem dX1_dotsInColumn_91 : decode cX1_dotsInColumn 91 = .ok (.iadd, 1) := by decide +kernel
theorem dX1_dotsInColumn_92 : decode cX1_dotsInColumn 92 = .ok (.iload 7, 2) := by decide +kernel
theorem dX1_dotsInColumn_94 : decode cX1_dotsInColumn 94 = .ok (.iadd, 1) := by decide +kernel
theorem dX1_dotsInColumn_95 : decode cX1_dotsInColumn 95 = .ok (.invokevirtual 17, 3) := by decide +kernel
theorem dX1_dotsInColumn_98 : decode cX1_dotsInColumn 98 = .ok (.iload 10, 2) := by decide +kernel
theorem dX1_dotsInColumn_100 : decode cX1_dotsInColumn 100 = .ok (.iand, 1) := by decide +kernel
theorem dX1_dotsInColumn_101 : decode cX1_dotsInColumn 101 = .ok (.invokestatic 34, 3) := by decide +kernel
theorem dX1_dotsInColumn_104 : decode cX1_dotsInColumn 104 = .ok (.iadd, 1) := by decide +kernel
theorem dX1_dotsInColumn_105 : decode cX1_dotsInColumn 105 = .ok (.istore 6, 2) := by decide +kernel
theorem dX1_dotsInColumn_107 : decode cX1_dotsInColumn 107 = .ok (.iinc 7 1, 3) := by decide +kernel
theorem dX1_dotsInColumn_110 : decode cX1_dotsInColumn 110 = .ok (.goto (-90), 3) := by decide +kernel
theorem dX1_dotsInColumn_113 : decode cX1_dotsInColumn 113 = .ok (.iload 6, 2) := by decide +kernel
theorem dX1_dotsInColumn_115 : decode cX1_dotsInColumn 115 = .ok (.ireturn, 1) := by decide +kernel
theorem dX2_init_0 : decode cX2_init 0 = .ok (.aload_n 0, 1) := by decide +kernel
theorem dX2_init_1 : decode cX2_init 1 = .ok (.invokespecial 1, 3) := by decide +kernel
theorem dX2_init_4 : decode cX2_init 4 = .ok (.aload_n 0, 1) := by decide +kernel
theorem dX2_init_5 : decode cX2_init 5 = .ok (.iconst 3, 1) := by decide +kernel
theorem dX2_init_6 : decode cX2_init 6 = .ok (.newarray .int, 2) := by decide +kernel
theorem dX2_init_8 : decode cX2_init 8 = .ok (.putfield 9, 3) := by decide +kernel
theorem dX2_init_11 : decode cX2_init 11 = .ok (.aload_n 0, 1) := by decide +kernel
theorem dX2_init_12 : decode cX2_init 12 = .ok (.iconst 2, 1) := by decide +kernel
theorem dX2_init_13 : decode cX2_init 13 = .ok (.newarray .int, 2) := by decide +kernel
theorem dX2_init_15 : decode cX2_init 15 = .ok (.putfield 13, 3) := by decide +kernel
theorem dX2_init_18 : decode cX2_init 18 = .ok (.aload_n 0, 1) := by decide +kernel
theorem dX2_init_19 : decode cX2_init 19 = .ok (.bipush 16, 2) := by decide +kernel
theorem dX2_init_21 : decode cX2_init 21 = .ok (.newarray .int, 2) := by decide +kernel
theorem dX2_init_23 : decode cX2_init 23 = .ok (.putfield 16, 3) := by decide +kernel
theorem dX2_init_26 : decode cX2_init 26 = .ok (.return_, 1) := by decide +kernel
theorem dX2_clear_0 : decode cX2_clear 0 = .ok (.aload_n 0, 1) := by decide +kernel
theorem dX2_clear_1 : decode cX2_clear 1 = .ok (.iconst 0, 1) := by decide +kernel
theorem dX2_clear_2 : decode cX2_clear 2 = .ok (.putfield 19, 3) := by decide +kernel
theorem dX2_clear_5 : decode cX2_clear 5 = .ok (.aload_n 0, 1) := by decide +kernel
theorem dX2_clear_6 : decode cX2_clear 6 = .ok (.iconst 0, 1) := by decide +kernel
theorem dX2_clear_7 : decode cX2_clear 7 = .ok (.putfield 23, 3) := by decide +kernel
theorem dX2_clear_10 : decode cX2_clear 10 = .ok (.aload_n 0, 1) := by decide +kernel
theorem dX2_clear_11 : decode cX2_clear 11 = .ok (.getfield 13, 3) := by decide +kernel
theorem dX2_clear_14 : decode cX2_clear 14 = .ok (.iconst 0, 1) := by decide +kernel
theorem dX2_clear_15 : decode cX2_clear 15 = .ok (.iconst 0, 1) := by decide +kernel
theorem dX2_clear_16 : decode cX2_clear 16 = .ok (.iastore, 1) := by decide +kernel
theorem dX2_clear_17 : decode cX2_clear 17 = .ok (.aload_n 0, 1) := by decide +kernel
theorem dX2_clear_18 : decode cX2_clear 18 = .ok (.getfield 13, 3) := by decide +kernel
theorem dX2_clear_21 : decode cX2_clear 21 = .ok (.iconst 1, 1) := by decide +kernel
theorem dX2_clear_22 : decode cX2_clear 22 = .ok (.iconst 0, 1) := by decide +kernel
theorem dX2_clear_23 : decode cX2_clear 23 = .ok (.iastore, 1) := by decide +kernel
theorem dX2_clear_24 : decode cX2_clear 24 = .ok (.aload_n 0, 1) := by decide +kernel
theorem dX2_clear_25 : decode cX2_clear 25 = .ok (.iconst 0, 1) := by decide +kernel
theorem dX2_clear_26 : decode cX2_clear 26 = .ok (.putfield 26, 3) := by decide +kernel
theorem dX2_clear_29 : decode cX2_clear 29 = .ok (.return_, 1) := by decide +kernel
theorem dX2_setInput_0 : decode cX2_setInput 0 = .ok (.iload_n 1, 1) := by decide +kernel
theorem dX2_setInput_1 : decode cX2_setInput 1 = .ok (.ifCond .lt 19, 3) := by decide +kernel
theorem dX2_setInput_4 : decode cX2_setInput 4 = .ok (.iload_n 1, 1) := by decide +kernel
theorem dX2_setInput_5 : decode cX2_setInput 5 = .ok (.iconst 3, 1) := by decide +kernel
theorem dX2_setInput_6 : decode cX2_setInput 6 = .ok (.if_icmp .ge 14, 3) := by decide +kernel
theorem dX2_setInput_9 : decode cX2_setInput 9 = .ok (.aload_n 0, 1) := by decide +kernel
theorem dX2_setInput_10 : decode cX2_setInput 10 = .ok (.getfield 9, 3) := by decide +kernel
theorem dX2_setInput_13 : decode cX2_setInput 13 = .ok (.iload_n 1, 1) := by decide +kernel
theorem dX2_setInput_14 : decode cX2_setInput 14 = .ok (.iload_n 2, 1) := by decide +kernel
theorem dX2_setInput_15 : decode cX2_setInput 15 = .ok (.sipush 255, 3) := by decide +kernel
theorem dX2_setInput_18 : decode cX2_setInput 18 = .ok (.iand, 1) := by decide +kernel
theorem dX2_setInput_19 : decode cX2_setInput 19 = .ok (.iastore, 1) := by decide +kernel
theorem dX2_setInput_20 : decode cX2_setInput 20 = .ok (.return_, 1) := by decide +kernel
set_option maxRecDepth 20000 in
theorem ggX2_in_X2_shifted : GoodIn wsX2_in wsX2_shifted := goodIn_r _ [6, 7, 8, 9, 10, 11, 12, 13, 14] (by decide +kernel) (by decide +kernel)
set_option maxRecDepth 20000 in
theorem gX2_in_X2_shifted : GoodIn wsX2_in (wsV RX2 29 RX2 yX2_shifted wsX2_shifted) := goodIn_app (goodIn_of _ (by decide +kernel)) ggX2_in_X2_shifted
theorem dX2_in_0 : decode cX2_in 0 = .ok (.iload_n 1, 1) := by decide +kernel
theorem dX2_in_1 : decode cX2_in 1 = .ok (.ifCond .lt 15, 3) := by decide +kernel
theorem dX2_in_4 : decode cX2_in 4 = .ok (.iload_n 1, 1) := by decide +kernel
theorem dX2_in_5 : decode cX2_in 5 = .ok (.iconst 3, 1) := by decide +kernel
theorem dX2_in_6 : decode cX2_in 6 = .ok (.if_icmp .ge 10, 3) := by decide +kernel
theorem dX2_in_9 : decode cX2_in 9 = .ok (.aload_n 0, 1) := by decide +kernel
theorem dX2_in_10 : decode cX2_in 10 = .ok (.getfield 9, 3) := by decide +kernel
theorem dX2_in_13 : decode cX2_in 13 = .ok (.iload_n 1, 1) := by decide +kernel
theorem dX2_in_14 : decode cX2_in 14 = .ok (.iaload, 1) := by decide +kernel
theorem dX2_in_15 : decode cX2_in 15 = .ok (.ireturn, 1) := by decide +kernel
theorem dX2_in_16 : decode cX2_in 16 = .ok (.iload_n 1, 1) := by decide +kernel
theorem dX2_in_17 : decode cX2_in 17 = .ok (.iconst 3, 1) := by decide +kernel
theorem dX2_in_18 : decode cX2_in 18 = .ok (.if_icmp .ne 10, 3) := by decide +kernel
theorem dX2_in_21 : decode cX2_in 21 = .ok (.aload_n 0, 1) := by decide +kernel
theorem dX2_in_22 : decode cX2_in 22 = .ok (.invokevirtual 29, 3) := by decide +kernel
theorem dX2_in_25 : decode cX2_in 25 = .ok (.goto 4, 3) := by decide +kernel
theorem dX2_in_28 : decode cX2_in 28 = .ok (.iconst 0, 1) := by decide +kernel
theorem dX2_in_29 : decode cX2_in 29 = .ok (.ireturn, 1) := by decide +kernel
set_option maxRecDepth 20000 in
theorem ggX2_out_X2_setLatch : GoodIn wsX2_out wsX2_setLatch := goodIn_r _ [8, 9, 10, 11, 12, 13, 14, 15, 16] (by decide +kernel) (by decide +kernel)
set_option maxRecDepth 20000 in
theorem gX2_out_X2_setLatch : GoodIn wsX2_out (wsV RX2 33 RX2 yX2_setLatch wsX2_setLatch) := goodIn_app (goodIn_of _ (by decide +kernel)) ggX2_out_X2_setLatch
theorem dX2_out_0 : decode cX2_out 0 = .ok (.iload_n 1, 1) := by decide +kernel
theorem dX2_out_1 : decode cX2_out 1 = .ok (.tableswitch 91 2 6 #[35, 46, 55, 74, 83], 35) := by decide +kernel
theorem dX2_out_36 : decode cX2_out 36 = .ok (.aload_n 0, 1) := by decide +kernel
theorem dX2_out_37 : decode cX2_out 37 = .ok (.iload_n 2, 1) := by decide +kernel
theorem dX2_out_38 : decode cX2_out 38 = .ok (.bipush 7, 2) := by decide +kernel
theorem dX2_out_40 : decode cX2_out 40 = .ok (.iand, 1) := by decide +kernel
theorem dX2_out_41 : decode cX2_out 41 = .ok (.putfield 23, 3) := by decide +kernel
theorem dX2_out_44 : decode cX2_out 44 = .ok (.goto 48, 3) := by decide +kernel
theorem dX2_out_47 : decode cX2_out 47 = .ok (.aload_n 0, 1) := by decide +kernel
theorem dX2_out_48 : decode cX2_out 48 = .ok (.iconst 0, 1) := by decide +kernel
theorem dX2_out_49 : decode cX2_out 49 = .ok (.iload_n 2, 1) := by decide +kernel
theorem dX2_out_50 : decode cX2_out 50 = .ok (.invokevirtual 33, 3) := by decide +kernel
theorem dX2_out_53 : decode cX2_out 53 = .ok (.goto 39, 3) := by decide +kernel
theorem dX2_out_56 : decode cX2_out 56 = .ok (.aload_n 0, 1) := by decide +kernel
theorem dX2_out_57 : decode cX2_out 57 = .ok (.iload_n 2, 1) := by decide +kernel
theorem dX2_out_58 : decode cX2_out 58 = .ok (.bipush 8, 2) := by decide +kernel
theorem dX2_out_60 : decode cX2_out 60 = .ok (.ishl, 1) := by decide +kernel
theorem dX2_out_61 : decode cX2_out 61 = .ok (.aload_n 0, 1) := by decide +kernel
theorem dX2_out_62 : decode cX2_out 62 = .ok (.getfield 19, 3) := by decide +kernel
theorem dX2_out_65 : decode cX2_out 65 = .ok (.bipush 8, 2) := by decide +kernel
theorem dX2_out_67 : decode cX2_out 67 = .ok (.ishr, 1) := by decide +kernel
theorem dX2_out_68 : decode cX2_out 68 = .ok (.ior, 1) := by decide +kernel
theorem dX2_out_69 : decode cX2_out 69 = .ok (.putfield 19, 3) := by decide +kernel
theorem dX2_out_72 : decode cX2_out 72 = .ok (.goto 20, 3) := by decide +kernel
theorem dX2_out_75 : decode cX2_out 75 = .ok (.aload_n 0, 1) := by decide +kernel
theorem dX2_out_76 : decode cX2_out 76 = .ok (.iconst 1, 1) := by decide +kernel
theorem dX2_out_77 : decode cX2_out 77 = .ok (.iload_n 2, 1) := by decide +kernel
theorem dX2_out_78 : decode cX2_out 78 = .ok (.invokevirtual 33, 3) := by decide +kernel
theorem dX2_out_81 : decode cX2_out 81 = .ok (.goto 11, 3) := by decide +kernel
theorem dX2_out_84 : decode cX2_out 84 = .ok (.aload_n 0, 1) := by decide +kernel
theorem dX2_out_85 : decode cX2_out 85 = .ok (.iconst 0, 1) := by decide +kernel
theorem dX2_out_86 : decode cX2_out 86 = .ok (.putfield 26, 3) := by decide +kernel
theorem dX2_out_89 : decode cX2_out 89 = .ok (.goto 3, 3) := by decide +kernel
theorem dX2_out_92 : decode cX2_out 92 = .ok (.return_, 1) := by decide +kernel
theorem dX2_shifted_0 : decode cX2_shifted 0 = .ok (.aload_n 0, 1) := by decide +kernel
theorem dX2_shifted_1 : decode cX2_shifted 1 = .ok (.getfield 19, 3) := by decide +kernel
theorem dX2_shifted_4 : decode cX2_shifted 4 = .ok (.aload_n 0, 1) := by decide +kernel
theorem dX2_shifted_5 : decode cX2_shifted 5 = .ok (.getfield 23, 3) := by decide +kernel
theorem dX2_shifted_8 : decode cX2_shifted 8 = .ok (.ishl, 1) := by decide +kernel
theorem dX2_shifted_9 : decode cX2_shifted 9 = .ok (.bipush 8, 2) := by decide +kernel
theorem dX2_shifted_11 : decode cX2_shifted 11 = .ok (.ishr, 1) := by decide +kernel
theorem dX2_shifted_12 : decode cX2_shifted 12 = .ok (.sipush 255, 3) := by decide +kernel
theorem dX2_shifted_15 : decode cX2_shifted 15 = .ok (.iand, 1) := by decide +kernel
theorem dX2_shifted_16 : decode cX2_shifted 16 = .ok (.ireturn, 1) := by decide +kernel
theorem dX2_latchOf_0 : decode cX2_latchOf 0 = .ok (.aload_n 0, 1) := by decide +kernel
theorem dX2_latchOf_1 : decode cX2_latchOf 1 = .ok (.getfield 13, 3) := by decide +kernel
theorem dX2_latchOf_4 : decode cX2_latchOf 4 = .ok (.iload_n 1, 1) := by decide +kernel
theorem dX2_latchOf_5 : decode cX2_latchOf 5 = .ok (.iconst 1, 1) := by decide +kernel
theorem dX2_latchOf_6 : decode cX2_latchOf 6 = .ok (.iand, 1) := by decide +kernel
theorem dX2_latchOf_7 : decode cX2_latchOf 7 = .ok (.iaload, 1) := by decide +kernel
theorem dX2_latchOf_8 : decode cX2_latchOf 8 = .ok (.ireturn, 1) := by decide +kernel
theorem dX2_risesOf_0 : decode cX2_risesOf 0 = .ok (.aload_n 0, 1) := by decide +kernel
theorem dX2_risesOf_1 : decode cX2_risesOf 1 = .ok (.getfield 16, 3) := by decide +kernel
theorem dX2_risesOf_4 : decode cX2_risesOf 4 = .ok (.iload_n 1, 1) := by decide +kernel
theorem dX2_risesOf_5 : decode cX2_risesOf 5 = .ok (.bipush 15, 2) := by decide +kernel
theorem dX2_risesOf_7 : decode cX2_risesOf 7 = .ok (.iand, 1) := by decide +kernel
theorem dX2_risesOf_8 : decode cX2_risesOf 8 = .ok (.iaload, 1) := by decide +kernel
theorem dX2_risesOf_9 : decode cX2_risesOf 9 = .ok (.ireturn, 1) := by decide +kernel
theorem dX2_endFrameUnfed_0 : decode cX2_endFrameUnfed 0 = .ok (.aload_n 0, 1) := by decide +kernel
theorem dX2_endFrameUnfed_1 : decode cX2_endFrameUnfed 1 = .ok (.dup, 1) := by decide +kernel
theorem dX2_endFrameUnfed_2 : decode cX2_endFrameUnfed 2 = .ok (.getfield 26, 3) := by decide +kernel
theorem dX2_endFrameUnfed_5 : decode cX2_endFrameUnfed 5 = .ok (.iconst 1, 1) := by decide +kernel
theorem dX2_endFrameUnfed_6 : decode cX2_endFrameUnfed 6 = .ok (.iadd, 1) := by decide +kernel
theorem dX2_endFrameUnfed_7 : decode cX2_endFrameUnfed 7 = .ok (.putfield 26, 3) := by decide +kernel
theorem dX2_endFrameUnfed_10 : decode cX2_endFrameUnfed 10 = .ok (.aload_n 0, 1) := by decide +kernel
theorem dX2_endFrameUnfed_11 : decode cX2_endFrameUnfed 11 = .ok (.getfield 26, 3) := by decide +kernel
theorem dX2_endFrameUnfed_14 : decode cX2_endFrameUnfed 14 = .ok (.bipush 16, 2) := by decide +kernel
theorem dX2_endFrameUnfed_16 : decode cX2_endFrameUnfed 16 = .ok (.if_icmp .lt 7, 3) := by decide +kernel
theorem dX2_endFrameUnfed_19 : decode cX2_endFrameUnfed 19 = .ok (.iconst 1, 1) := by decide +kernel
theorem dX2_endFrameUnfed_20 : decode cX2_endFrameUnfed 20 = .ok (.goto 4, 3) := by decide +kernel
theorem dX2_endFrameUnfed_23 : decode cX2_endFrameUnfed 23 = .ok (.iconst 0, 1) := by decide +kernel
theorem dX2_endFrameUnfed_24 : decode cX2_endFrameUnfed 24 = .ok (.ireturn, 1) := by decide +kernel
theorem dX2_setLatch_0 : decode cX2_setLatch 0 = .ok (.iload_n 2, 1) := by decide +kernel
theorem dX2_setLatch_1 : decode cX2_setLatch 1 = .ok (.aload_n 0, 1) := by decide +kernel
theorem dX2_setLatch_2 : decode cX2_setLatch 2 = .ok (.getfield 13, 3) := by decide +kernel
theorem dX2_setLatch_5 : decode cX2_setLatch 5 = .ok (.iload_n 1, 1) := by decide +kernel
theorem dX2_setLatch_6 : decode cX2_setLatch 6 = .ok (.iconst 1, 1) := by decide +kernel
theorem dX2_setLatch_7 : decode cX2_setLatch 7 = .ok (.iand, 1) := by decide +kernel
theorem dX2_setLatch_8 : decode cX2_setLatch 8 = .ok (.iaload, 1) := by decide +kernel
theorem dX2_setLatch_9 : decode cX2_setLatch 9 = .ok (.iconst (-1), 1) := by decide +kernel
theorem dX2_setLatch_10 : decode cX2_setLatch 10 = .ok (.ixor, 1) := by decide +kernel
theorem dX2_setLatch_11 : decode cX2_setLatch 11 = .ok (.iand, 1) := by decide +kernel
theorem dX2_setLatch_12 : decode cX2_setLatch 12 = .ok (.istore_n 3, 1) := by decide +kernel
theorem dX2_setLatch_13 : decode cX2_setLatch 13 = .ok (.iconst 0, 1) := by decide +kernel
theorem dX2_setLatch_14 : decode cX2_setLatch 14 = .ok (.istore 4, 2) := by decide +kernel
theorem dX2_setLatch_16 : decode cX2_setLatch 16 = .ok (.iload 4, 2) := by decide +kernel
theorem dX2_setLatch_18 : decode cX2_setLatch 18 = .ok (.bipush 8, 2) := by decide +kernel
theorem dX2_setLatch_20 : decode cX2_setLatch 20 = .ok (.if_icmp .ge 32, 3) := by decide +kernel
theorem dX2_setLatch_23 : decode cX2_setLatch 23 = .ok (.aload_n 0, 1) := by decide +kernel
theorem dX2_setLatch_24 : decode cX2_setLatch 24 = .ok (.getfield 16, 3) := by decide +kernel
theorem dX2_setLatch_27 : decode cX2_setLatch 27 = .ok (.bipush 8, 2) := by decide +kernel
theorem dX2_setLatch_29 : decode cX2_setLatch 29 = .ok (.iload_n 1, 1) := by decide +kernel
theorem dX2_setLatch_30 : decode cX2_setLatch 30 = .ok (.iconst 1, 1) := by decide +kernel
theorem dX2_setLatch_31 : decode cX2_setLatch 31 = .ok (.iand, 1) := by decide +kernel
theorem dX2_setLatch_32 : decode cX2_setLatch 32 = .ok (.imul, 1) := by decide +kernel
theorem dX2_setLatch_33 : decode cX2_setLatch 33 = .ok (.iload 4, 2) := by decide +kernel
theorem dX2_setLatch_35 : decode cX2_setLatch 35 = .ok (.iadd, 1) := by decide +kernel
theorem dX2_setLatch_36 : decode cX2_setLatch 36 = .ok (.dup2, 1) := by decide +kernel
theorem dX2_setLatch_37 : decode cX2_setLatch 37 = .ok (.iaload, 1) := by decide +kernel
theorem dX2_setLatch_38 : decode cX2_setLatch 38 = .ok (.iload_n 3, 1) := by decide +kernel
theorem dX2_setLatch_39 : decode cX2_setLatch 39 = .ok (.iload 4, 2) := by decide +kernel
theorem dX2_setLatch_41 : decode cX2_setLatch 41 = .ok (.ishr, 1) := by decide +kernel
theorem dX2_setLatch_42 : decode cX2_setLatch 42 = .ok (.iconst 1, 1) := by decide +kernel
theorem dX2_setLatch_43 : decode cX2_setLatch 43 = .ok (.iand, 1) := by decide +kernel
theorem dX2_setLatch_44 : decode cX2_setLatch 44 = .ok (.iadd, 1) := by decide +kernel
theorem dX2_setLatch_45 : decode cX2_setLatch 45 = .ok (.iastore, 1) := by decide +kernel
theorem dX2_setLatch_46 : decode cX2_setLatch 46 = .ok (.iinc 4 1, 3) := by decide +kernel
theorem dX2_setLatch_49 : decode cX2_setLatch 49 = .ok (.goto (-33), 3) := by decide +kernel
theorem dX2_setLatch_52 : decode cX2_setLatch 52 = .ok (.aload_n 0, 1) := by decide +kernel
theorem dX2_setLatch_53 : decode cX2_setLatch 53 = .ok (.getfield 13, 3) := by decide +kernel
theorem dX2_setLatch_56 : decode cX2_setLatch 56 = .ok (.iload_n 1, 1) := by decide +kernel
theorem dX2_setLatch_57 : decode cX2_setLatch 57 = .ok (.iconst 1, 1) := by decide +kernel
theorem dX2_setLatch_58 : decode cX2_setLatch 58 = .ok (.iand, 1) := by decide +kernel
theorem dX2_setLatch_59 : decode cX2_setLatch 59 = .ok (.iload_n 2, 1) := by decide +kernel
theorem dX2_setLatch_60 : decode cX2_setLatch 60 = .ok (.iastore, 1) := by decide +kernel
theorem dX2_setLatch_61 : decode cX2_setLatch 61 = .ok (.return_, 1) := by decide +kernel
end
section
theorem dX3_init_0 : decode cX3_init 0 = .ok (.aload_n 0, 1) := by decide +kernel
theorem dX3_init_1 : decode cX3_init 1 = .ok (.invokespecial 3, 3) := by decide +kernel
theorem dX3_init_4 : decode cX3_init 4 = .ok (.aload_n 0, 1) := by decide +kernel
theorem dX3_init_5 : decode cX3_init 5 = .ok (.bipush 8, 2) := by decide +kernel
theorem dX3_init_7 : decode cX3_init 7 = .ok (.newarray .int, 2) := by decide +kernel
theorem dX3_init_9 : decode cX3_init 9 = .ok (.putfield 9, 3) := by decide +kernel
theorem dX3_init_12 : decode cX3_init 12 = .ok (.aload_n 0, 1) := by decide +kernel
theorem dX3_init_13 : decode cX3_init 13 = .ok (.iconst 2, 1) := by decide +kernel
theorem dX3_init_14 : decode cX3_init 14 = .ok (.putfield 13, 3) := by decide +kernel
theorem dX3_init_17 : decode cX3_init 17 = .ok (.aload_n 0, 1) := by decide +kernel
theorem dX3_init_18 : decode cX3_init 18 = .ok (.aload_n 1, 1) := by decide +kernel
theorem dX3_init_19 : decode cX3_init 19 = .ok (.putfield 17, 3) := by decide +kernel
theorem dX3_init_22 : decode cX3_init 22 = .ok (.aload_n 0, 1) := by decide +kernel
theorem dX3_init_23 : decode cX3_init 23 = .ok (.aload_n 2, 1) := by decide +kernel
theorem dX3_init_24 : decode cX3_init 24 = .ok (.putfield 21, 3) := by decide +kernel
theorem dX3_init_27 : decode cX3_init 27 = .ok (.return_, 1) := by decide +kernel
theorem dX3_clear_0 : decode cX3_clear 0 = .ok (.iconst 0, 1) := by decide +kernel
theorem dX3_clear_1 : decode cX3_clear 1 = .ok (.istore_n 1, 1) := by decide +kernel
theorem dX3_clear_2 : decode cX3_clear 2 = .ok (.iload_n 1, 1) := by decide +kernel
theorem dX3_clear_3 : decode cX3_clear 3 = .ok (.aload_n 0, 1) := by decide +kernel
theorem dX3_clear_4 : decode cX3_clear 4 = .ok (.getfield 9, 3) := by decide +kernel
theorem dX3_clear_7 : decode cX3_clear 7 = .ok (.arraylength, 1) := by decide +kernel
theorem dX3_clear_8 : decode cX3_clear 8 = .ok (.if_icmp .ge 16, 3) := by decide +kernel
theorem dX3_clear_11 : decode cX3_clear 11 = .ok (.aload_n 0, 1) := by decide +kernel
theorem dX3_clear_12 : decode cX3_clear 12 = .ok (.getfield 9, 3) := by decide +kernel
theorem dX3_clear_15 : decode cX3_clear 15 = .ok (.iload_n 1, 1) := by decide +kernel
theorem dX3_clear_16 : decode cX3_clear 16 = .ok (.iconst 0, 1) := by decide +kernel
theorem dX3_clear_17 : decode cX3_clear 17 = .ok (.iastore, 1) := by decide +kernel
theorem dX3_clear_18 : decode cX3_clear 18 = .ok (.iinc 1 1, 3) := by decide +kernel
theorem dX3_clear_21 : decode cX3_clear 21 = .ok (.goto (-19), 3) := by decide +kernel
theorem dX3_clear_24 : decode cX3_clear 24 = .ok (.aload_n 0, 1) := by decide +kernel
theorem dX3_clear_25 : decode cX3_clear 25 = .ok (.iconst 2, 1) := by decide +kernel
theorem dX3_clear_26 : decode cX3_clear 26 = .ok (.putfield 13, 3) := by decide +kernel
theorem dX3_clear_29 : decode cX3_clear 29 = .ok (.aload_n 0, 1) := by decide +kernel
theorem dX3_clear_30 : decode cX3_clear 30 = .ok (.iconst 0, 1) := by decide +kernel
theorem dX3_clear_31 : decode cX3_clear 31 = .ok (.putfield 25, 3) := by decide +kernel
theorem dX3_clear_34 : decode cX3_clear 34 = .ok (.aload_n 0, 1) := by decide +kernel
theorem dX3_clear_35 : decode cX3_clear 35 = .ok (.iconst 0, 1) := by decide +kernel
theorem dX3_clear_36 : decode cX3_clear 36 = .ok (.putfield 28, 3) := by decide +kernel
theorem dX3_clear_39 : decode cX3_clear 39 = .ok (.aload_n 0, 1) := by decide +kernel
theorem dX3_clear_40 : decode cX3_clear 40 = .ok (.iconst 0, 1) := by decide +kernel
theorem dX3_clear_41 : decode cX3_clear 41 = .ok (.putfield 31, 3) := by decide +kernel
theorem dX3_clear_44 : decode cX3_clear 44 = .ok (.aload_n 0, 1) := by decide +kernel
theorem dX3_clear_45 : decode cX3_clear 45 = .ok (.iconst 0, 1) := by decide +kernel
theorem dX3_clear_46 : decode cX3_clear 46 = .ok (.putfield 35, 3) := by decide +kernel
theorem dX3_clear_49 : decode cX3_clear 49 = .ok (.aload_n 0, 1) := by decide +kernel
theorem dX3_clear_50 : decode cX3_clear 50 = .ok (.iconst 0, 1) := by decide +kernel
theorem dX3_clear_51 : decode cX3_clear 51 = .ok (.putfield 38, 3) := by decide +kernel
theorem dX3_clear_54 : decode cX3_clear 54 = .ok (.return_, 1) := by decide +kernel
theorem dX3_contentOf_0 : decode cX3_contentOf 0 = .ok (.iload_n 1, 1) := by decide +kernel
theorem dX3_contentOf_1 : decode cX3_contentOf 1 = .ok (.tableswitch 80 6 11 #[39, 80, 44, 49, 54, 67], 39) := by decide +kernel
theorem dX3_contentOf_40 : decode cX3_contentOf 40 = .ok (.aload_n 0, 1) := by decide +kernel
theorem dX3_contentOf_41 : decode cX3_contentOf 41 = .ok (.getfield 13, 3) := by decide +kernel
theorem dX3_contentOf_44 : decode cX3_contentOf 44 = .ok (.ireturn, 1) := by decide +kernel
theorem dX3_contentOf_45 : decode cX3_contentOf 45 = .ok (.aload_n 0, 1) := by decide +kernel
theorem dX3_contentOf_46 : decode cX3_contentOf 46 = .ok (.getfield 25, 3) := by decide +kernel
theorem dX3_contentOf_49 : decode cX3_contentOf 49 = .ok (.ireturn, 1) := by decide +kernel
theorem dX3_contentOf_50 : decode cX3_contentOf 50 = .ok (.aload_n 0, 1) := by decide +kernel
theorem dX3_contentOf_51 : decode cX3_contentOf 51 = .ok (.getfield 28, 3) := by decide +kernel
theorem dX3_contentOf_54 : decode cX3_contentOf 54 = .ok (.ireturn, 1) := by decide +kernel
theorem dX3_contentOf_55 : decode cX3_contentOf 55 = .ok (.aload_n 0, 1) := by decide +kernel
theorem dX3_contentOf_56 : decode cX3_contentOf 56 = .ok (.getfield 31, 3) := by decide +kernel
theorem dX3_contentOf_59 : decode cX3_contentOf 59 = .ok (.ifCond .eq 7, 3) := by decide +kernel
theorem dX3_contentOf_62 : decode cX3_contentOf 62 = .ok (.iconst 1, 1) := by decide +kernel
theorem dX3_contentOf_63 : decode cX3_contentOf 63 = .ok (.goto 4, 3) := by decide +kernel
theorem dX3_contentOf_66 : decode cX3_contentOf 66 = .ok (.iconst 0, 1) := by decide +kernel
theorem dX3_contentOf_67 : decode cX3_contentOf 67 = .ok (.ireturn, 1) := by decide +kernel
theorem dX3_contentOf_68 : decode cX3_contentOf 68 = .ok (.aload_n 0, 1) := by decide +kernel
theorem dX3_contentOf_69 : decode cX3_contentOf 69 = .ok (.getfield 38, 3) := by decide +kernel
theorem dX3_contentOf_72 : decode cX3_contentOf 72 = .ok (.ifCond .eq 7, 3) := by decide +kernel
theorem dX3_contentOf_75 : decode cX3_contentOf 75 = .ok (.iconst 1, 1) := by decide +kernel
theorem dX3_contentOf_76 : decode cX3_contentOf 76 = .ok (.goto 4, 3) := by decide +kernel
theorem dX3_contentOf_79 : decode cX3_contentOf 79 = .ok (.iconst 0, 1) := by decide +kernel
theorem dX3_contentOf_80 : decode cX3_contentOf 80 = .ok (.ireturn, 1) := by decide +kernel
theorem dX3_contentOf_81 : decode cX3_contentOf 81 = .ok (.aload_n 0, 1) := by decide +kernel
theorem dX3_contentOf_82 : decode cX3_contentOf 82 = .ok (.getfield 9, 3) := by decide +kernel
theorem dX3_contentOf_85 : decode cX3_contentOf 85 = .ok (.iload_n 1, 1) := by decide +kernel
theorem dX3_contentOf_86 : decode cX3_contentOf 86 = .ok (.bipush 7, 2) := by decide +kernel
theorem dX3_contentOf_88 : decode cX3_contentOf 88 = .ok (.iand, 1) := by decide +kernel
theorem dX3_contentOf_89 : decode cX3_contentOf 89 = .ok (.iaload, 1) := by decide +kernel
theorem dX3_contentOf_90 : decode cX3_contentOf 90 = .ok (.ireturn, 1) := by decide +kernel
set_option maxRecDepth 20000 in
theorem ggX3_takeRequest_X3_push : GoodIn wsX3_takeRequest wsX3_push := goodIn_r _ [8, 9, 10, 11, 12, 13, 14, 15, 16, 17, 18, 19, 20, 21, 22, 23, 24, 25, 26, 27, 28, 29, 30, 31, 32] (by decide +kernel) (by decide +kernel)
set_option maxRecDepth 20000 in
theorem gX3_takeRequest_X3_push : GoodIn wsX3_takeRequest (wsV RX3 41 RX3 yX3_push wsX3_push) := goodIn_app (goodIn_of _ (by decide +kernel)) ggX3_takeRequest_X3_push
theorem dX3_takeRequest_0 : decode cX3_takeRequest 0 = .ok (.aload_n 0, 1) := by decide +kernel
theorem dX3_takeRequest_1 : decode cX3_takeRequest 1 = .ok (.iconst 0, 1) := by decide +kernel
theorem dX3_takeRequest_2 : decode cX3_takeRequest 2 = .ok (.putfield 31, 3) := by decide +kernel
theorem dX3_takeRequest_5 : decode cX3_takeRequest 5 = .ok (.aload_n 0, 1) := by decide +kernel
theorem dX3_takeRequest_6 : decode cX3_takeRequest 6 = .ok (.iconst 0, 1) := by decide +kernel
theorem dX3_takeRequest_7 : decode cX3_takeRequest 7 = .ok (.putfield 38, 3) := by decide +kernel
theorem dX3_takeRequest_10 : decode cX3_takeRequest 10 = .ok (.aload_n 0, 1) := by decide +kernel
theorem dX3_takeRequest_11 : decode cX3_takeRequest 11 = .ok (.aload_n 0, 1) := by decide +kernel
theorem dX3_takeRequest_12 : decode cX3_takeRequest 12 = .ok (.getfield 28, 3) := by decide +kernel
theorem dX3_takeRequest_15 : decode cX3_takeRequest 15 = .ok (.invokevirtual 41, 3) := by decide +kernel
theorem dX3_takeRequest_18 : decode cX3_takeRequest 18 = .ok (.aload_n 0, 1) := by decide +kernel
theorem dX3_takeRequest_19 : decode cX3_takeRequest 19 = .ok (.bipush 8, 2) := by decide +kernel
theorem dX3_takeRequest_21 : decode cX3_takeRequest 21 = .ok (.iload_n 1, 1) := by decide +kernel
theorem dX3_takeRequest_22 : decode cX3_takeRequest 22 = .ok (.imul, 1) := by decide +kernel
theorem dX3_takeRequest_23 : decode cX3_takeRequest 23 = .ok (.putfield 28, 3) := by decide +kernel
theorem dX3_takeRequest_26 : decode cX3_takeRequest 26 = .ok (.bipush 11, 2) := by decide +kernel
theorem dX3_takeRequest_28 : decode cX3_takeRequest 28 = .ok (.ireturn, 1) := by decide +kernel
set_option maxRecDepth 20000 in
theorem ggX3_execute_X3_fetch : GoodIn wsX3_execute wsX3_fetch := goodIn_r _ [8, 9, 10, 11, 12, 13, 14, 15, 16, 17, 18, 19, 204, 205, 206, 207, 208, 209, 210, 211, 212, 213, 214] (by decide +kernel) (by decide +kernel)
set_option maxRecDepth 20000 in
theorem gX3_execute_X3_fetch : GoodIn wsX3_execute (wsV RX3 45 RX3 yX3_fetch wsX3_fetch) := goodIn_app (goodIn_of _ (by decide +kernel)) ggX3_execute_X3_fetch
set_option maxRecDepth 20000 in
theorem ggX3_execute_X3_executeLow : GoodIn wsX3_execute wsX3_executeLow := goodIn_r _ [23, 24, 25, 26, 7, 27, 28, 29, 30, 31, 32, 33, 34, 35, 36, 37, 38, 39, 40, 41, 42, 43, 44, 45, 46, 47, 48, 49, 50, 9, 10, 11, 51, 52, 53, 15, 54, 55, 13, 14, 16, 17, 18, 19, 56, 57, 58, 59, 60, 61, 62, 63, 64, 65, 66, 67, 12, 68, 69, 70, 71, 72, 73, 74, 75, 76, 77, 78, 79, 80, 81, 82, 83, 84, 85, 86, 87, 88, 89, 90, 91, 92, 93, 94, 95, 96, 97, 98, 4, 5, 6, 8, 99, 100, 101, 102, 103, 104, 105, 106, 107, 108, 109, 110, 204, 205, 206, 207, 208, 209, 210, 211, 212, 213, 214] (by decide +kernel) (by decide +kernel)
set_option maxRecDepth 20000 in
theorem gX3_execute_X3_executeLow : GoodIn wsX3_execute (wsV RX3 52 RX3 yX3_executeLow wsX3_executeLow) := goodIn_app (goodIn_of _ (by decide +kernel)) ggX3_execute_X3_executeLow
set_option maxRecDepth 20000 in
theorem ggX3_execute_X3_executeMove : GoodIn wsX3_execute wsX3_executeMove := goodIn_r _ [114, 115, 73, 74, 75, 7, 76, 9, 33, 29, 30, 31, 32, 12, 13, 14, 15, 16, 17, 18, 19, 91, 92, 93, 94, 64, 65, 66, 67, 204, 205, 206, 207, 208, 209, 210, 211, 212, 213, 214] (by decide +kernel) (by decide +kernel)
set_option maxRecDepth 20000 in
theorem gX3_execute_X3_executeMove : GoodIn wsX3_execute (wsV RX3 55 RX3 yX3_executeMove wsX3_executeMove) := goodIn_app (goodIn_of _ (by decide +kernel)) ggX3_execute_X3_executeMove
set_option maxRecDepth 20000 in
theorem ggX3_execute_X3_operand : GoodIn wsX3_execute wsX3_operand := goodIn_r _ [76, 9, 33, 29, 30, 31, 7, 32, 12, 13, 14, 15, 16, 17, 18, 19, 204, 205, 206, 207, 208, 209, 210, 211, 212, 213, 214] (by decide +kernel) (by decide +kernel)
set_option maxRecDepth 20000 in
theorem gX3_execute_X3_operand : GoodIn wsX3_execute (wsV RX3 58 RX3 yX3_operand wsX3_operand) := goodIn_app (goodIn_of _ (by decide +kernel)) ggX3_execute_X3_operand
set_option maxRecDepth 20000 in
theorem ggX3_execute_X3_calculate : GoodIn wsX3_execute wsX3_calculate := goodIn_r _ [119, 33, 46, 120, 121, 122, 7, 123, 81, 82, 83, 84, 85, 86, 87, 88, 89, 90, 124, 125, 126, 127, 204, 205, 206, 207, 208, 209, 210, 211, 212] (by decide +kernel) (by decide +kernel)
set_option maxRecDepth 20000 in
theorem gX3_execute_X3_calculate : GoodIn wsX3_execute (wsV RX3 62 RX3 yX3_calculate wsX3_calculate) := goodIn_app (goodIn_of _ (by decide +kernel)) ggX3_execute_X3_calculate
set_option maxRecDepth 20000 in
theorem ggX3_execute_X3_executeHigh : GoodIn wsX3_execute wsX3_executeHigh := goodIn_r _ [131, 10, 132, 133, 134, 7, 135, 46, 136, 137, 138, 139, 140, 141, 142, 143, 9, 28, 11, 51, 52, 53, 15, 54, 55, 13, 14, 16, 17, 18, 19, 144, 145, 146, 147, 29, 30, 31, 32, 33, 148, 149, 150, 151, 38, 39, 40, 41, 152, 153, 154, 155, 47, 48, 49, 50, 156, 157, 158, 159, 160, 3, 1, 4, 5, 6, 8, 12, 161, 162, 163, 164, 165, 166, 167, 168, 169, 170, 171, 172, 173, 174, 175, 176, 177, 178, 179, 180, 181, 182, 183, 184, 185, 186, 187, 68, 69, 70, 71, 72, 65, 66, 67, 188, 189, 190, 191, 192, 193, 194, 195, 196, 197, 198, 199, 200, 201, 202, 203, 116, 117, 118, 119, 120, 121, 122, 123, 81, 82, 83, 84, 85, 86, 87, 88, 89, 90, 124, 125, 126, 127, 204, 205, 206, 207, 208, 209, 210, 211, 212, 213, 214, 215, 216, 217, 218, 219, 220] (by decide +kernel) (by decide +kernel)
set_option maxRecDepth 20000 in
theorem gX3_execute_X3_executeHigh : GoodIn wsX3_execute (wsV RX3 66 RX3 yX3_executeHigh wsX3_executeHigh) := goodIn_app (goodIn_of _ (by decide +kernel)) ggX3_execute_X3_executeHigh
theorem dX3_execute_0 : decode cX3_execute 0 = .ok (.aload_n 0, 1) := by decide +kernel
theorem dX3_execute_1 : decode cX3_execute 1 = .ok (.getfield 35, 3) := by decide +kernel
theorem dX3_execute_4 : decode cX3_execute 4 = .ok (.istore_n 1, 1) := by decide +kernel
theorem dX3_execute_5 : decode cX3_execute 5 = .ok (.aload_n 0, 1) := by decide +kernel
theorem dX3_execute_6 : decode cX3_execute 6 = .ok (.invokevirtual 45, 3) := by decide +kernel
theorem dX3_execute_9 : decode cX3_execute 9 = .ok (.istore_n 2, 1) := by decide +kernel
theorem dX3_execute_10 : decode cX3_execute 10 = .ok (.getstatic 49, 3) := by decide +kernel
theorem dX3_execute_13 : decode cX3_execute 13 = .ok (.iload_n 2, 1) := by decide +kernel
theorem dX3_execute_14 : decode cX3_execute 14 = .ok (.sipush 255, 3) := by decide +kernel
theorem dX3_execute_17 : decode cX3_execute 17 = .ok (.iand, 1) := by decide +kernel
theorem dX3_execute_18 : decode cX3_execute 18 = .ok (.iaload, 1) := by decide +kernel
theorem dX3_execute_19 : decode cX3_execute 19 = .ok (.istore_n 3, 1) := by decide +kernel
theorem dX3_execute_20 : decode cX3_execute 20 = .ok (.iload_n 2, 1) := by decide +kernel
theorem dX3_execute_21 : decode cX3_execute 21 = .ok (.bipush 6, 2) := by decide +kernel
theorem dX3_execute_23 : decode cX3_execute 23 = .ok (.ishr, 1) := by decide +kernel
theorem dX3_execute_24 : decode cX3_execute 24 = .ok (.tableswitch 59 0 2 #[28, 36, 44], 28) := by decide +kernel
theorem dX3_execute_52 : decode cX3_execute 52 = .ok (.aload_n 0, 1) := by decide +kernel
theorem dX3_execute_53 : decode cX3_execute 53 = .ok (.iload_n 2, 1) := by decide +kernel
theorem dX3_execute_54 : decode cX3_execute 54 = .ok (.invokevirtual 52, 3) := by decide +kernel
theorem dX3_execute_57 : decode cX3_execute 57 = .ok (.goto 34, 3) := by decide +kernel
theorem dX3_execute_60 : decode cX3_execute 60 = .ok (.aload_n 0, 1) := by decide +kernel
theorem dX3_execute_61 : decode cX3_execute 61 = .ok (.iload_n 2, 1) := by decide +kernel
theorem dX3_execute_62 : decode cX3_execute 62 = .ok (.invokevirtual 55, 3) := by decide +kernel
theorem dX3_execute_65 : decode cX3_execute 65 = .ok (.goto 26, 3) := by decide +kernel
theorem dX3_execute_68 : decode cX3_execute 68 = .ok (.aload_n 0, 1) := by decide +kernel
theorem dX3_execute_69 : decode cX3_execute 69 = .ok (.iload_n 2, 1) := by decide +kernel
theorem dX3_execute_70 : decode cX3_execute 70 = .ok (.iconst 3, 1) := by decide +kernel
theorem dX3_execute_71 : decode cX3_execute 71 = .ok (.ishr, 1) := by decide +kernel
theorem dX3_execute_72 : decode cX3_execute 72 = .ok (.aload_n 0, 1) := by decide +kernel
theorem dX3_execute_73 : decode cX3_execute 73 = .ok (.iload_n 2, 1) := by decide +kernel
theorem dX3_execute_74 : decode cX3_execute 74 = .ok (.invokevirtual 58, 3) := by decide +kernel
theorem dX3_execute_77 : decode cX3_execute 77 = .ok (.invokevirtual 62, 3) := by decide +kernel
theorem dX3_execute_80 : decode cX3_execute 80 = .ok (.goto 11, 3) := by decide +kernel
theorem dX3_execute_83 : decode cX3_execute 83 = .ok (.iload_n 3, 1) := by decide +kernel
theorem dX3_execute_84 : decode cX3_execute 84 = .ok (.aload_n 0, 1) := by decide +kernel
theorem dX3_execute_85 : decode cX3_execute 85 = .ok (.iload_n 2, 1) := by decide +kernel
theorem dX3_execute_86 : decode cX3_execute 86 = .ok (.invokevirtual 66, 3) := by decide +kernel
theorem dX3_execute_89 : decode cX3_execute 89 = .ok (.iadd, 1) := by decide +kernel
theorem dX3_execute_90 : decode cX3_execute 90 = .ok (.istore_n 3, 1) := by decide +kernel
theorem dX3_execute_91 : decode cX3_execute 91 = .ok (.iload_n 1, 1) := by decide +kernel
theorem dX3_execute_92 : decode cX3_execute 92 = .ok (.ifCond .eq 20, 3) := by decide +kernel
theorem dX3_execute_95 : decode cX3_execute 95 = .ok (.aload_n 0, 1) := by decide +kernel
theorem dX3_execute_96 : decode cX3_execute 96 = .ok (.getfield 35, 3) := by decide +kernel
theorem dX3_execute_99 : decode cX3_execute 99 = .ok (.ifCond .eq 13, 3) := by decide +kernel
theorem dX3_execute_102 : decode cX3_execute 102 = .ok (.aload_n 0, 1) := by decide +kernel
theorem dX3_execute_103 : decode cX3_execute 103 = .ok (.iconst 1, 1) := by decide +kernel
theorem dX3_execute_104 : decode cX3_execute 104 = .ok (.putfield 31, 3) := by decide +kernel
theorem dX3_execute_107 : decode cX3_execute 107 = .ok (.aload_n 0, 1) := by decide +kernel
theorem dX3_execute_108 : decode cX3_execute 108 = .ok (.iconst 0, 1) := by decide +kernel
theorem dX3_execute_109 : decode cX3_execute 109 = .ok (.putfield 35, 3) := by decide +kernel
theorem dX3_execute_112 : decode cX3_execute 112 = .ok (.iload_n 3, 1) := by decide +kernel
theorem dX3_execute_113 : decode cX3_execute 113 = .ok (.ireturn, 1) := by decide +kernel
set_option maxRecDepth 20000 in
theorem ggX3_executeLow_X3_pairOrSp : GoodIn wsX3_executeLow wsX3_pairOrSp := goodIn_r _ [5, 6, 7, 8, 9, 4, 10, 11, 104, 105, 106, 107, 108, 109, 110, 111, 112] (by decide +kernel) (by decide +kernel)
set_option maxRecDepth 20000 in
theorem gX3_executeLow_X3_pairOrSp : GoodIn wsX3_executeLow (wsV RX3 69 RX3 yX3_pairOrSp wsX3_pairOrSp) := goodIn_app (goodIn_of _ (by decide +kernel)) ggX3_executeLow_X3_pairOrSp
set_option maxRecDepth 20000 in
theorem ggX3_executeLow_X3_addToHl : GoodIn wsX3_executeLow wsX3_addToHl := goodIn_r _ [15, 7, 8, 9, 4, 10, 11, 16, 17, 18, 19, 20, 21, 22, 23, 24, 104, 105, 106, 107, 108, 109, 110, 111, 112] (by decide +kernel) (by decide +kernel)
set_option maxRecDepth 20000 in
theorem gX3_executeLow_X3_addToHl : GoodIn wsX3_executeLow (wsV RX3 72 RX3 yX3_addToHl wsX3_addToHl) := goodIn_app (goodIn_of _ (by decide +kernel)) ggX3_executeLow_X3_addToHl
set_option maxRecDepth 20000 in
theorem ggX3_executeLow_X3_fetchWord : GoodIn wsX3_executeLow wsX3_fetchWord := goodIn_r _ [28, 29, 30, 31, 32, 33, 34, 35, 36, 37, 38, 39, 40, 41, 42, 43, 104, 105, 106, 107, 108, 109, 110, 111, 112, 113, 114] (by decide +kernel) (by decide +kernel)
set_option maxRecDepth 20000 in
theorem gX3_executeLow_X3_fetchWord : GoodIn wsX3_executeLow (wsV RX3 75 RX3 yX3_fetchWord wsX3_fetchWord) := goodIn_app (goodIn_of _ (by decide +kernel)) ggX3_executeLow_X3_fetchWord
set_option maxRecDepth 20000 in
theorem ggX3_executeLow_X3_setPairOrSp : GoodIn wsX3_executeLow wsX3_setPairOrSp := goodIn_r _ [47, 31, 6, 16, 17, 18, 4, 19, 11, 104, 105, 106, 107, 108, 109, 110, 111, 112] (by decide +kernel) (by decide +kernel)
set_option maxRecDepth 20000 in
theorem gX3_executeLow_X3_setPairOrSp : GoodIn wsX3_executeLow (wsV RX3 78 RX3 yX3_setPairOrSp wsX3_setPairOrSp) := goodIn_app (goodIn_of _ (by decide +kernel)) ggX3_executeLow_X3_setPairOrSp
set_option maxRecDepth 20000 in
theorem ggX3_executeLow_X3_loadOrStore : GoodIn wsX3_executeLow wsX3_loadOrStore := goodIn_r _ [51, 29, 11, 7, 8, 9, 4, 10, 52, 53, 54, 35, 55, 41, 56, 38, 39, 40, 42, 43, 25, 26, 27, 28, 30, 31, 32, 33, 34, 36, 37, 57, 58, 59, 60, 61, 16, 17, 18, 19, 104, 105, 106, 107, 108, 109, 110, 111, 112, 113, 114] (by decide +kernel) (by decide +kernel)
set_option maxRecDepth 20000 in
theorem gX3_executeLow_X3_loadOrStore : GoodIn wsX3_executeLow (wsV RX3 81 RX3 yX3_loadOrStore wsX3_loadOrStore) := goodIn_app (goodIn_of _ (by decide +kernel)) ggX3_executeLow_X3_loadOrStore
set_option maxRecDepth 20000 in
theorem ggX3_executeLow_X3_operand : GoodIn wsX3_executeLow wsX3_operand := goodIn_r _ [65, 29, 11, 7, 8, 9, 4, 10, 56, 38, 39, 35, 40, 41, 42, 43, 104, 105, 106, 107, 108, 109, 110, 111, 112, 113, 114] (by decide +kernel) (by decide +kernel)
set_option maxRecDepth 20000 in
theorem gX3_executeLow_X3_operand : GoodIn wsX3_executeLow (wsV RX3 58 RX3 yX3_operand wsX3_operand) := goodIn_app (goodIn_of _ (by decide +kernel)) ggX3_executeLow_X3_operand
set_option maxRecDepth 20000 in
theorem ggX3_executeLow_X3_increment : GoodIn wsX3_executeLow wsX3_increment := goodIn_r _ [69, 24, 70, 71, 4, 72, 73, 74, 75, 76, 77, 78, 79, 104, 105, 106, 107, 108, 109, 110, 111, 112] (by decide +kernel) (by decide +kernel)
set_option maxRecDepth 20000 in
theorem gX3_executeLow_X3_increment : GoodIn wsX3_executeLow (wsV RX3 84 RX3 yX3_increment wsX3_increment) := goodIn_app (goodIn_of _ (by decide +kernel)) ggX3_executeLow_X3_increment
set_option maxRecDepth 20000 in
theorem ggX3_executeLow_X3_setOperand : GoodIn wsX3_executeLow wsX3_setOperand := goodIn_r _ [83, 29, 11, 7, 8, 9, 4, 10, 52, 53, 54, 35, 55, 41, 104, 105, 106, 107, 108, 109, 110, 111, 112, 113, 114] (by decide +kernel) (by decide +kernel)
set_option maxRecDepth 20000 in
theorem gX3_executeLow_X3_setOperand : GoodIn wsX3_executeLow (wsV RX3 87 RX3 yX3_setOperand wsX3_setOperand) := goodIn_app (goodIn_of _ (by decide +kernel)) ggX3_executeLow_X3_setOperand
set_option maxRecDepth 20000 in
theorem ggX3_executeLow_X3_decrement : GoodIn wsX3_executeLow wsX3_decrement := goodIn_r _ [87, 24, 70, 71, 4, 72, 73, 74, 75, 76, 77, 78, 79, 104, 105, 106, 107, 108, 109, 110, 111, 112] (by decide +kernel) (by decide +kernel)
set_option maxRecDepth 20000 in
theorem gX3_executeLow_X3_decrement : GoodIn wsX3_executeLow (wsV RX3 90 RX3 yX3_decrement wsX3_decrement) := goodIn_app (goodIn_of _ (by decide +kernel)) ggX3_executeLow_X3_decrement
set_option maxRecDepth 20000 in
theorem ggX3_executeLow_X3_fetch : GoodIn wsX3_executeLow wsX3_fetch := goodIn_r _ [91, 29, 30, 31, 56, 38, 39, 35, 40, 41, 42, 43, 104, 105, 106, 107, 108, 109, 110, 111, 112, 113, 114] (by decide +kernel) (by decide +kernel)
set_option maxRecDepth 20000 in
theorem gX3_executeLow_X3_fetch : GoodIn wsX3_executeLow (wsV RX3 45 RX3 yX3_fetch wsX3_fetch) := goodIn_app (goodIn_of _ (by decide +kernel)) ggX3_executeLow_X3_fetch
set_option maxRecDepth 20000 in
theorem ggX3_executeLow_X3_changeAccumulator : GoodIn wsX3_executeLow wsX3_changeAccumulator := goodIn_r _ [95, 11, 24, 96, 97, 98, 4, 99, 20, 21, 22, 23, 100, 101, 102, 103, 70, 71, 72, 73, 74, 75, 76, 77, 78, 79, 104, 105, 106, 107, 108, 109, 110, 111, 112] (by decide +kernel) (by decide +kernel)
set_option maxRecDepth 20000 in
theorem gX3_executeLow_X3_changeAccumulator : GoodIn wsX3_executeLow (wsV RX3 93 RX3 yX3_changeAccumulator wsX3_changeAccumulator) := goodIn_app (goodIn_of _ (by decide +kernel)) ggX3_executeLow_X3_changeAccumulator
theorem dX3_executeLow_0 : decode cX3_executeLow 0 = .ok (.iload_n 1, 1) := by decide +kernel
theorem dX3_executeLow_1 : decode cX3_executeLow 1 = .ok (.iconst 4, 1) := by decide +kernel
theorem dX3_executeLow_2 : decode cX3_executeLow 2 = .ok (.ishr, 1) := by decide +kernel
theorem dX3_executeLow_3 : decode cX3_executeLow 3 = .ok (.iconst 3, 1) := by decide +kernel
theorem dX3_executeLow_4 : decode cX3_executeLow 4 = .ok (.iand, 1) := by decide +kernel
theorem dX3_executeLow_5 : decode cX3_executeLow 5 = .ok (.istore_n 2, 1) := by decide +kernel
theorem dX3_executeLow_6 : decode cX3_executeLow 6 = .ok (.iload_n 1, 1) := by decide +kernel
theorem dX3_executeLow_7 : decode cX3_executeLow 7 = .ok (.iconst 3, 1) := by decide +kernel
theorem dX3_executeLow_8 : decode cX3_executeLow 8 = .ok (.ishr, 1) := by decide +kernel
theorem dX3_executeLow_9 : decode cX3_executeLow 9 = .ok (.bipush 7, 2) := by decide +kernel
theorem dX3_executeLow_11 : decode cX3_executeLow 11 = .ok (.iand, 1) := by decide +kernel
theorem dX3_executeLow_12 : decode cX3_executeLow 12 = .ok (.istore_n 3, 1) := by decide +kernel
theorem dX3_executeLow_13 : decode cX3_executeLow 13 = .ok (.iload_n 1, 1) := by decide +kernel
theorem dX3_executeLow_14 : decode cX3_executeLow 14 = .ok (.bipush 8, 2) := by decide +kernel
theorem dX3_executeLow_16 : decode cX3_executeLow 16 = .ok (.iand, 1) := by decide +kernel
theorem dX3_executeLow_17 : decode cX3_executeLow 17 = .ok (.ifCond .eq 7, 3) := by decide +kernel
theorem dX3_executeLow_20 : decode cX3_executeLow 20 = .ok (.iconst 1, 1) := by decide +kernel
theorem dX3_executeLow_21 : decode cX3_executeLow 21 = .ok (.goto 4, 3) := by decide +kernel
theorem dX3_executeLow_24 : decode cX3_executeLow 24 = .ok (.iconst 0, 1) := by decide +kernel
theorem dX3_executeLow_25 : decode cX3_executeLow 25 = .ok (.istore 4, 2) := by decide +kernel
theorem dX3_executeLow_27 : decode cX3_executeLow 27 = .ok (.iload_n 1, 1) := by decide +kernel
theorem dX3_executeLow_28 : decode cX3_executeLow 28 = .ok (.bipush 7, 2) := by decide +kernel
theorem dX3_executeLow_30 : decode cX3_executeLow 30 = .ok (.iand, 1) := by decide +kernel
theorem dX3_executeLow_31 : decode cX3_executeLow 31 = .ok (.tableswitch 156 1 7 #[41, 70, 78, 102, 119, 136, 148], 41) := by decide +kernel
theorem dX3_executeLow_72 : decode cX3_executeLow 72 = .ok (.iload 4, 2) := by decide +kernel
theorem dX3_executeLow_74 : decode cX3_executeLow 74 = .ok (.ifCond .eq 15, 3) := by decide +kernel
theorem dX3_executeLow_77 : decode cX3_executeLow 77 = .ok (.aload_n 0, 1) := by decide +kernel
theorem dX3_executeLow_78 : decode cX3_executeLow 78 = .ok (.aload_n 0, 1) := by decide +kernel
theorem dX3_executeLow_79 : decode cX3_executeLow 79 = .ok (.iload_n 2, 1) := by decide +kernel
theorem dX3_executeLow_80 : decode cX3_executeLow 80 = .ok (.invokevirtual 69, 3) := by decide +kernel
theorem dX3_executeLow_83 : decode cX3_executeLow 83 = .ok (.invokevirtual 72, 3) := by decide +kernel
theorem dX3_executeLow_86 : decode cX3_executeLow 86 = .ok (.goto 101, 3) := by decide +kernel
theorem dX3_executeLow_89 : decode cX3_executeLow 89 = .ok (.aload_n 0, 1) := by decide +kernel
theorem dX3_executeLow_90 : decode cX3_executeLow 90 = .ok (.iload_n 2, 1) := by decide +kernel
theorem dX3_executeLow_91 : decode cX3_executeLow 91 = .ok (.aload_n 0, 1) := by decide +kernel
theorem dX3_executeLow_92 : decode cX3_executeLow 92 = .ok (.invokevirtual 75, 3) := by decide +kernel
theorem dX3_executeLow_95 : decode cX3_executeLow 95 = .ok (.invokevirtual 78, 3) := by decide +kernel
theorem dX3_executeLow_98 : decode cX3_executeLow 98 = .ok (.goto 89, 3) := by decide +kernel
theorem dX3_executeLow_101 : decode cX3_executeLow 101 = .ok (.aload_n 0, 1) := by decide +kernel
theorem dX3_executeLow_102 : decode cX3_executeLow 102 = .ok (.iload_n 3, 1) := by decide +kernel
theorem dX3_executeLow_103 : decode cX3_executeLow 103 = .ok (.invokevirtual 81, 3) := by decide +kernel
theorem dX3_executeLow_106 : decode cX3_executeLow 106 = .ok (.goto 81, 3) := by decide +kernel
theorem dX3_executeLow_109 : decode cX3_executeLow 109 = .ok (.aload_n 0, 1) := by decide +kernel
theorem dX3_executeLow_110 : decode cX3_executeLow 110 = .ok (.iload_n 2, 1) := by decide +kernel
theorem dX3_executeLow_111 : decode cX3_executeLow 111 = .ok (.aload_n 0, 1) := by decide +kernel
theorem dX3_executeLow_112 : decode cX3_executeLow 112 = .ok (.iload_n 2, 1) := by decide +kernel
theorem dX3_executeLow_113 : decode cX3_executeLow 113 = .ok (.invokevirtual 69, 3) := by decide +kernel
theorem dX3_executeLow_116 : decode cX3_executeLow 116 = .ok (.iload 4, 2) := by decide +kernel
theorem dX3_executeLow_118 : decode cX3_executeLow 118 = .ok (.ifCond .eq 7, 3) := by decide +kernel
theorem dX3_executeLow_121 : decode cX3_executeLow 121 = .ok (.iconst (-1), 1) := by decide +kernel
theorem dX3_executeLow_122 : decode cX3_executeLow 122 = .ok (.goto 4, 3) := by decide +kernel
theorem dX3_executeLow_125 : decode cX3_executeLow 125 = .ok (.iconst 1, 1) := by decide +kernel
theorem dX3_executeLow_126 : decode cX3_executeLow 126 = .ok (.iadd, 1) := by decide +kernel
theorem dX3_executeLow_127 : decode cX3_executeLow 127 = .ok (.invokevirtual 78, 3) := by decide +kernel
theorem dX3_executeLow_130 : decode cX3_executeLow 130 = .ok (.goto 57, 3) := by decide +kernel
theorem dX3_executeLow_133 : decode cX3_executeLow 133 = .ok (.aload_n 0, 1) := by decide +kernel
theorem dX3_executeLow_134 : decode cX3_executeLow 134 = .ok (.iload_n 3, 1) := by decide +kernel
theorem dX3_executeLow_135 : decode cX3_executeLow 135 = .ok (.aload_n 0, 1) := by decide +kernel
theorem dX3_executeLow_136 : decode cX3_executeLow 136 = .ok (.aload_n 0, 1) := by decide +kernel
theorem dX3_executeLow_137 : decode cX3_executeLow 137 = .ok (.iload_n 3, 1) := by decide +kernel
theorem dX3_executeLow_138 : decode cX3_executeLow 138 = .ok (.invokevirtual 58, 3) := by decide +kernel
theorem dX3_executeLow_141 : decode cX3_executeLow 141 = .ok (.invokevirtual 84, 3) := by decide +kernel
theorem dX3_executeLow_144 : decode cX3_executeLow 144 = .ok (.invokevirtual 87, 3) := by decide +kernel
theorem dX3_executeLow_147 : decode cX3_executeLow 147 = .ok (.goto 40, 3) := by decide +kernel
theorem dX3_executeLow_150 : decode cX3_executeLow 150 = .ok (.aload_n 0, 1) := by decide +kernel
theorem dX3_executeLow_151 : decode cX3_executeLow 151 = .ok (.iload_n 3, 1) := by decide +kernel
theorem dX3_executeLow_152 : decode cX3_executeLow 152 = .ok (.aload_n 0, 1) := by decide +kernel
theorem dX3_executeLow_153 : decode cX3_executeLow 153 = .ok (.aload_n 0, 1) := by decide +kernel
theorem dX3_executeLow_154 : decode cX3_executeLow 154 = .ok (.iload_n 3, 1) := by decide +kernel
theorem dX3_executeLow_155 : decode cX3_executeLow 155 = .ok (.invokevirtual 58, 3) := by decide +kernel
theorem dX3_executeLow_158 : decode cX3_executeLow 158 = .ok (.invokevirtual 90, 3) := by decide +kernel
theorem dX3_executeLow_161 : decode cX3_executeLow 161 = .ok (.invokevirtual 87, 3) := by decide +kernel
theorem dX3_executeLow_164 : decode cX3_executeLow 164 = .ok (.goto 23, 3) := by decide +kernel
theorem dX3_executeLow_167 : decode cX3_executeLow 167 = .ok (.aload_n 0, 1) := by decide +kernel
theorem dX3_executeLow_168 : decode cX3_executeLow 168 = .ok (.iload_n 3, 1) := by decide +kernel
theorem dX3_executeLow_169 : decode cX3_executeLow 169 = .ok (.aload_n 0, 1) := by decide +kernel
theorem dX3_executeLow_170 : decode cX3_executeLow 170 = .ok (.invokevirtual 45, 3) := by decide +kernel
theorem dX3_executeLow_173 : decode cX3_executeLow 173 = .ok (.invokevirtual 87, 3) := by decide +kernel
theorem dX3_executeLow_176 : decode cX3_executeLow 176 = .ok (.goto 11, 3) := by decide +kernel
theorem dX3_executeLow_179 : decode cX3_executeLow 179 = .ok (.aload_n 0, 1) := by decide +kernel
theorem dX3_executeLow_180 : decode cX3_executeLow 180 = .ok (.iload_n 3, 1) := by decide +kernel
theorem dX3_executeLow_181 : decode cX3_executeLow 181 = .ok (.invokevirtual 93, 3) := by decide +kernel
theorem dX3_executeLow_184 : decode cX3_executeLow 184 = .ok (.goto 3, 3) := by decide +kernel
theorem dX3_executeLow_187 : decode cX3_executeLow 187 = .ok (.return_, 1) := by decide +kernel
set_option maxRecDepth 20000 in
theorem ggX3_executeMove_X3_operand : GoodIn wsX3_executeMove wsX3_operand := goodIn_r _ [6, 7, 8, 9, 10, 11, 5, 12, 13, 14, 15, 16, 17, 18, 19, 20, 29, 30, 31, 32, 33, 34, 35, 36, 37, 38, 39] (by decide +kernel) (by decide +kernel)
set_option maxRecDepth 20000 in
theorem gX3_executeMove_X3_operand : GoodIn wsX3_executeMove (wsV RX3 58 RX3 yX3_operand wsX3_operand) := goodIn_app (goodIn_of _ (by decide +kernel)) ggX3_executeMove_X3_operand
set_option maxRecDepth 20000 in
theorem ggX3_executeMove_X3_setOperand : GoodIn wsX3_executeMove wsX3_setOperand := goodIn_r _ [24, 7, 8, 9, 10, 11, 5, 12, 25, 26, 27, 16, 28, 18, 29, 30, 31, 32, 33, 34, 35, 36, 37, 38, 39] (by decide +kernel) (by decide +kernel)
set_option maxRecDepth 20000 in
theorem gX3_executeMove_X3_setOperand : GoodIn wsX3_executeMove (wsV RX3 87 RX3 yX3_setOperand wsX3_setOperand) := goodIn_app (goodIn_of _ (by decide +kernel)) ggX3_executeMove_X3_setOperand
theorem dX3_executeMove_0 : decode cX3_executeMove 0 = .ok (.iload_n 1, 1) := by decide +kernel
theorem dX3_executeMove_1 : decode cX3_executeMove 1 = .ok (.bipush 7, 2) := by decide +kernel
theorem dX3_executeMove_3 : decode cX3_executeMove 3 = .ok (.iand, 1) := by decide +kernel
theorem dX3_executeMove_4 : decode cX3_executeMove 4 = .ok (.istore_n 2, 1) := by decide +kernel
theorem dX3_executeMove_5 : decode cX3_executeMove 5 = .ok (.iload_n 1, 1) := by decide +kernel
theorem dX3_executeMove_6 : decode cX3_executeMove 6 = .ok (.iconst 3, 1) := by decide +kernel
theorem dX3_executeMove_7 : decode cX3_executeMove 7 = .ok (.ishr, 1) := by decide +kernel
theorem dX3_executeMove_8 : decode cX3_executeMove 8 = .ok (.bipush 7, 2) := by decide +kernel
theorem dX3_executeMove_10 : decode cX3_executeMove 10 = .ok (.iand, 1) := by decide +kernel
theorem dX3_executeMove_11 : decode cX3_executeMove 11 = .ok (.istore_n 3, 1) := by decide +kernel
theorem dX3_executeMove_12 : decode cX3_executeMove 12 = .ok (.iload_n 2, 1) := by decide +kernel
theorem dX3_executeMove_13 : decode cX3_executeMove 13 = .ok (.bipush 6, 2) := by decide +kernel
theorem dX3_executeMove_15 : decode cX3_executeMove 15 = .ok (.if_icmp .ne 17, 3) := by decide +kernel
theorem dX3_executeMove_18 : decode cX3_executeMove 18 = .ok (.iload_n 3, 1) := by decide +kernel
theorem dX3_executeMove_19 : decode cX3_executeMove 19 = .ok (.bipush 6, 2) := by decide +kernel
theorem dX3_executeMove_21 : decode cX3_executeMove 21 = .ok (.if_icmp .ne 11, 3) := by decide +kernel
theorem dX3_executeMove_24 : decode cX3_executeMove 24 = .ok (.aload_n 0, 1) := by decide +kernel
theorem dX3_executeMove_25 : decode cX3_executeMove 25 = .ok (.iconst 1, 1) := by decide +kernel
theorem dX3_executeMove_26 : decode cX3_executeMove 26 = .ok (.putfield 38, 3) := by decide +kernel
theorem dX3_executeMove_29 : decode cX3_executeMove 29 = .ok (.goto 13, 3) := by decide +kernel
theorem dX3_executeMove_32 : decode cX3_executeMove 32 = .ok (.aload_n 0, 1) := by decide +kernel
theorem dX3_executeMove_33 : decode cX3_executeMove 33 = .ok (.iload_n 3, 1) := by decide +kernel
theorem dX3_executeMove_34 : decode cX3_executeMove 34 = .ok (.aload_n 0, 1) := by decide +kernel
theorem dX3_executeMove_35 : decode cX3_executeMove 35 = .ok (.iload_n 2, 1) := by decide +kernel
theorem dX3_executeMove_36 : decode cX3_executeMove 36 = .ok (.invokevirtual 58, 3) := by decide +kernel
theorem dX3_executeMove_39 : decode cX3_executeMove 39 = .ok (.invokevirtual 87, 3) := by decide +kernel
theorem dX3_executeMove_42 : decode cX3_executeMove 42 = .ok (.return_, 1) := by decide +kernel
set_option maxRecDepth 20000 in
theorem ggX3_executeHigh_X3_holds : GoodIn wsX3_executeHigh wsX3_holds := goodIn_r _ [6, 7, 141, 142, 143, 144, 145, 146, 147, 148, 149] (by decide +kernel) (by decide +kernel)
set_option maxRecDepth 20000 in
theorem gX3_executeHigh_X3_holds : GoodIn wsX3_executeHigh (wsV RX3 96 RX3 yX3_holds wsX3_holds) := goodIn_app (goodIn_of _ (by decide +kernel)) ggX3_executeHigh_X3_holds
set_option maxRecDepth 20000 in
theorem ggX3_executeHigh_X3_returnIf : GoodIn wsX3_executeHigh wsX3_returnIf := goodIn_r _ [11, 1, 12, 13, 14, 5, 15, 16, 17, 18, 19, 20, 21, 22, 23, 24, 25, 26, 27, 28, 29, 30, 141, 142, 143, 144, 145, 146, 147, 148, 149, 150, 151] (by decide +kernel) (by decide +kernel)
set_option maxRecDepth 20000 in
theorem gX3_executeHigh_X3_returnIf : GoodIn wsX3_executeHigh (wsV RX3 100 RX3 yX3_returnIf wsX3_returnIf) := goodIn_app (goodIn_of _ (by decide +kernel)) ggX3_executeHigh_X3_returnIf
set_option maxRecDepth 20000 in
theorem ggX3_executeHigh_X3_popOrReturn : GoodIn wsX3_executeHigh wsX3_popOrReturn := goodIn_r _ [34, 1, 17, 12, 13, 14, 5, 15, 16, 18, 19, 20, 21, 22, 23, 24, 25, 26, 27, 28, 29, 30, 35, 36, 37, 38, 39, 40, 41, 42, 43, 7, 44, 45, 46, 47, 141, 142, 143, 144, 145, 146, 147, 148, 149, 150, 151] (by decide +kernel) (by decide +kernel)
set_option maxRecDepth 20000 in
theorem gX3_executeHigh_X3_popOrReturn : GoodIn wsX3_executeHigh (wsV RX3 104 RX3 yX3_popOrReturn wsX3_popOrReturn) := goodIn_app (goodIn_of _ (by decide +kernel)) ggX3_executeHigh_X3_popOrReturn
set_option maxRecDepth 20000 in
theorem ggX3_executeHigh_X3_jumpIf : GoodIn wsX3_executeHigh wsX3_jumpIf := goodIn_r _ [51, 1, 52, 53, 54, 5, 55, 16, 18, 19, 20, 21, 22, 23, 24, 25, 26, 27, 28, 29, 30, 141, 142, 143, 144, 145, 146, 147, 148, 149, 150, 151] (by decide +kernel) (by decide +kernel)
set_option maxRecDepth 20000 in
theorem gX3_executeHigh_X3_jumpIf : GoodIn wsX3_executeHigh (wsV RX3 107 RX3 yX3_jumpIf wsX3_jumpIf) := goodIn_app (goodIn_of _ (by decide +kernel)) ggX3_executeHigh_X3_jumpIf
set_option maxRecDepth 20000 in
theorem ggX3_executeHigh_X3_executeSingle : GoodIn wsX3_executeHigh wsX3_executeSingle := goodIn_r _ [59, 60, 39, 61, 62, 1, 63, 64, 65, 5, 66, 16, 18, 67, 25, 26, 22, 27, 28, 29, 30, 68, 69, 70, 71, 72, 73, 74, 75, 76, 77, 78, 79, 80, 81, 82, 83, 84, 85, 86, 87, 88, 89, 90, 35, 36, 37, 38, 91, 92, 93, 94, 17, 19, 20, 21, 23, 24, 95, 96, 97, 98, 99, 100, 101, 102, 44, 45, 46, 47, 103, 104, 105, 106, 52, 53, 54, 55, 141, 142, 143, 144, 145, 146, 147, 148, 149, 150, 151, 152, 153, 154, 155, 156, 157] (by decide +kernel) (by decide +kernel)
set_option maxRecDepth 20000 in
theorem gX3_executeHigh_X3_executeSingle : GoodIn wsX3_executeHigh (wsV RX3 111 RX3 yX3_executeSingle wsX3_executeSingle) := goodIn_app (goodIn_of _ (by decide +kernel)) ggX3_executeHigh_X3_executeSingle
set_option maxRecDepth 20000 in
theorem ggX3_executeHigh_X3_callIf : GoodIn wsX3_executeHigh wsX3_callIf := goodIn_r _ [110, 1, 52, 53, 54, 5, 55, 16, 18, 19, 20, 21, 22, 23, 24, 25, 26, 27, 28, 29, 30, 111, 112, 113, 114, 17, 95, 96, 97, 98, 99, 100, 101, 102, 141, 142, 143, 144, 145, 146, 147, 148, 149, 150, 151] (by decide +kernel) (by decide +kernel)
set_option maxRecDepth 20000 in
theorem gX3_executeHigh_X3_callIf : GoodIn wsX3_executeHigh (wsV RX3 114 RX3 yX3_callIf wsX3_callIf) := goodIn_app (goodIn_of _ (by decide +kernel)) ggX3_executeHigh_X3_callIf
set_option maxRecDepth 20000 in
theorem ggX3_executeHigh_X3_statusWord : GoodIn wsX3_executeHigh wsX3_statusWord := goodIn_r _ [118, 39, 7, 141, 142, 143, 144, 145, 146, 147, 148, 149] (by decide +kernel) (by decide +kernel)
set_option maxRecDepth 20000 in
theorem gX3_executeHigh_X3_statusWord : GoodIn wsX3_executeHigh (wsV RX3 117 RX3 yX3_statusWord wsX3_statusWord) := goodIn_app (goodIn_of _ (by decide +kernel)) ggX3_executeHigh_X3_statusWord
set_option maxRecDepth 20000 in
theorem ggX3_executeHigh_X3_pairAt : GoodIn wsX3_executeHigh wsX3_pairAt := goodIn_r _ [38, 39, 141, 142, 143, 144, 145, 146, 147, 148, 149] (by decide +kernel) (by decide +kernel)
set_option maxRecDepth 20000 in
theorem gX3_executeHigh_X3_pairAt : GoodIn wsX3_executeHigh (wsV RX3 120 RX3 yX3_pairAt wsX3_pairAt) := goodIn_app (goodIn_of _ (by decide +kernel)) ggX3_executeHigh_X3_pairAt
set_option maxRecDepth 20000 in
theorem ggX3_executeHigh_X3_push : GoodIn wsX3_executeHigh wsX3_push := goodIn_r _ [114, 17, 18, 16, 95, 96, 97, 22, 98, 99, 100, 101, 102, 28, 141, 142, 143, 144, 145, 146, 147, 148, 149, 150, 151] (by decide +kernel) (by decide +kernel)
set_option maxRecDepth 20000 in
theorem gX3_executeHigh_X3_push : GoodIn wsX3_executeHigh (wsV RX3 41 RX3 yX3_push wsX3_push) := goodIn_app (goodIn_of _ (by decide +kernel)) ggX3_executeHigh_X3_push
set_option maxRecDepth 20000 in
theorem ggX3_executeHigh_X3_fetch : GoodIn wsX3_executeHigh wsX3_fetch := goodIn_r _ [66, 16, 1, 18, 67, 25, 26, 22, 27, 28, 29, 30, 141, 142, 143, 144, 145, 146, 147, 148, 149, 150, 151] (by decide +kernel) (by decide +kernel)
set_option maxRecDepth 20000 in
theorem gX3_executeHigh_X3_fetch : GoodIn wsX3_executeHigh (wsV RX3 45 RX3 yX3_fetch wsX3_fetch) := goodIn_app (goodIn_of _ (by decide +kernel)) ggX3_executeHigh_X3_fetch
set_option maxRecDepth 20000 in
theorem ggX3_executeHigh_X3_calculate : GoodIn wsX3_executeHigh wsX3_calculate := goodIn_r _ [122, 39, 7, 123, 124, 125, 5, 126, 127, 128, 129, 130, 131, 132, 133, 134, 135, 136, 137, 138, 139, 140, 141, 142, 143, 144, 145, 146, 147, 148, 149] (by decide +kernel) (by decide +kernel)
set_option maxRecDepth 20000 in
theorem gX3_executeHigh_X3_calculate : GoodIn wsX3_executeHigh (wsV RX3 62 RX3 yX3_calculate wsX3_calculate) := goodIn_app (goodIn_of _ (by decide +kernel)) ggX3_executeHigh_X3_calculate
theorem dX3_executeHigh_0 : decode cX3_executeHigh 0 = .ok (.iload_n 1, 1) := by decide +kernel
theorem dX3_executeHigh_1 : decode cX3_executeHigh 1 = .ok (.iconst 3, 1) := by decide +kernel
theorem dX3_executeHigh_2 : decode cX3_executeHigh 2 = .ok (.ishr, 1) := by decide +kernel
theorem dX3_executeHigh_3 : decode cX3_executeHigh 3 = .ok (.bipush 7, 2) := by decide +kernel
theorem dX3_executeHigh_5 : decode cX3_executeHigh 5 = .ok (.iand, 1) := by decide +kernel
theorem dX3_executeHigh_6 : decode cX3_executeHigh 6 = .ok (.istore_n 2, 1) := by decide +kernel
theorem dX3_executeHigh_7 : decode cX3_executeHigh 7 = .ok (.iload_n 1, 1) := by decide +kernel
theorem dX3_executeHigh_8 : decode cX3_executeHigh 8 = .ok (.bipush 7, 2) := by decide +kernel
theorem dX3_executeHigh_10 : decode cX3_executeHigh 10 = .ok (.iand, 1) := by decide +kernel
theorem dX3_executeHigh_11 : decode cX3_executeHigh 11 = .ok (.tableswitch 136 0 6 #[41, 51, 58, 69, 76, 86, 125], 41) := by decide +kernel
theorem dX3_executeHigh_52 : decode cX3_executeHigh 52 = .ok (.aload_n 0, 1) := by decide +kernel
theorem dX3_executeHigh_53 : decode cX3_executeHigh 53 = .ok (.aload_n 0, 1) := by decide +kernel
theorem dX3_executeHigh_54 : decode cX3_executeHigh 54 = .ok (.iload_n 2, 1) := by decide +kernel
theorem dX3_executeHigh_55 : decode cX3_executeHigh 55 = .ok (.invokevirtual 96, 3) := by decide +kernel
theorem dX3_executeHigh_58 : decode cX3_executeHigh 58 = .ok (.invokevirtual 100, 3) := by decide +kernel
theorem dX3_executeHigh_61 : decode cX3_executeHigh 61 = .ok (.ireturn, 1) := by decide +kernel
theorem dX3_executeHigh_62 : decode cX3_executeHigh 62 = .ok (.aload_n 0, 1) := by decide +kernel
theorem dX3_executeHigh_63 : decode cX3_executeHigh 63 = .ok (.iload_n 2, 1) := by decide +kernel
theorem dX3_executeHigh_64 : decode cX3_executeHigh 64 = .ok (.invokevirtual 104, 3) := by decide +kernel
theorem dX3_executeHigh_67 : decode cX3_executeHigh 67 = .ok (.iconst 0, 1) := by decide +kernel
theorem dX3_executeHigh_68 : decode cX3_executeHigh 68 = .ok (.ireturn, 1) := by decide +kernel
theorem dX3_executeHigh_69 : decode cX3_executeHigh 69 = .ok (.aload_n 0, 1) := by decide +kernel
theorem dX3_executeHigh_70 : decode cX3_executeHigh 70 = .ok (.aload_n 0, 1) := by decide +kernel
theorem dX3_executeHigh_71 : decode cX3_executeHigh 71 = .ok (.iload_n 2, 1) := by decide +kernel
theorem dX3_executeHigh_72 : decode cX3_executeHigh 72 = .ok (.invokevirtual 96, 3) := by decide +kernel
theorem dX3_executeHigh_75 : decode cX3_executeHigh 75 = .ok (.invokevirtual 107, 3) := by decide +kernel
theorem dX3_executeHigh_78 : decode cX3_executeHigh 78 = .ok (.iconst 0, 1) := by decide +kernel
theorem dX3_executeHigh_79 : decode cX3_executeHigh 79 = .ok (.ireturn, 1) := by decide +kernel
theorem dX3_executeHigh_80 : decode cX3_executeHigh 80 = .ok (.aload_n 0, 1) := by decide +kernel
theorem dX3_executeHigh_81 : decode cX3_executeHigh 81 = .ok (.iload_n 2, 1) := by decide +kernel
theorem dX3_executeHigh_82 : decode cX3_executeHigh 82 = .ok (.invokevirtual 111, 3) := by decide +kernel
theorem dX3_executeHigh_85 : decode cX3_executeHigh 85 = .ok (.iconst 0, 1) := by decide +kernel
theorem dX3_executeHigh_86 : decode cX3_executeHigh 86 = .ok (.ireturn, 1) := by decide +kernel
theorem dX3_executeHigh_87 : decode cX3_executeHigh 87 = .ok (.aload_n 0, 1) := by decide +kernel
theorem dX3_executeHigh_88 : decode cX3_executeHigh 88 = .ok (.aload_n 0, 1) := by decide +kernel
theorem dX3_executeHigh_89 : decode cX3_executeHigh 89 = .ok (.iload_n 2, 1) := by decide +kernel
theorem dX3_executeHigh_90 : decode cX3_executeHigh 90 = .ok (.invokevirtual 96, 3) := by decide +kernel
theorem dX3_executeHigh_93 : decode cX3_executeHigh 93 = .ok (.invokevirtual 114, 3) := by decide +kernel
theorem dX3_executeHigh_96 : decode cX3_executeHigh 96 = .ok (.ireturn, 1) := by decide +kernel
theorem dX3_executeHigh_97 : decode cX3_executeHigh 97 = .ok (.iload_n 2, 1) := by decide +kernel
theorem dX3_executeHigh_98 : decode cX3_executeHigh 98 = .ok (.iconst 1, 1) := by decide +kernel
theorem dX3_executeHigh_99 : decode cX3_executeHigh 99 = .ok (.iand, 1) := by decide +kernel
theorem dX3_executeHigh_100 : decode cX3_executeHigh 100 = .ok (.ifCond .eq 12, 3) := by decide +kernel
theorem dX3_executeHigh_103 : decode cX3_executeHigh 103 = .ok (.aload_n 0, 1) := by decide +kernel
theorem dX3_executeHigh_104 : decode cX3_executeHigh 104 = .ok (.iconst 1, 1) := by decide +kernel
theorem dX3_executeHigh_105 : decode cX3_executeHigh 105 = .ok (.invokevirtual 114, 3) := by decide +kernel
theorem dX3_executeHigh_108 : decode cX3_executeHigh 108 = .ok (.pop, 1) := by decide +kernel
theorem dX3_executeHigh_109 : decode cX3_executeHigh 109 = .ok (.goto 25, 3) := by decide +kernel
theorem dX3_executeHigh_112 : decode cX3_executeHigh 112 = .ok (.aload_n 0, 1) := by decide +kernel
theorem dX3_executeHigh_113 : decode cX3_executeHigh 113 = .ok (.iload_n 2, 1) := by decide +kernel
theorem dX3_executeHigh_114 : decode cX3_executeHigh 114 = .ok (.bipush 6, 2) := by decide +kernel
theorem dX3_executeHigh_116 : decode cX3_executeHigh 116 = .ok (.if_icmp .ne 10, 3) := by decide +kernel
theorem dX3_executeHigh_119 : decode cX3_executeHigh 119 = .ok (.aload_n 0, 1) := by decide +kernel
theorem dX3_executeHigh_120 : decode cX3_executeHigh 120 = .ok (.invokevirtual 117, 3) := by decide +kernel
theorem dX3_executeHigh_123 : decode cX3_executeHigh 123 = .ok (.goto 8, 3) := by decide +kernel
theorem dX3_executeHigh_126 : decode cX3_executeHigh 126 = .ok (.aload_n 0, 1) := by decide +kernel
theorem dX3_executeHigh_127 : decode cX3_executeHigh 127 = .ok (.iload_n 2, 1) := by decide +kernel
theorem dX3_executeHigh_128 : decode cX3_executeHigh 128 = .ok (.invokevirtual 120, 3) := by decide +kernel
theorem dX3_executeHigh_131 : decode cX3_executeHigh 131 = .ok (.invokevirtual 41, 3) := by decide +kernel
theorem dX3_executeHigh_134 : decode cX3_executeHigh 134 = .ok (.iconst 0, 1) := by decide +kernel
theorem dX3_executeHigh_135 : decode cX3_executeHigh 135 = .ok (.ireturn, 1) := by decide +kernel
theorem dX3_executeHigh_136 : decode cX3_executeHigh 136 = .ok (.aload_n 0, 1) := by decide +kernel
theorem dX3_executeHigh_137 : decode cX3_executeHigh 137 = .ok (.iload_n 2, 1) := by decide +kernel
theorem dX3_executeHigh_138 : decode cX3_executeHigh 138 = .ok (.aload_n 0, 1) := by decide +kernel
theorem dX3_executeHigh_139 : decode cX3_executeHigh 139 = .ok (.invokevirtual 45, 3) := by decide +kernel
theorem dX3_executeHigh_142 : decode cX3_executeHigh 142 = .ok (.invokevirtual 62, 3) := by decide +kernel
theorem dX3_executeHigh_145 : decode cX3_executeHigh 145 = .ok (.iconst 0, 1) := by decide +kernel
theorem dX3_executeHigh_146 : decode cX3_executeHigh 146 = .ok (.ireturn, 1) := by decide +kernel
theorem dX3_executeHigh_147 : decode cX3_executeHigh 147 = .ok (.aload_n 0, 1) := by decide +kernel
theorem dX3_executeHigh_148 : decode cX3_executeHigh 148 = .ok (.aload_n 0, 1) := by decide +kernel
theorem dX3_executeHigh_149 : decode cX3_executeHigh 149 = .ok (.getfield 28, 3) := by decide +kernel
theorem dX3_executeHigh_152 : decode cX3_executeHigh 152 = .ok (.invokevirtual 41, 3) := by decide +kernel
theorem dX3_executeHigh_155 : decode cX3_executeHigh 155 = .ok (.aload_n 0, 1) := by decide +kernel
theorem dX3_executeHigh_156 : decode cX3_executeHigh 156 = .ok (.bipush 8, 2) := by decide +kernel
theorem dX3_executeHigh_158 : decode cX3_executeHigh 158 = .ok (.iload_n 2, 1) := by decide +kernel
theorem dX3_executeHigh_159 : decode cX3_executeHigh 159 = .ok (.imul, 1) := by decide +kernel
theorem dX3_executeHigh_160 : decode cX3_executeHigh 160 = .ok (.putfield 28, 3) := by decide +kernel
theorem dX3_executeHigh_163 : decode cX3_executeHigh 163 = .ok (.iconst 0, 1) := by decide +kernel
theorem dX3_executeHigh_164 : decode cX3_executeHigh 164 = .ok (.ireturn, 1) := by decide +kernel
set_option maxRecDepth 20000 in
theorem ggX3_loadOrStore_X3_pairAt : GoodIn wsX3_loadOrStore wsX3_pairAt := goodIn_r _ [7, 2, 40, 41, 42, 43, 44, 45, 46, 47, 48] (by decide +kernel) (by decide +kernel)
set_option maxRecDepth 20000 in
theorem gX3_loadOrStore_X3_pairAt : GoodIn wsX3_loadOrStore (wsV RX3 120 RX3 yX3_pairAt wsX3_pairAt) := goodIn_app (goodIn_of _ (by decide +kernel)) ggX3_loadOrStore_X3_pairAt
set_option maxRecDepth 20000 in
theorem ggX3_loadOrStore_X1_write : GoodIn wsX3_loadOrStore wsX1_write := goodIn_r _ [12, 13, 49, 50] (by decide +kernel) (by decide +kernel)
set_option maxRecDepth 20000 in
theorem gX3_loadOrStore_X1_write : GoodIn wsX3_loadOrStore (wsV RX3 123 RX1 yX1_write wsX1_write) := goodIn_app (goodIn_of _ (by decide +kernel)) ggX3_loadOrStore_X1_write
set_option maxRecDepth 20000 in
theorem ggX3_loadOrStore_X1_read : GoodIn wsX3_loadOrStore wsX1_read := goodIn_r _ [17, 13, 18, 19, 49, 50] (by decide +kernel) (by decide +kernel)
set_option maxRecDepth 20000 in
theorem gX3_loadOrStore_X1_read : GoodIn wsX3_loadOrStore (wsV RX3 128 RX1 yX1_read wsX1_read) := goodIn_app (goodIn_of _ (by decide +kernel)) ggX3_loadOrStore_X1_read
set_option maxRecDepth 20000 in
theorem ggX3_loadOrStore_X3_fetchWord : GoodIn wsX3_loadOrStore wsX3_fetchWord := goodIn_r _ [23, 1, 24, 25, 26, 27, 28, 11, 29, 30, 15, 16, 17, 13, 18, 19, 40, 41, 42, 43, 44, 45, 46, 47, 48, 49, 50] (by decide +kernel) (by decide +kernel)
set_option maxRecDepth 20000 in
theorem gX3_loadOrStore_X3_fetchWord : GoodIn wsX3_loadOrStore (wsV RX3 75 RX3 yX3_fetchWord wsX3_fetchWord) := goodIn_app (goodIn_of _ (by decide +kernel)) ggX3_loadOrStore_X3_fetchWord
set_option maxRecDepth 20000 in
theorem ggX3_loadOrStore_X1_writeWord : GoodIn wsX3_loadOrStore wsX1_writeWord := goodIn_r _ [34, 35, 9, 10, 11, 12, 13, 49, 50] (by decide +kernel) (by decide +kernel)
set_option maxRecDepth 20000 in
theorem gX3_loadOrStore_X1_writeWord : GoodIn wsX3_loadOrStore (wsV RX3 131 RX1 yX1_writeWord wsX1_writeWord) := goodIn_app (goodIn_of _ (by decide +kernel)) ggX3_loadOrStore_X1_writeWord
set_option maxRecDepth 20000 in
theorem ggX3_loadOrStore_X1_readWord : GoodIn wsX3_loadOrStore wsX1_readWord := goodIn_r _ [29, 30, 15, 16, 11, 17, 13, 18, 19, 49, 50] (by decide +kernel) (by decide +kernel)
set_option maxRecDepth 20000 in
theorem gX3_loadOrStore_X1_readWord : GoodIn wsX3_loadOrStore (wsV RX3 134 RX1 yX1_readWord wsX1_readWord) := goodIn_app (goodIn_of _ (by decide +kernel)) ggX3_loadOrStore_X1_readWord
set_option maxRecDepth 20000 in
theorem ggX3_loadOrStore_X3_setPairAt : GoodIn wsX3_loadOrStore wsX3_setPairAt := goodIn_r _ [39, 2, 40, 41, 42, 43, 44, 45, 46, 47, 48] (by decide +kernel) (by decide +kernel)
set_option maxRecDepth 20000 in
theorem gX3_loadOrStore_X3_setPairAt : GoodIn wsX3_loadOrStore (wsV RX3 137 RX3 yX3_setPairAt wsX3_setPairAt) := goodIn_app (goodIn_of _ (by decide +kernel)) ggX3_loadOrStore_X3_setPairAt
theorem dX3_loadOrStore_0 : decode cX3_loadOrStore 0 = .ok (.iload_n 1, 1) := by decide +kernel
theorem dX3_loadOrStore_1 : decode cX3_loadOrStore 1 = .ok (.tableswitch 190 0 6 #[43, 65, 87, 109, 131, 150, 169], 43) := by decide +kernel
theorem dX3_loadOrStore_44 : decode cX3_loadOrStore 44 = .ok (.aload_n 0, 1) := by decide +kernel
theorem dX3_loadOrStore_45 : decode cX3_loadOrStore 45 = .ok (.getfield 17, 3) := by decide +kernel
theorem dX3_loadOrStore_48 : decode cX3_loadOrStore 48 = .ok (.aload_n 0, 1) := by decide +kernel
theorem dX3_loadOrStore_49 : decode cX3_loadOrStore 49 = .ok (.iconst 0, 1) := by decide +kernel
theorem dX3_loadOrStore_50 : decode cX3_loadOrStore 50 = .ok (.invokevirtual 120, 3) := by decide +kernel
theorem dX3_loadOrStore_53 : decode cX3_loadOrStore 53 = .ok (.aload_n 0, 1) := by decide +kernel
theorem dX3_loadOrStore_54 : decode cX3_loadOrStore 54 = .ok (.getfield 9, 3) := by decide +kernel
theorem dX3_loadOrStore_57 : decode cX3_loadOrStore 57 = .ok (.bipush 7, 2) := by decide +kernel
theorem dX3_loadOrStore_59 : decode cX3_loadOrStore 59 = .ok (.iaload, 1) := by decide +kernel
theorem dX3_loadOrStore_60 : decode cX3_loadOrStore 60 = .ok (.invokevirtual 123, 3) := by decide +kernel
theorem dX3_loadOrStore_63 : decode cX3_loadOrStore 63 = .ok (.goto 146, 3) := by decide +kernel
theorem dX3_loadOrStore_66 : decode cX3_loadOrStore 66 = .ok (.aload_n 0, 1) := by decide +kernel
theorem dX3_loadOrStore_67 : decode cX3_loadOrStore 67 = .ok (.getfield 9, 3) := by decide +kernel
theorem dX3_loadOrStore_70 : decode cX3_loadOrStore 70 = .ok (.bipush 7, 2) := by decide +kernel
theorem dX3_loadOrStore_72 : decode cX3_loadOrStore 72 = .ok (.aload_n 0, 1) := by decide +kernel
theorem dX3_loadOrStore_73 : decode cX3_loadOrStore 73 = .ok (.getfield 17, 3) := by decide +kernel
theorem dX3_loadOrStore_76 : decode cX3_loadOrStore 76 = .ok (.aload_n 0, 1) := by decide +kernel
theorem dX3_loadOrStore_77 : decode cX3_loadOrStore 77 = .ok (.iconst 0, 1) := by decide +kernel
theorem dX3_loadOrStore_78 : decode cX3_loadOrStore 78 = .ok (.invokevirtual 120, 3) := by decide +kernel
theorem dX3_loadOrStore_81 : decode cX3_loadOrStore 81 = .ok (.invokevirtual 128, 3) := by decide +kernel
theorem dX3_loadOrStore_84 : decode cX3_loadOrStore 84 = .ok (.iastore, 1) := by decide +kernel
theorem dX3_loadOrStore_85 : decode cX3_loadOrStore 85 = .ok (.goto 124, 3) := by decide +kernel
theorem dX3_loadOrStore_88 : decode cX3_loadOrStore 88 = .ok (.aload_n 0, 1) := by decide +kernel
theorem dX3_loadOrStore_89 : decode cX3_loadOrStore 89 = .ok (.getfield 17, 3) := by decide +kernel
theorem dX3_loadOrStore_92 : decode cX3_loadOrStore 92 = .ok (.aload_n 0, 1) := by decide +kernel
theorem dX3_loadOrStore_93 : decode cX3_loadOrStore 93 = .ok (.iconst 2, 1) := by decide +kernel
theorem dX3_loadOrStore_94 : decode cX3_loadOrStore 94 = .ok (.invokevirtual 120, 3) := by decide +kernel
theorem dX3_loadOrStore_97 : decode cX3_loadOrStore 97 = .ok (.aload_n 0, 1) := by decide +kernel
theorem dX3_loadOrStore_98 : decode cX3_loadOrStore 98 = .ok (.getfield 9, 3) := by decide +kernel
theorem dX3_loadOrStore_101 : decode cX3_loadOrStore 101 = .ok (.bipush 7, 2) := by decide +kernel
theorem dX3_loadOrStore_103 : decode cX3_loadOrStore 103 = .ok (.iaload, 1) := by decide +kernel
theorem dX3_loadOrStore_104 : decode cX3_loadOrStore 104 = .ok (.invokevirtual 123, 3) := by decide +kernel
theorem dX3_loadOrStore_107 : decode cX3_loadOrStore 107 = .ok (.goto 102, 3) := by decide +kernel
theorem dX3_loadOrStore_110 : decode cX3_loadOrStore 110 = .ok (.aload_n 0, 1) := by decide +kernel
theorem dX3_loadOrStore_111 : decode cX3_loadOrStore 111 = .ok (.getfield 9, 3) := by decide +kernel
theorem dX3_loadOrStore_114 : decode cX3_loadOrStore 114 = .ok (.bipush 7, 2) := by decide +kernel
theorem dX3_loadOrStore_116 : decode cX3_loadOrStore 116 = .ok (.aload_n 0, 1) := by decide +kernel
theorem dX3_loadOrStore_117 : decode cX3_loadOrStore 117 = .ok (.getfield 17, 3) := by decide +kernel
theorem dX3_loadOrStore_120 : decode cX3_loadOrStore 120 = .ok (.aload_n 0, 1) := by decide +kernel
theorem dX3_loadOrStore_121 : decode cX3_loadOrStore 121 = .ok (.iconst 2, 1) := by decide +kernel
theorem dX3_loadOrStore_122 : decode cX3_loadOrStore 122 = .ok (.invokevirtual 120, 3) := by decide +kernel
theorem dX3_loadOrStore_125 : decode cX3_loadOrStore 125 = .ok (.invokevirtual 128, 3) := by decide +kernel
theorem dX3_loadOrStore_128 : decode cX3_loadOrStore 128 = .ok (.iastore, 1) := by decide +kernel
theorem dX3_loadOrStore_129 : decode cX3_loadOrStore 129 = .ok (.goto 80, 3) := by decide +kernel
theorem dX3_loadOrStore_132 : decode cX3_loadOrStore 132 = .ok (.aload_n 0, 1) := by decide +kernel
theorem dX3_loadOrStore_133 : decode cX3_loadOrStore 133 = .ok (.getfield 17, 3) := by decide +kernel
theorem dX3_loadOrStore_136 : decode cX3_loadOrStore 136 = .ok (.aload_n 0, 1) := by decide +kernel
theorem dX3_loadOrStore_137 : decode cX3_loadOrStore 137 = .ok (.invokevirtual 75, 3) := by decide +kernel
theorem dX3_loadOrStore_140 : decode cX3_loadOrStore 140 = .ok (.aload_n 0, 1) := by decide +kernel
theorem dX3_loadOrStore_141 : decode cX3_loadOrStore 141 = .ok (.iconst 4, 1) := by decide +kernel
theorem dX3_loadOrStore_142 : decode cX3_loadOrStore 142 = .ok (.invokevirtual 120, 3) := by decide +kernel
theorem dX3_loadOrStore_145 : decode cX3_loadOrStore 145 = .ok (.invokevirtual 131, 3) := by decide +kernel
theorem dX3_loadOrStore_148 : decode cX3_loadOrStore 148 = .ok (.goto 61, 3) := by decide +kernel
theorem dX3_loadOrStore_151 : decode cX3_loadOrStore 151 = .ok (.aload_n 0, 1) := by decide +kernel
theorem dX3_loadOrStore_152 : decode cX3_loadOrStore 152 = .ok (.iconst 4, 1) := by decide +kernel
theorem dX3_loadOrStore_153 : decode cX3_loadOrStore 153 = .ok (.aload_n 0, 1) := by decide +kernel
theorem dX3_loadOrStore_154 : decode cX3_loadOrStore 154 = .ok (.getfield 17, 3) := by decide +kernel
theorem dX3_loadOrStore_157 : decode cX3_loadOrStore 157 = .ok (.aload_n 0, 1) := by decide +kernel
theorem dX3_loadOrStore_158 : decode cX3_loadOrStore 158 = .ok (.invokevirtual 75, 3) := by decide +kernel
theorem dX3_loadOrStore_161 : decode cX3_loadOrStore 161 = .ok (.invokevirtual 134, 3) := by decide +kernel
theorem dX3_loadOrStore_164 : decode cX3_loadOrStore 164 = .ok (.invokevirtual 137, 3) := by decide +kernel
theorem dX3_loadOrStore_167 : decode cX3_loadOrStore 167 = .ok (.goto 42, 3) := by decide +kernel
theorem dX3_loadOrStore_170 : decode cX3_loadOrStore 170 = .ok (.aload_n 0, 1) := by decide +kernel
theorem dX3_loadOrStore_171 : decode cX3_loadOrStore 171 = .ok (.getfield 17, 3) := by decide +kernel
theorem dX3_loadOrStore_174 : decode cX3_loadOrStore 174 = .ok (.aload_n 0, 1) := by decide +kernel
theorem dX3_loadOrStore_175 : decode cX3_loadOrStore 175 = .ok (.invokevirtual 75, 3) := by decide +kernel
theorem dX3_loadOrStore_178 : decode cX3_loadOrStore 178 = .ok (.aload_n 0, 1) := by decide +kernel
theorem dX3_loadOrStore_179 : decode cX3_loadOrStore 179 = .ok (.getfield 9, 3) := by decide +kernel
theorem dX3_loadOrStore_182 : decode cX3_loadOrStore 182 = .ok (.bipush 7, 2) := by decide +kernel
theorem dX3_loadOrStore_184 : decode cX3_loadOrStore 184 = .ok (.iaload, 1) := by decide +kernel
theorem dX3_loadOrStore_185 : decode cX3_loadOrStore 185 = .ok (.invokevirtual 123, 3) := by decide +kernel
theorem dX3_loadOrStore_188 : decode cX3_loadOrStore 188 = .ok (.goto 21, 3) := by decide +kernel
theorem dX3_loadOrStore_191 : decode cX3_loadOrStore 191 = .ok (.aload_n 0, 1) := by decide +kernel
theorem dX3_loadOrStore_192 : decode cX3_loadOrStore 192 = .ok (.getfield 9, 3) := by decide +kernel
theorem dX3_loadOrStore_195 : decode cX3_loadOrStore 195 = .ok (.bipush 7, 2) := by decide +kernel
theorem dX3_loadOrStore_197 : decode cX3_loadOrStore 197 = .ok (.aload_n 0, 1) := by decide +kernel
theorem dX3_loadOrStore_198 : decode cX3_loadOrStore 198 = .ok (.getfield 17, 3) := by decide +kernel
theorem dX3_loadOrStore_201 : decode cX3_loadOrStore 201 = .ok (.aload_n 0, 1) := by decide +kernel
theorem dX3_loadOrStore_202 : decode cX3_loadOrStore 202 = .ok (.invokevirtual 75, 3) := by decide +kernel
theorem dX3_loadOrStore_205 : decode cX3_loadOrStore 205 = .ok (.invokevirtual 128, 3) := by decide +kernel
theorem dX3_loadOrStore_208 : decode cX3_loadOrStore 208 = .ok (.iastore, 1) := by decide +kernel
theorem dX3_loadOrStore_209 : decode cX3_loadOrStore 209 = .ok (.return_, 1) := by decide +kernel
set_option maxRecDepth 20000 in
theorem ggX3_changeAccumulator_X3_setRotated : GoodIn wsX3_changeAccumulator wsX3_setRotated := goodIn_r _ [7, 1, 8, 9, 10, 6, 11, 2, 26, 27, 28, 29, 30, 31, 32, 33, 34] (by decide +kernel) (by decide +kernel)
set_option maxRecDepth 20000 in
theorem gX3_changeAccumulator_X3_setRotated : GoodIn wsX3_changeAccumulator (wsV RX3 140 RX3 yX3_setRotated wsX3_setRotated) := goodIn_app (goodIn_of _ (by decide +kernel)) ggX3_changeAccumulator_X3_setRotated
set_option maxRecDepth 20000 in
theorem ggX3_changeAccumulator_X3_adjustDecimal : GoodIn wsX3_changeAccumulator wsX3_adjustDecimal := goodIn_r _ [15, 1, 2, 16, 17, 6, 18, 19, 20, 21, 22, 23, 24, 25, 26, 27, 28, 29, 30, 31, 32, 33, 34] (by decide +kernel) (by decide +kernel)
set_option maxRecDepth 20000 in
theorem gX3_changeAccumulator_X3_adjustDecimal : GoodIn wsX3_changeAccumulator (wsV RX3 143 RX3 yX3_adjustDecimal wsX3_adjustDecimal) := goodIn_app (goodIn_of _ (by decide +kernel)) ggX3_changeAccumulator_X3_adjustDecimal
theorem dX3_changeAccumulator_0 : decode cX3_changeAccumulator 0 = .ok (.aload_n 0, 1) := by decide +kernel
theorem dX3_changeAccumulator_1 : decode cX3_changeAccumulator 1 = .ok (.getfield 9, 3) := by decide +kernel
theorem dX3_changeAccumulator_4 : decode cX3_changeAccumulator 4 = .ok (.bipush 7, 2) := by decide +kernel
theorem dX3_changeAccumulator_6 : decode cX3_changeAccumulator 6 = .ok (.iaload, 1) := by decide +kernel
theorem dX3_changeAccumulator_7 : decode cX3_changeAccumulator 7 = .ok (.istore_n 2, 1) := by decide +kernel
theorem dX3_changeAccumulator_8 : decode cX3_changeAccumulator 8 = .ok (.aload_n 0, 1) := by decide +kernel
theorem dX3_changeAccumulator_9 : decode cX3_changeAccumulator 9 = .ok (.getfield 13, 3) := by decide +kernel
theorem dX3_changeAccumulator_12 : decode cX3_changeAccumulator 12 = .ok (.iconst 1, 1) := by decide +kernel
theorem dX3_changeAccumulator_13 : decode cX3_changeAccumulator 13 = .ok (.iand, 1) := by decide +kernel
theorem dX3_changeAccumulator_14 : decode cX3_changeAccumulator 14 = .ok (.istore_n 3, 1) := by decide +kernel
theorem dX3_changeAccumulator_15 : decode cX3_changeAccumulator 15 = .ok (.iload_n 1, 1) := by decide +kernel
theorem dX3_changeAccumulator_16 : decode cX3_changeAccumulator 16 = .ok (.tableswitch 146 0 6 #[44, 63, 79, 95, 111, 118, 133], 44) := by decide +kernel
theorem dX3_changeAccumulator_60 : decode cX3_changeAccumulator 60 = .ok (.aload_n 0, 1) := by decide +kernel
theorem dX3_changeAccumulator_61 : decode cX3_changeAccumulator 61 = .ok (.iload_n 2, 1) := by decide +kernel
theorem dX3_changeAccumulator_62 : decode cX3_changeAccumulator 62 = .ok (.iconst 1, 1) := by decide +kernel
theorem dX3_changeAccumulator_63 : decode cX3_changeAccumulator 63 = .ok (.ishl, 1) := by decide +kernel
theorem dX3_changeAccumulator_64 : decode cX3_changeAccumulator 64 = .ok (.iload_n 2, 1) := by decide +kernel
theorem dX3_changeAccumulator_65 : decode cX3_changeAccumulator 65 = .ok (.bipush 7, 2) := by decide +kernel
theorem dX3_changeAccumulator_67 : decode cX3_changeAccumulator 67 = .ok (.ishr, 1) := by decide +kernel
theorem dX3_changeAccumulator_68 : decode cX3_changeAccumulator 68 = .ok (.ior, 1) := by decide +kernel
theorem dX3_changeAccumulator_69 : decode cX3_changeAccumulator 69 = .ok (.iload_n 2, 1) := by decide +kernel
theorem dX3_changeAccumulator_70 : decode cX3_changeAccumulator 70 = .ok (.bipush 7, 2) := by decide +kernel
theorem dX3_changeAccumulator_72 : decode cX3_changeAccumulator 72 = .ok (.ishr, 1) := by decide +kernel
theorem dX3_changeAccumulator_73 : decode cX3_changeAccumulator 73 = .ok (.invokevirtual 140, 3) := by decide +kernel
theorem dX3_changeAccumulator_76 : decode cX3_changeAccumulator 76 = .ok (.goto 96, 3) := by decide +kernel
theorem dX3_changeAccumulator_79 : decode cX3_changeAccumulator 79 = .ok (.aload_n 0, 1) := by decide +kernel
theorem dX3_changeAccumulator_80 : decode cX3_changeAccumulator 80 = .ok (.iload_n 2, 1) := by decide +kernel
theorem dX3_changeAccumulator_81 : decode cX3_changeAccumulator 81 = .ok (.iconst 1, 1) := by decide +kernel
theorem dX3_changeAccumulator_82 : decode cX3_changeAccumulator 82 = .ok (.ishr, 1) := by decide +kernel
theorem dX3_changeAccumulator_83 : decode cX3_changeAccumulator 83 = .ok (.iload_n 2, 1) := by decide +kernel
theorem dX3_changeAccumulator_84 : decode cX3_changeAccumulator 84 = .ok (.bipush 7, 2) := by decide +kernel
theorem dX3_changeAccumulator_86 : decode cX3_changeAccumulator 86 = .ok (.ishl, 1) := by decide +kernel
theorem dX3_changeAccumulator_87 : decode cX3_changeAccumulator 87 = .ok (.ior, 1) := by decide +kernel
theorem dX3_changeAccumulator_88 : decode cX3_changeAccumulator 88 = .ok (.iload_n 2, 1) := by decide +kernel
theorem dX3_changeAccumulator_89 : decode cX3_changeAccumulator 89 = .ok (.invokevirtual 140, 3) := by decide +kernel
theorem dX3_changeAccumulator_92 : decode cX3_changeAccumulator 92 = .ok (.goto 80, 3) := by decide +kernel
theorem dX3_changeAccumulator_95 : decode cX3_changeAccumulator 95 = .ok (.aload_n 0, 1) := by decide +kernel
theorem dX3_changeAccumulator_96 : decode cX3_changeAccumulator 96 = .ok (.iload_n 2, 1) := by decide +kernel
theorem dX3_changeAccumulator_97 : decode cX3_changeAccumulator 97 = .ok (.iconst 1, 1) := by decide +kernel
theorem dX3_changeAccumulator_98 : decode cX3_changeAccumulator 98 = .ok (.ishl, 1) := by decide +kernel
theorem dX3_changeAccumulator_99 : decode cX3_changeAccumulator 99 = .ok (.iload_n 3, 1) := by decide +kernel
theorem dX3_changeAccumulator_100 : decode cX3_changeAccumulator 100 = .ok (.ior, 1) := by decide +kernel
theorem dX3_changeAccumulator_101 : decode cX3_changeAccumulator 101 = .ok (.iload_n 2, 1) := by decide +kernel
theorem dX3_changeAccumulator_102 : decode cX3_changeAccumulator 102 = .ok (.bipush 7, 2) := by decide +kernel
theorem dX3_changeAccumulator_104 : decode cX3_changeAccumulator 104 = .ok (.ishr, 1) := by decide +kernel
theorem dX3_changeAccumulator_105 : decode cX3_changeAccumulator 105 = .ok (.invokevirtual 140, 3) := by decide +kernel
theorem dX3_changeAccumulator_108 : decode cX3_changeAccumulator 108 = .ok (.goto 64, 3) := by decide +kernel
theorem dX3_changeAccumulator_111 : decode cX3_changeAccumulator 111 = .ok (.aload_n 0, 1) := by decide +kernel
theorem dX3_changeAccumulator_112 : decode cX3_changeAccumulator 112 = .ok (.iload_n 2, 1) := by decide +kernel
theorem dX3_changeAccumulator_113 : decode cX3_changeAccumulator 113 = .ok (.iconst 1, 1) := by decide +kernel
theorem dX3_changeAccumulator_114 : decode cX3_changeAccumulator 114 = .ok (.ishr, 1) := by decide +kernel
theorem dX3_changeAccumulator_115 : decode cX3_changeAccumulator 115 = .ok (.iload_n 3, 1) := by decide +kernel
theorem dX3_changeAccumulator_116 : decode cX3_changeAccumulator 116 = .ok (.bipush 7, 2) := by decide +kernel
theorem dX3_changeAccumulator_118 : decode cX3_changeAccumulator 118 = .ok (.ishl, 1) := by decide +kernel
theorem dX3_changeAccumulator_119 : decode cX3_changeAccumulator 119 = .ok (.ior, 1) := by decide +kernel
theorem dX3_changeAccumulator_120 : decode cX3_changeAccumulator 120 = .ok (.iload_n 2, 1) := by decide +kernel
theorem dX3_changeAccumulator_121 : decode cX3_changeAccumulator 121 = .ok (.invokevirtual 140, 3) := by decide +kernel
theorem dX3_changeAccumulator_124 : decode cX3_changeAccumulator 124 = .ok (.goto 48, 3) := by decide +kernel
theorem dX3_changeAccumulator_127 : decode cX3_changeAccumulator 127 = .ok (.aload_n 0, 1) := by decide +kernel
theorem dX3_changeAccumulator_128 : decode cX3_changeAccumulator 128 = .ok (.invokevirtual 143, 3) := by decide +kernel
theorem dX3_changeAccumulator_131 : decode cX3_changeAccumulator 131 = .ok (.goto 41, 3) := by decide +kernel
theorem dX3_changeAccumulator_134 : decode cX3_changeAccumulator 134 = .ok (.aload_n 0, 1) := by decide +kernel
theorem dX3_changeAccumulator_135 : decode cX3_changeAccumulator 135 = .ok (.getfield 9, 3) := by decide +kernel
theorem dX3_changeAccumulator_138 : decode cX3_changeAccumulator 138 = .ok (.bipush 7, 2) := by decide +kernel
theorem dX3_changeAccumulator_140 : decode cX3_changeAccumulator 140 = .ok (.iload_n 2, 1) := by decide +kernel
theorem dX3_changeAccumulator_141 : decode cX3_changeAccumulator 141 = .ok (.sipush 255, 3) := by decide +kernel
theorem dX3_changeAccumulator_144 : decode cX3_changeAccumulator 144 = .ok (.ixor, 1) := by decide +kernel
theorem dX3_changeAccumulator_145 : decode cX3_changeAccumulator 145 = .ok (.iastore, 1) := by decide +kernel
theorem dX3_changeAccumulator_146 : decode cX3_changeAccumulator 146 = .ok (.goto 26, 3) := by decide +kernel
theorem dX3_changeAccumulator_149 : decode cX3_changeAccumulator 149 = .ok (.aload_n 0, 1) := by decide +kernel
theorem dX3_changeAccumulator_150 : decode cX3_changeAccumulator 150 = .ok (.dup, 1) := by decide +kernel
theorem dX3_changeAccumulator_151 : decode cX3_changeAccumulator 151 = .ok (.getfield 13, 3) := by decide +kernel
theorem dX3_changeAccumulator_154 : decode cX3_changeAccumulator 154 = .ok (.iconst 1, 1) := by decide +kernel
theorem dX3_changeAccumulator_155 : decode cX3_changeAccumulator 155 = .ok (.ior, 1) := by decide +kernel
theorem dX3_changeAccumulator_156 : decode cX3_changeAccumulator 156 = .ok (.putfield 13, 3) := by decide +kernel
theorem dX3_changeAccumulator_159 : decode cX3_changeAccumulator 159 = .ok (.goto 13, 3) := by decide +kernel
theorem dX3_changeAccumulator_162 : decode cX3_changeAccumulator 162 = .ok (.aload_n 0, 1) := by decide +kernel
theorem dX3_changeAccumulator_163 : decode cX3_changeAccumulator 163 = .ok (.dup, 1) := by decide +kernel
theorem dX3_changeAccumulator_164 : decode cX3_changeAccumulator 164 = .ok (.getfield 13, 3) := by decide +kernel
theorem dX3_changeAccumulator_167 : decode cX3_changeAccumulator 167 = .ok (.iconst 1, 1) := by decide +kernel
theorem dX3_changeAccumulator_168 : decode cX3_changeAccumulator 168 = .ok (.ixor, 1) := by decide +kernel
theorem dX3_changeAccumulator_169 : decode cX3_changeAccumulator 169 = .ok (.putfield 13, 3) := by decide +kernel
theorem dX3_changeAccumulator_172 : decode cX3_changeAccumulator 172 = .ok (.return_, 1) := by decide +kernel
set_option maxRecDepth 20000 in
theorem ggX3_setRotated_X3_setCarry : GoodIn wsX3_setRotated wsX3_setCarry := goodIn_r _ [6, 7, 8, 9, 10, 11, 12, 13, 14, 15, 16] (by decide +kernel) (by decide +kernel)
set_option maxRecDepth 20000 in
theorem gX3_setRotated_X3_setCarry : GoodIn wsX3_setRotated (wsV RX3 146 RX3 yX3_setCarry wsX3_setCarry) := goodIn_app (goodIn_of _ (by decide +kernel)) ggX3_setRotated_X3_setCarry
theorem dX3_setRotated_0 : decode cX3_setRotated 0 = .ok (.aload_n 0, 1) := by decide +kernel
theorem dX3_setRotated_1 : decode cX3_setRotated 1 = .ok (.getfield 9, 3) := by decide +kernel
theorem dX3_setRotated_4 : decode cX3_setRotated 4 = .ok (.bipush 7, 2) := by decide +kernel
theorem dX3_setRotated_6 : decode cX3_setRotated 6 = .ok (.iload_n 1, 1) := by decide +kernel
theorem dX3_setRotated_7 : decode cX3_setRotated 7 = .ok (.sipush 255, 3) := by decide +kernel
theorem dX3_setRotated_10 : decode cX3_setRotated 10 = .ok (.iand, 1) := by decide +kernel
theorem dX3_setRotated_11 : decode cX3_setRotated 11 = .ok (.iastore, 1) := by decide +kernel
theorem dX3_setRotated_12 : decode cX3_setRotated 12 = .ok (.aload_n 0, 1) := by decide +kernel
theorem dX3_setRotated_13 : decode cX3_setRotated 13 = .ok (.iload_n 2, 1) := by decide +kernel
theorem dX3_setRotated_14 : decode cX3_setRotated 14 = .ok (.invokevirtual 146, 3) := by decide +kernel
theorem dX3_setRotated_17 : decode cX3_setRotated 17 = .ok (.return_, 1) := by decide +kernel
theorem dX3_setCarry_0 : decode cX3_setCarry 0 = .ok (.aload_n 0, 1) := by decide +kernel
theorem dX3_setCarry_1 : decode cX3_setCarry 1 = .ok (.aload_n 0, 1) := by decide +kernel
theorem dX3_setCarry_2 : decode cX3_setCarry 2 = .ok (.getfield 13, 3) := by decide +kernel
theorem dX3_setCarry_5 : decode cX3_setCarry 5 = .ok (.bipush (-2), 2) := by decide +kernel
theorem dX3_setCarry_7 : decode cX3_setCarry 7 = .ok (.iand, 1) := by decide +kernel
theorem dX3_setCarry_8 : decode cX3_setCarry 8 = .ok (.iload_n 1, 1) := by decide +kernel
theorem dX3_setCarry_9 : decode cX3_setCarry 9 = .ok (.iconst 1, 1) := by decide +kernel
theorem dX3_setCarry_10 : decode cX3_setCarry 10 = .ok (.iand, 1) := by decide +kernel
theorem dX3_setCarry_11 : decode cX3_setCarry 11 = .ok (.ior, 1) := by decide +kernel
theorem dX3_setCarry_12 : decode cX3_setCarry 12 = .ok (.putfield 13, 3) := by decide +kernel
theorem dX3_setCarry_15 : decode cX3_setCarry 15 = .ok (.return_, 1) := by decide +kernel
set_option maxRecDepth 20000 in
theorem ggX3_adjustDecimal_X3_flagsOf : GoodIn wsX3_adjustDecimal wsX3_flagsOf := goodIn_r _ [6, 7, 8, 9, 10, 11, 12, 13] (by decide +kernel) (by decide +kernel)
set_option maxRecDepth 20000 in
theorem gX3_adjustDecimal_X3_flagsOf : GoodIn wsX3_adjustDecimal (va_wsS RX3 149 yX3_flagsOf wsX3_flagsOf) := goodIn_app (goodIn_of _ (by decide +kernel)) ggX3_adjustDecimal_X3_flagsOf
theorem dX3_adjustDecimal_0 : decode cX3_adjustDecimal 0 = .ok (.aload_n 0, 1) := by decide +kernel
theorem dX3_adjustDecimal_1 : decode cX3_adjustDecimal 1 = .ok (.getfield 9, 3) := by decide +kernel
theorem dX3_adjustDecimal_4 : decode cX3_adjustDecimal 4 = .ok (.bipush 7, 2) := by decide +kernel
theorem dX3_adjustDecimal_6 : decode cX3_adjustDecimal 6 = .ok (.iaload, 1) := by decide +kernel
theorem dX3_adjustDecimal_7 : decode cX3_adjustDecimal 7 = .ok (.istore_n 1, 1) := by decide +kernel
theorem dX3_adjustDecimal_8 : decode cX3_adjustDecimal 8 = .ok (.iload_n 1, 1) := by decide +kernel
theorem dX3_adjustDecimal_9 : decode cX3_adjustDecimal 9 = .ok (.bipush 15, 2) := by decide +kernel
theorem dX3_adjustDecimal_11 : decode cX3_adjustDecimal 11 = .ok (.iand, 1) := by decide +kernel
theorem dX3_adjustDecimal_12 : decode cX3_adjustDecimal 12 = .ok (.istore_n 2, 1) := by decide +kernel
theorem dX3_adjustDecimal_13 : decode cX3_adjustDecimal 13 = .ok (.iload_n 2, 1) := by decide +kernel
theorem dX3_adjustDecimal_14 : decode cX3_adjustDecimal 14 = .ok (.bipush 9, 2) := by decide +kernel
theorem dX3_adjustDecimal_16 : decode cX3_adjustDecimal 16 = .ok (.if_icmp .gt 13, 3) := by decide +kernel
theorem dX3_adjustDecimal_19 : decode cX3_adjustDecimal 19 = .ok (.aload_n 0, 1) := by decide +kernel
theorem dX3_adjustDecimal_20 : decode cX3_adjustDecimal 20 = .ok (.getfield 13, 3) := by decide +kernel
theorem dX3_adjustDecimal_23 : decode cX3_adjustDecimal 23 = .ok (.bipush 16, 2) := by decide +kernel
theorem dX3_adjustDecimal_25 : decode cX3_adjustDecimal 25 = .ok (.iand, 1) := by decide +kernel
theorem dX3_adjustDecimal_26 : decode cX3_adjustDecimal 26 = .ok (.ifCond .eq 8, 3) := by decide +kernel
theorem dX3_adjustDecimal_29 : decode cX3_adjustDecimal 29 = .ok (.bipush 6, 2) := by decide +kernel
theorem dX3_adjustDecimal_31 : decode cX3_adjustDecimal 31 = .ok (.goto 4, 3) := by decide +kernel
theorem dX3_adjustDecimal_34 : decode cX3_adjustDecimal 34 = .ok (.iconst 0, 1) := by decide +kernel
theorem dX3_adjustDecimal_35 : decode cX3_adjustDecimal 35 = .ok (.istore_n 3, 1) := by decide +kernel
theorem dX3_adjustDecimal_36 : decode cX3_adjustDecimal 36 = .ok (.iload_n 2, 1) := by decide +kernel
theorem dX3_adjustDecimal_37 : decode cX3_adjustDecimal 37 = .ok (.iload_n 3, 1) := by decide +kernel
theorem dX3_adjustDecimal_38 : decode cX3_adjustDecimal 38 = .ok (.iadd, 1) := by decide +kernel
theorem dX3_adjustDecimal_39 : decode cX3_adjustDecimal 39 = .ok (.bipush 15, 2) := by decide +kernel
theorem dX3_adjustDecimal_41 : decode cX3_adjustDecimal 41 = .ok (.if_icmp .le 8, 3) := by decide +kernel
theorem dX3_adjustDecimal_44 : decode cX3_adjustDecimal 44 = .ok (.bipush 16, 2) := by decide +kernel
theorem dX3_adjustDecimal_46 : decode cX3_adjustDecimal 46 = .ok (.goto 4, 3) := by decide +kernel
theorem dX3_adjustDecimal_49 : decode cX3_adjustDecimal 49 = .ok (.iconst 0, 1) := by decide +kernel
theorem dX3_adjustDecimal_50 : decode cX3_adjustDecimal 50 = .ok (.istore 4, 2) := by decide +kernel
theorem dX3_adjustDecimal_52 : decode cX3_adjustDecimal 52 = .ok (.iload_n 1, 1) := by decide +kernel
theorem dX3_adjustDecimal_53 : decode cX3_adjustDecimal 53 = .ok (.sipush 153, 3) := by decide +kernel
theorem dX3_adjustDecimal_56 : decode cX3_adjustDecimal 56 = .ok (.if_icmp .gt 12, 3) := by decide +kernel
theorem dX3_adjustDecimal_59 : decode cX3_adjustDecimal 59 = .ok (.aload_n 0, 1) := by decide +kernel
theorem dX3_adjustDecimal_60 : decode cX3_adjustDecimal 60 = .ok (.getfield 13, 3) := by decide +kernel
theorem dX3_adjustDecimal_63 : decode cX3_adjustDecimal 63 = .ok (.iconst 1, 1) := by decide +kernel
theorem dX3_adjustDecimal_64 : decode cX3_adjustDecimal 64 = .ok (.iand, 1) := by decide +kernel
theorem dX3_adjustDecimal_65 : decode cX3_adjustDecimal 65 = .ok (.ifCond .eq 12, 3) := by decide +kernel
theorem dX3_adjustDecimal_68 : decode cX3_adjustDecimal 68 = .ok (.iinc 3 96, 3) := by decide +kernel
theorem dX3_adjustDecimal_71 : decode cX3_adjustDecimal 71 = .ok (.iload 4, 2) := by decide +kernel
theorem dX3_adjustDecimal_73 : decode cX3_adjustDecimal 73 = .ok (.iconst 1, 1) := by decide +kernel
theorem dX3_adjustDecimal_74 : decode cX3_adjustDecimal 74 = .ok (.ior, 1) := by decide +kernel
theorem dX3_adjustDecimal_75 : decode cX3_adjustDecimal 75 = .ok (.istore 4, 2) := by decide +kernel
theorem dX3_adjustDecimal_77 : decode cX3_adjustDecimal 77 = .ok (.aload_n 0, 1) := by decide +kernel
theorem dX3_adjustDecimal_78 : decode cX3_adjustDecimal 78 = .ok (.getfield 9, 3) := by decide +kernel
theorem dX3_adjustDecimal_81 : decode cX3_adjustDecimal 81 = .ok (.bipush 7, 2) := by decide +kernel
theorem dX3_adjustDecimal_83 : decode cX3_adjustDecimal 83 = .ok (.iload_n 1, 1) := by decide +kernel
theorem dX3_adjustDecimal_84 : decode cX3_adjustDecimal 84 = .ok (.iload_n 3, 1) := by decide +kernel
theorem dX3_adjustDecimal_85 : decode cX3_adjustDecimal 85 = .ok (.iadd, 1) := by decide +kernel
theorem dX3_adjustDecimal_86 : decode cX3_adjustDecimal 86 = .ok (.sipush 255, 3) := by decide +kernel
theorem dX3_adjustDecimal_89 : decode cX3_adjustDecimal 89 = .ok (.iand, 1) := by decide +kernel
theorem dX3_adjustDecimal_90 : decode cX3_adjustDecimal 90 = .ok (.iastore, 1) := by decide +kernel
theorem dX3_adjustDecimal_91 : decode cX3_adjustDecimal 91 = .ok (.aload_n 0, 1) := by decide +kernel
theorem dX3_adjustDecimal_92 : decode cX3_adjustDecimal 92 = .ok (.aload_n 0, 1) := by decide +kernel
theorem dX3_adjustDecimal_93 : decode cX3_adjustDecimal 93 = .ok (.getfield 9, 3) := by decide +kernel
theorem dX3_adjustDecimal_96 : decode cX3_adjustDecimal 96 = .ok (.bipush 7, 2) := by decide +kernel
theorem dX3_adjustDecimal_98 : decode cX3_adjustDecimal 98 = .ok (.iaload, 1) := by decide +kernel
theorem dX3_adjustDecimal_99 : decode cX3_adjustDecimal 99 = .ok (.invokestatic 149, 3) := by decide +kernel
theorem dX3_adjustDecimal_102 : decode cX3_adjustDecimal 102 = .ok (.iload 4, 2) := by decide +kernel
theorem dX3_adjustDecimal_104 : decode cX3_adjustDecimal 104 = .ok (.ior, 1) := by decide +kernel
theorem dX3_adjustDecimal_105 : decode cX3_adjustDecimal 105 = .ok (.putfield 13, 3) := by decide +kernel
theorem dX3_adjustDecimal_108 : decode cX3_adjustDecimal 108 = .ok (.return_, 1) := by decide +kernel
set_option maxRecDepth 20000 in
theorem ggX3_executeSingle_X3_fetch : GoodIn wsX3_executeSingle wsX3_fetch := goodIn_r _ [10, 11, 5, 12, 13, 14, 15, 16, 17, 18, 19, 20, 78, 79, 80, 81, 82, 83, 84, 85, 86, 87, 88] (by decide +kernel) (by decide +kernel)
set_option maxRecDepth 20000 in
theorem gX3_executeSingle_X3_fetch : GoodIn wsX3_executeSingle (wsV RX3 45 RX3 yX3_fetch wsX3_fetch) := goodIn_app (goodIn_of _ (by decide +kernel)) ggX3_executeSingle_X3_fetch
set_option maxRecDepth 20000 in
theorem ggX3_executeSingle_X2_out : GoodIn wsX3_executeSingle wsX2_out := goodIn_r _ [25, 26, 27, 28, 29, 30, 31, 24, 32, 33, 34, 89, 90, 91, 92, 93, 94] (by decide +kernel) (by decide +kernel)
set_option maxRecDepth 20000 in
theorem gX3_executeSingle_X2_out : GoodIn wsX3_executeSingle (wsV RX3 152 RX2 yX2_out wsX2_out) := goodIn_app (goodIn_of _ (by decide +kernel)) ggX3_executeSingle_X2_out
set_option maxRecDepth 20000 in
theorem ggX3_executeSingle_X2_in : GoodIn wsX3_executeSingle wsX2_in := goodIn_r _ [38, 39, 40, 41, 42, 24, 43, 27, 26, 89, 90, 91, 92, 93, 94] (by decide +kernel) (by decide +kernel)
set_option maxRecDepth 20000 in
theorem gX3_executeSingle_X2_in : GoodIn wsX3_executeSingle (wsV RX3 157 RX2 yX2_in wsX2_in) := goodIn_app (goodIn_of _ (by decide +kernel)) ggX3_executeSingle_X2_in
set_option maxRecDepth 20000 in
theorem ggX3_executeSingle_X3_pairAt : GoodIn wsX3_executeSingle wsX3_pairAt := goodIn_r _ [47, 2, 78, 79, 80, 81, 82, 83, 84, 85, 86] (by decide +kernel) (by decide +kernel)
set_option maxRecDepth 20000 in
theorem gX3_executeSingle_X3_pairAt : GoodIn wsX3_executeSingle (wsV RX3 120 RX3 yX3_pairAt wsX3_pairAt) := goodIn_app (goodIn_of _ (by decide +kernel)) ggX3_executeSingle_X3_pairAt
set_option maxRecDepth 20000 in
theorem ggX3_executeSingle_X3_exchangeTop : GoodIn wsX3_executeSingle wsX3_exchangeTop := goodIn_r _ [51, 11, 52, 53, 54, 55, 16, 56, 57, 14, 15, 17, 18, 19, 20, 58, 59, 60, 61, 62, 63, 64, 65, 78, 79, 80, 81, 82, 83, 84, 85, 86, 87, 88] (by decide +kernel) (by decide +kernel)
set_option maxRecDepth 20000 in
theorem gX3_executeSingle_X3_exchangeTop : GoodIn wsX3_executeSingle (wsV RX3 160 RX3 yX3_exchangeTop wsX3_exchangeTop) := goodIn_app (goodIn_of _ (by decide +kernel)) ggX3_executeSingle_X3_exchangeTop
set_option maxRecDepth 20000 in
theorem ggX3_executeSingle_X3_setPairAt : GoodIn wsX3_executeSingle wsX3_setPairAt := goodIn_r _ [69, 2, 78, 79, 80, 81, 82, 83, 84, 85, 86] (by decide +kernel) (by decide +kernel)
set_option maxRecDepth 20000 in
theorem gX3_executeSingle_X3_setPairAt : GoodIn wsX3_executeSingle (wsV RX3 137 RX3 yX3_setPairAt wsX3_setPairAt) := goodIn_app (goodIn_of _ (by decide +kernel)) ggX3_executeSingle_X3_setPairAt
set_option maxRecDepth 20000 in
theorem ggX3_executeSingle_X3_exchangePairs : GoodIn wsX3_executeSingle wsX3_exchangePairs := goodIn_r _ [73, 44, 45, 46, 9, 47, 2, 66, 67, 68, 69, 78, 79, 80, 81, 82, 83, 84, 85, 86] (by decide +kernel) (by decide +kernel)
set_option maxRecDepth 20000 in
theorem gX3_executeSingle_X3_exchangePairs : GoodIn wsX3_executeSingle (wsV RX3 163 RX3 yX3_exchangePairs wsX3_exchangePairs) := goodIn_app (goodIn_of _ (by decide +kernel)) ggX3_executeSingle_X3_exchangePairs
set_option maxRecDepth 20000 in
theorem ggX3_executeSingle_X3_fetchWord : GoodIn wsX3_executeSingle wsX3_fetchWord := goodIn_r _ [77, 11, 5, 12, 53, 54, 55, 16, 56, 57, 14, 15, 17, 18, 19, 20, 78, 79, 80, 81, 82, 83, 84, 85, 86, 87, 88] (by decide +kernel) (by decide +kernel)
set_option maxRecDepth 20000 in
theorem gX3_executeSingle_X3_fetchWord : GoodIn wsX3_executeSingle (wsV RX3 75 RX3 yX3_fetchWord wsX3_fetchWord) := goodIn_app (goodIn_of _ (by decide +kernel)) ggX3_executeSingle_X3_fetchWord
theorem dX3_executeSingle_0 : decode cX3_executeSingle 0 = .ok (.iload_n 1, 1) := by decide +kernel
theorem dX3_executeSingle_1 : decode cX3_executeSingle 1 = .ok (.tableswitch 137 2 7 #[39, 60, 81, 98, 105, 118], 39) := by decide +kernel
theorem dX3_executeSingle_40 : decode cX3_executeSingle 40 = .ok (.aload_n 0, 1) := by decide +kernel
theorem dX3_executeSingle_41 : decode cX3_executeSingle 41 = .ok (.getfield 21, 3) := by decide +kernel
theorem dX3_executeSingle_44 : decode cX3_executeSingle 44 = .ok (.aload_n 0, 1) := by decide +kernel
theorem dX3_executeSingle_45 : decode cX3_executeSingle 45 = .ok (.invokevirtual 45, 3) := by decide +kernel
theorem dX3_executeSingle_48 : decode cX3_executeSingle 48 = .ok (.aload_n 0, 1) := by decide +kernel
theorem dX3_executeSingle_49 : decode cX3_executeSingle 49 = .ok (.getfield 9, 3) := by decide +kernel
theorem dX3_executeSingle_52 : decode cX3_executeSingle 52 = .ok (.bipush 7, 2) := by decide +kernel
theorem dX3_executeSingle_54 : decode cX3_executeSingle 54 = .ok (.iaload, 1) := by decide +kernel
theorem dX3_executeSingle_55 : decode cX3_executeSingle 55 = .ok (.invokevirtual 152, 3) := by decide +kernel
theorem dX3_executeSingle_58 : decode cX3_executeSingle 58 = .ok (.goto 88, 3) := by decide +kernel
theorem dX3_executeSingle_61 : decode cX3_executeSingle 61 = .ok (.aload_n 0, 1) := by decide +kernel
theorem dX3_executeSingle_62 : decode cX3_executeSingle 62 = .ok (.getfield 9, 3) := by decide +kernel
theorem dX3_executeSingle_65 : decode cX3_executeSingle 65 = .ok (.bipush 7, 2) := by decide +kernel
theorem dX3_executeSingle_67 : decode cX3_executeSingle 67 = .ok (.aload_n 0, 1) := by decide +kernel
theorem dX3_executeSingle_68 : decode cX3_executeSingle 68 = .ok (.getfield 21, 3) := by decide +kernel
theorem dX3_executeSingle_71 : decode cX3_executeSingle 71 = .ok (.aload_n 0, 1) := by decide +kernel
theorem dX3_executeSingle_72 : decode cX3_executeSingle 72 = .ok (.invokevirtual 45, 3) := by decide +kernel
theorem dX3_executeSingle_75 : decode cX3_executeSingle 75 = .ok (.invokevirtual 157, 3) := by decide +kernel
theorem dX3_executeSingle_78 : decode cX3_executeSingle 78 = .ok (.iastore, 1) := by decide +kernel
theorem dX3_executeSingle_79 : decode cX3_executeSingle 79 = .ok (.goto 67, 3) := by decide +kernel
theorem dX3_executeSingle_82 : decode cX3_executeSingle 82 = .ok (.aload_n 0, 1) := by decide +kernel
theorem dX3_executeSingle_83 : decode cX3_executeSingle 83 = .ok (.iconst 4, 1) := by decide +kernel
theorem dX3_executeSingle_84 : decode cX3_executeSingle 84 = .ok (.aload_n 0, 1) := by decide +kernel
theorem dX3_executeSingle_85 : decode cX3_executeSingle 85 = .ok (.aload_n 0, 1) := by decide +kernel
theorem dX3_executeSingle_86 : decode cX3_executeSingle 86 = .ok (.iconst 4, 1) := by decide +kernel
theorem dX3_executeSingle_87 : decode cX3_executeSingle 87 = .ok (.invokevirtual 120, 3) := by decide +kernel
theorem dX3_executeSingle_90 : decode cX3_executeSingle 90 = .ok (.invokevirtual 160, 3) := by decide +kernel
theorem dX3_executeSingle_93 : decode cX3_executeSingle 93 = .ok (.invokevirtual 137, 3) := by decide +kernel
theorem dX3_executeSingle_96 : decode cX3_executeSingle 96 = .ok (.goto 50, 3) := by decide +kernel
theorem dX3_executeSingle_99 : decode cX3_executeSingle 99 = .ok (.aload_n 0, 1) := by decide +kernel
theorem dX3_executeSingle_100 : decode cX3_executeSingle 100 = .ok (.invokevirtual 163, 3) := by decide +kernel
theorem dX3_executeSingle_103 : decode cX3_executeSingle 103 = .ok (.goto 43, 3) := by decide +kernel
theorem dX3_executeSingle_106 : decode cX3_executeSingle 106 = .ok (.aload_n 0, 1) := by decide +kernel
theorem dX3_executeSingle_107 : decode cX3_executeSingle 107 = .ok (.iconst 0, 1) := by decide +kernel
theorem dX3_executeSingle_108 : decode cX3_executeSingle 108 = .ok (.putfield 31, 3) := by decide +kernel
theorem dX3_executeSingle_111 : decode cX3_executeSingle 111 = .ok (.aload_n 0, 1) := by decide +kernel
theorem dX3_executeSingle_112 : decode cX3_executeSingle 112 = .ok (.iconst 0, 1) := by decide +kernel
theorem dX3_executeSingle_113 : decode cX3_executeSingle 113 = .ok (.putfield 35, 3) := by decide +kernel
theorem dX3_executeSingle_116 : decode cX3_executeSingle 116 = .ok (.goto 30, 3) := by decide +kernel
theorem dX3_executeSingle_119 : decode cX3_executeSingle 119 = .ok (.aload_n 0, 1) := by decide +kernel
theorem dX3_executeSingle_120 : decode cX3_executeSingle 120 = .ok (.aload_n 0, 1) := by decide +kernel
theorem dX3_executeSingle_121 : decode cX3_executeSingle 121 = .ok (.getfield 31, 3) := by decide +kernel
theorem dX3_executeSingle_124 : decode cX3_executeSingle 124 = .ok (.ifCond .ne 7, 3) := by decide +kernel
theorem dX3_executeSingle_127 : decode cX3_executeSingle 127 = .ok (.iconst 1, 1) := by decide +kernel
theorem dX3_executeSingle_128 : decode cX3_executeSingle 128 = .ok (.goto 4, 3) := by decide +kernel
theorem dX3_executeSingle_131 : decode cX3_executeSingle 131 = .ok (.iconst 0, 1) := by decide +kernel
theorem dX3_executeSingle_132 : decode cX3_executeSingle 132 = .ok (.putfield 35, 3) := by decide +kernel
theorem dX3_executeSingle_135 : decode cX3_executeSingle 135 = .ok (.goto 11, 3) := by decide +kernel
theorem dX3_executeSingle_138 : decode cX3_executeSingle 138 = .ok (.aload_n 0, 1) := by decide +kernel
theorem dX3_executeSingle_139 : decode cX3_executeSingle 139 = .ok (.aload_n 0, 1) := by decide +kernel
theorem dX3_executeSingle_140 : decode cX3_executeSingle 140 = .ok (.invokevirtual 75, 3) := by decide +kernel
theorem dX3_executeSingle_143 : decode cX3_executeSingle 143 = .ok (.putfield 28, 3) := by decide +kernel
theorem dX3_executeSingle_146 : decode cX3_executeSingle 146 = .ok (.return_, 1) := by decide +kernel
set_option maxRecDepth 20000 in
theorem ggX3_exchangeTop_X1_readWord : GoodIn wsX3_exchangeTop wsX1_readWord := goodIn_r _ [7, 8, 9, 10, 6, 11, 12, 13, 14, 32, 33] (by decide +kernel) (by decide +kernel)
set_option maxRecDepth 20000 in
theorem gX3_exchangeTop_X1_readWord : GoodIn wsX3_exchangeTop (wsV RX3 134 RX1 yX1_readWord wsX1_readWord) := goodIn_app (goodIn_of _ (by decide +kernel)) ggX3_exchangeTop_X1_readWord
set_option maxRecDepth 20000 in
theorem ggX3_exchangeTop_X1_writeWord : GoodIn wsX3_exchangeTop wsX1_writeWord := goodIn_r _ [18, 19, 20, 21, 6, 22, 12, 32, 33] (by decide +kernel) (by decide +kernel)
set_option maxRecDepth 20000 in
theorem gX3_exchangeTop_X1_writeWord : GoodIn wsX3_exchangeTop (wsV RX3 131 RX1 yX1_writeWord wsX1_writeWord) := goodIn_app (goodIn_of _ (by decide +kernel)) ggX3_exchangeTop_X1_writeWord
theorem dX3_exchangeTop_0 : decode cX3_exchangeTop 0 = .ok (.aload_n 0, 1) := by decide +kernel
theorem dX3_exchangeTop_1 : decode cX3_exchangeTop 1 = .ok (.getfield 17, 3) := by decide +kernel
theorem dX3_exchangeTop_4 : decode cX3_exchangeTop 4 = .ok (.aload_n 0, 1) := by decide +kernel
theorem dX3_exchangeTop_5 : decode cX3_exchangeTop 5 = .ok (.getfield 25, 3) := by decide +kernel
theorem dX3_exchangeTop_8 : decode cX3_exchangeTop 8 = .ok (.invokevirtual 134, 3) := by decide +kernel
theorem dX3_exchangeTop_11 : decode cX3_exchangeTop 11 = .ok (.istore_n 2, 1) := by decide +kernel
theorem dX3_exchangeTop_12 : decode cX3_exchangeTop 12 = .ok (.aload_n 0, 1) := by decide +kernel
theorem dX3_exchangeTop_13 : decode cX3_exchangeTop 13 = .ok (.getfield 17, 3) := by decide +kernel
theorem dX3_exchangeTop_16 : decode cX3_exchangeTop 16 = .ok (.aload_n 0, 1) := by decide +kernel
theorem dX3_exchangeTop_17 : decode cX3_exchangeTop 17 = .ok (.getfield 25, 3) := by decide +kernel
theorem dX3_exchangeTop_20 : decode cX3_exchangeTop 20 = .ok (.iload_n 1, 1) := by decide +kernel
theorem dX3_exchangeTop_21 : decode cX3_exchangeTop 21 = .ok (.invokevirtual 131, 3) := by decide +kernel
theorem dX3_exchangeTop_24 : decode cX3_exchangeTop 24 = .ok (.iload_n 2, 1) := by decide +kernel
theorem dX3_exchangeTop_25 : decode cX3_exchangeTop 25 = .ok (.ireturn, 1) := by decide +kernel
set_option maxRecDepth 20000 in
theorem ggX3_exchangePairs_X3_pairAt : GoodIn wsX3_exchangePairs wsX3_pairAt := goodIn_r _ [5, 6, 11, 12, 13, 14, 15, 16, 17, 18, 19] (by decide +kernel) (by decide +kernel)
set_option maxRecDepth 20000 in
theorem gX3_exchangePairs_X3_pairAt : GoodIn wsX3_exchangePairs (wsV RX3 120 RX3 yX3_pairAt wsX3_pairAt) := goodIn_app (goodIn_of _ (by decide +kernel)) ggX3_exchangePairs_X3_pairAt
set_option maxRecDepth 20000 in
theorem ggX3_exchangePairs_X3_setPairAt : GoodIn wsX3_exchangePairs wsX3_setPairAt := goodIn_r _ [10, 6, 11, 12, 13, 14, 15, 16, 17, 18, 19] (by decide +kernel) (by decide +kernel)
set_option maxRecDepth 20000 in
theorem gX3_exchangePairs_X3_setPairAt : GoodIn wsX3_exchangePairs (wsV RX3 137 RX3 yX3_setPairAt wsX3_setPairAt) := goodIn_app (goodIn_of _ (by decide +kernel)) ggX3_exchangePairs_X3_setPairAt
theorem dX3_exchangePairs_0 : decode cX3_exchangePairs 0 = .ok (.aload_n 0, 1) := by decide +kernel
theorem dX3_exchangePairs_1 : decode cX3_exchangePairs 1 = .ok (.iconst 2, 1) := by decide +kernel
theorem dX3_exchangePairs_2 : decode cX3_exchangePairs 2 = .ok (.invokevirtual 120, 3) := by decide +kernel
theorem dX3_exchangePairs_5 : decode cX3_exchangePairs 5 = .ok (.istore_n 1, 1) := by decide +kernel
theorem dX3_exchangePairs_6 : decode cX3_exchangePairs 6 = .ok (.aload_n 0, 1) := by decide +kernel
theorem dX3_exchangePairs_7 : decode cX3_exchangePairs 7 = .ok (.iconst 2, 1) := by decide +kernel
theorem dX3_exchangePairs_8 : decode cX3_exchangePairs 8 = .ok (.aload_n 0, 1) := by decide +kernel
theorem dX3_exchangePairs_9 : decode cX3_exchangePairs 9 = .ok (.iconst 4, 1) := by decide +kernel
theorem dX3_exchangePairs_10 : decode cX3_exchangePairs 10 = .ok (.invokevirtual 120, 3) := by decide +kernel
theorem dX3_exchangePairs_13 : decode cX3_exchangePairs 13 = .ok (.invokevirtual 137, 3) := by decide +kernel
theorem dX3_exchangePairs_16 : decode cX3_exchangePairs 16 = .ok (.aload_n 0, 1) := by decide +kernel
theorem dX3_exchangePairs_17 : decode cX3_exchangePairs 17 = .ok (.iconst 4, 1) := by decide +kernel
theorem dX3_exchangePairs_18 : decode cX3_exchangePairs 18 = .ok (.iload_n 1, 1) := by decide +kernel
theorem dX3_exchangePairs_19 : decode cX3_exchangePairs 19 = .ok (.invokevirtual 137, 3) := by decide +kernel
theorem dX3_exchangePairs_22 : decode cX3_exchangePairs 22 = .ok (.return_, 1) := by decide +kernel
set_option maxRecDepth 20000 in
theorem ggX3_popOrReturn_X3_pop : GoodIn wsX3_popOrReturn wsX3_pop := goodIn_r _ [7, 8, 2, 9, 10, 11, 12, 13, 14, 15, 16, 17, 18, 19, 20, 21, 36, 37, 38, 39, 40, 41, 42, 43, 44, 45, 46] (by decide +kernel) (by decide +kernel)
set_option maxRecDepth 20000 in
theorem gX3_popOrReturn_X3_pop : GoodIn wsX3_popOrReturn (wsV RX3 166 RX3 yX3_pop wsX3_pop) := goodIn_app (goodIn_of _ (by decide +kernel)) ggX3_popOrReturn_X3_pop
set_option maxRecDepth 20000 in
theorem ggX3_popOrReturn_X3_pairAt : GoodIn wsX3_popOrReturn wsX3_pairAt := goodIn_r _ [25, 26, 36, 37, 38, 39, 40, 41, 42, 43, 44] (by decide +kernel) (by decide +kernel)
set_option maxRecDepth 20000 in
theorem gX3_popOrReturn_X3_pairAt : GoodIn wsX3_popOrReturn (wsV RX3 120 RX3 yX3_pairAt wsX3_pairAt) := goodIn_app (goodIn_of _ (by decide +kernel)) ggX3_popOrReturn_X3_pairAt
set_option maxRecDepth 20000 in
theorem ggX3_popOrReturn_X3_setStatusWord : GoodIn wsX3_popOrReturn wsX3_setStatusWord := goodIn_r _ [30, 26, 31, 36, 37, 38, 39, 40, 41, 42, 43, 44] (by decide +kernel) (by decide +kernel)
set_option maxRecDepth 20000 in
theorem gX3_popOrReturn_X3_setStatusWord : GoodIn wsX3_popOrReturn (wsV RX3 169 RX3 yX3_setStatusWord wsX3_setStatusWord) := goodIn_app (goodIn_of _ (by decide +kernel)) ggX3_popOrReturn_X3_setStatusWord
set_option maxRecDepth 20000 in
theorem ggX3_popOrReturn_X3_setPairAt : GoodIn wsX3_popOrReturn wsX3_setPairAt := goodIn_r _ [35, 26, 36, 37, 38, 39, 40, 41, 42, 43, 44] (by decide +kernel) (by decide +kernel)
set_option maxRecDepth 20000 in
theorem gX3_popOrReturn_X3_setPairAt : GoodIn wsX3_popOrReturn (wsV RX3 137 RX3 yX3_setPairAt wsX3_setPairAt) := goodIn_app (goodIn_of _ (by decide +kernel)) ggX3_popOrReturn_X3_setPairAt
theorem dX3_popOrReturn_0 : decode cX3_popOrReturn 0 = .ok (.iload_n 1, 1) := by decide +kernel
theorem dX3_popOrReturn_1 : decode cX3_popOrReturn 1 = .ok (.tableswitch 100 1 7 #[43, 100, 54, 100, 65, 77, 88], 43) := by decide +kernel
theorem dX3_popOrReturn_44 : decode cX3_popOrReturn 44 = .ok (.aload_n 0, 1) := by decide +kernel
theorem dX3_popOrReturn_45 : decode cX3_popOrReturn 45 = .ok (.aload_n 0, 1) := by decide +kernel
theorem dX3_popOrReturn_46 : decode cX3_popOrReturn 46 = .ok (.invokevirtual 166, 3) := by decide +kernel
theorem dX3_popOrReturn_49 : decode cX3_popOrReturn 49 = .ok (.putfield 28, 3) := by decide +kernel
theorem dX3_popOrReturn_52 : decode cX3_popOrReturn 52 = .ok (.goto 58, 3) := by decide +kernel
theorem dX3_popOrReturn_55 : decode cX3_popOrReturn 55 = .ok (.aload_n 0, 1) := by decide +kernel
theorem dX3_popOrReturn_56 : decode cX3_popOrReturn 56 = .ok (.aload_n 0, 1) := by decide +kernel
theorem dX3_popOrReturn_57 : decode cX3_popOrReturn 57 = .ok (.invokevirtual 166, 3) := by decide +kernel
theorem dX3_popOrReturn_60 : decode cX3_popOrReturn 60 = .ok (.putfield 28, 3) := by decide +kernel
theorem dX3_popOrReturn_63 : decode cX3_popOrReturn 63 = .ok (.goto 47, 3) := by decide +kernel
theorem dX3_popOrReturn_66 : decode cX3_popOrReturn 66 = .ok (.aload_n 0, 1) := by decide +kernel
theorem dX3_popOrReturn_67 : decode cX3_popOrReturn 67 = .ok (.aload_n 0, 1) := by decide +kernel
theorem dX3_popOrReturn_68 : decode cX3_popOrReturn 68 = .ok (.iconst 4, 1) := by decide +kernel
theorem dX3_popOrReturn_69 : decode cX3_popOrReturn 69 = .ok (.invokevirtual 120, 3) := by decide +kernel
theorem dX3_popOrReturn_72 : decode cX3_popOrReturn 72 = .ok (.putfield 28, 3) := by decide +kernel
theorem dX3_popOrReturn_75 : decode cX3_popOrReturn 75 = .ok (.goto 35, 3) := by decide +kernel
theorem dX3_popOrReturn_78 : decode cX3_popOrReturn 78 = .ok (.aload_n 0, 1) := by decide +kernel
theorem dX3_popOrReturn_79 : decode cX3_popOrReturn 79 = .ok (.aload_n 0, 1) := by decide +kernel
theorem dX3_popOrReturn_80 : decode cX3_popOrReturn 80 = .ok (.invokevirtual 166, 3) := by decide +kernel
theorem dX3_popOrReturn_83 : decode cX3_popOrReturn 83 = .ok (.invokevirtual 169, 3) := by decide +kernel
theorem dX3_popOrReturn_86 : decode cX3_popOrReturn 86 = .ok (.goto 24, 3) := by decide +kernel
theorem dX3_popOrReturn_89 : decode cX3_popOrReturn 89 = .ok (.aload_n 0, 1) := by decide +kernel
theorem dX3_popOrReturn_90 : decode cX3_popOrReturn 90 = .ok (.aload_n 0, 1) := by decide +kernel
theorem dX3_popOrReturn_91 : decode cX3_popOrReturn 91 = .ok (.iconst 4, 1) := by decide +kernel
theorem dX3_popOrReturn_92 : decode cX3_popOrReturn 92 = .ok (.invokevirtual 120, 3) := by decide +kernel
theorem dX3_popOrReturn_95 : decode cX3_popOrReturn 95 = .ok (.putfield 25, 3) := by decide +kernel
theorem dX3_popOrReturn_98 : decode cX3_popOrReturn 98 = .ok (.goto 12, 3) := by decide +kernel
theorem dX3_popOrReturn_101 : decode cX3_popOrReturn 101 = .ok (.aload_n 0, 1) := by decide +kernel
theorem dX3_popOrReturn_102 : decode cX3_popOrReturn 102 = .ok (.iload_n 1, 1) := by decide +kernel
theorem dX3_popOrReturn_103 : decode cX3_popOrReturn 103 = .ok (.aload_n 0, 1) := by decide +kernel
theorem dX3_popOrReturn_104 : decode cX3_popOrReturn 104 = .ok (.invokevirtual 166, 3) := by decide +kernel
theorem dX3_popOrReturn_107 : decode cX3_popOrReturn 107 = .ok (.invokevirtual 137, 3) := by decide +kernel
theorem dX3_popOrReturn_110 : decode cX3_popOrReturn 110 = .ok (.return_, 1) := by decide +kernel
theorem dX3_statusWord_0 : decode cX3_statusWord 0 = .ok (.aload_n 0, 1) := by decide +kernel
theorem dX3_statusWord_1 : decode cX3_statusWord 1 = .ok (.getfield 9, 3) := by decide +kernel
theorem dX3_statusWord_4 : decode cX3_statusWord 4 = .ok (.bipush 7, 2) := by decide +kernel
theorem dX3_statusWord_6 : decode cX3_statusWord 6 = .ok (.iaload, 1) := by decide +kernel
theorem dX3_statusWord_7 : decode cX3_statusWord 7 = .ok (.bipush 8, 2) := by decide +kernel
theorem dX3_statusWord_9 : decode cX3_statusWord 9 = .ok (.ishl, 1) := by decide +kernel
theorem dX3_statusWord_10 : decode cX3_statusWord 10 = .ok (.aload_n 0, 1) := by decide +kernel
theorem dX3_statusWord_11 : decode cX3_statusWord 11 = .ok (.getfield 13, 3) := by decide +kernel
theorem dX3_statusWord_14 : decode cX3_statusWord 14 = .ok (.ior, 1) := by decide +kernel
theorem dX3_statusWord_15 : decode cX3_statusWord 15 = .ok (.ireturn, 1) := by decide +kernel
theorem dX3_setStatusWord_0 : decode cX3_setStatusWord 0 = .ok (.aload_n 0, 1) := by decide +kernel
theorem dX3_setStatusWord_1 : decode cX3_setStatusWord 1 = .ok (.getfield 9, 3) := by decide +kernel
theorem dX3_setStatusWord_4 : decode cX3_setStatusWord 4 = .ok (.bipush 7, 2) := by decide +kernel
theorem dX3_setStatusWord_6 : decode cX3_setStatusWord 6 = .ok (.iload_n 1, 1) := by decide +kernel
theorem dX3_setStatusWord_7 : decode cX3_setStatusWord 7 = .ok (.bipush 8, 2) := by decide +kernel
theorem dX3_setStatusWord_9 : decode cX3_setStatusWord 9 = .ok (.ishr, 1) := by decide +kernel
theorem dX3_setStatusWord_10 : decode cX3_setStatusWord 10 = .ok (.sipush 255, 3) := by decide +kernel
theorem dX3_setStatusWord_13 : decode cX3_setStatusWord 13 = .ok (.iand, 1) := by decide +kernel
theorem dX3_setStatusWord_14 : decode cX3_setStatusWord 14 = .ok (.iastore, 1) := by decide +kernel
theorem dX3_setStatusWord_15 : decode cX3_setStatusWord 15 = .ok (.aload_n 0, 1) := by decide +kernel
theorem dX3_setStatusWord_16 : decode cX3_setStatusWord 16 = .ok (.iload_n 1, 1) := by decide +kernel
theorem dX3_setStatusWord_17 : decode cX3_setStatusWord 17 = .ok (.sipush 213, 3) := by decide +kernel
theorem dX3_setStatusWord_20 : decode cX3_setStatusWord 20 = .ok (.iand, 1) := by decide +kernel
theorem dX3_setStatusWord_21 : decode cX3_setStatusWord 21 = .ok (.iconst 2, 1) := by decide +kernel
theorem dX3_setStatusWord_22 : decode cX3_setStatusWord 22 = .ok (.ior, 1) := by decide +kernel
theorem dX3_setStatusWord_23 : decode cX3_setStatusWord 23 = .ok (.putfield 13, 3) := by decide +kernel
theorem dX3_setStatusWord_26 : decode cX3_setStatusWord 26 = .ok (.return_, 1) := by decide +kernel
set_option maxRecDepth 20000 in
theorem ggX3_returnIf_X3_pop : GoodIn wsX3_returnIf wsX3_pop := goodIn_r _ [6, 7, 8, 9, 10, 11, 12, 13, 14, 15, 16, 17, 18, 19, 20, 21, 22, 23, 24, 25, 26, 27, 28, 29, 30, 31, 32] (by decide +kernel) (by decide +kernel)
set_option maxRecDepth 20000 in
theorem gX3_returnIf_X3_pop : GoodIn wsX3_returnIf (wsV RX3 166 RX3 yX3_pop wsX3_pop) := goodIn_app (goodIn_of _ (by decide +kernel)) ggX3_returnIf_X3_pop
theorem dX3_returnIf_0 : decode cX3_returnIf 0 = .ok (.iload_n 1, 1) := by decide +kernel
theorem dX3_returnIf_1 : decode cX3_returnIf 1 = .ok (.ifCond .ne 5, 3) := by decide +kernel
theorem dX3_returnIf_4 : decode cX3_returnIf 4 = .ok (.iconst 0, 1) := by decide +kernel
theorem dX3_returnIf_5 : decode cX3_returnIf 5 = .ok (.ireturn, 1) := by decide +kernel
theorem dX3_returnIf_6 : decode cX3_returnIf 6 = .ok (.aload_n 0, 1) := by decide +kernel
theorem dX3_returnIf_7 : decode cX3_returnIf 7 = .ok (.aload_n 0, 1) := by decide +kernel
theorem dX3_returnIf_8 : decode cX3_returnIf 8 = .ok (.invokevirtual 166, 3) := by decide +kernel
theorem dX3_returnIf_11 : decode cX3_returnIf 11 = .ok (.putfield 28, 3) := by decide +kernel
theorem dX3_returnIf_14 : decode cX3_returnIf 14 = .ok (.bipush 6, 2) := by decide +kernel
theorem dX3_returnIf_16 : decode cX3_returnIf 16 = .ok (.ireturn, 1) := by decide +kernel
set_option maxRecDepth 20000 in
theorem ggX3_jumpIf_X3_fetchWord : GoodIn wsX3_jumpIf wsX3_fetchWord := goodIn_r _ [6, 7, 1, 8, 9, 10, 11, 12, 13, 14, 15, 16, 17, 18, 19, 20, 21, 22, 23, 24, 25, 26, 27, 28, 29, 30, 31] (by decide +kernel) (by decide +kernel)
set_option maxRecDepth 20000 in
theorem gX3_jumpIf_X3_fetchWord : GoodIn wsX3_jumpIf (wsV RX3 75 RX3 yX3_fetchWord wsX3_fetchWord) := goodIn_app (goodIn_of _ (by decide +kernel)) ggX3_jumpIf_X3_fetchWord
theorem dX3_jumpIf_0 : decode cX3_jumpIf 0 = .ok (.aload_n 0, 1) := by decide +kernel
theorem dX3_jumpIf_1 : decode cX3_jumpIf 1 = .ok (.invokevirtual 75, 3) := by decide +kernel
theorem dX3_jumpIf_4 : decode cX3_jumpIf 4 = .ok (.istore_n 2, 1) := by decide +kernel
theorem dX3_jumpIf_5 : decode cX3_jumpIf 5 = .ok (.iload_n 1, 1) := by decide +kernel
theorem dX3_jumpIf_6 : decode cX3_jumpIf 6 = .ok (.ifCond .eq 8, 3) := by decide +kernel
theorem dX3_jumpIf_9 : decode cX3_jumpIf 9 = .ok (.aload_n 0, 1) := by decide +kernel
theorem dX3_jumpIf_10 : decode cX3_jumpIf 10 = .ok (.iload_n 2, 1) := by decide +kernel
theorem dX3_jumpIf_11 : decode cX3_jumpIf 11 = .ok (.putfield 28, 3) := by decide +kernel
theorem dX3_jumpIf_14 : decode cX3_jumpIf 14 = .ok (.return_, 1) := by decide +kernel
set_option maxRecDepth 20000 in
theorem ggX3_callIf_X3_fetchWord : GoodIn wsX3_callIf wsX3_fetchWord := goodIn_r _ [6, 7, 1, 8, 9, 10, 11, 12, 13, 14, 15, 16, 17, 18, 19, 20, 34, 35, 36, 37, 38, 39, 40, 41, 42, 43, 44] (by decide +kernel) (by decide +kernel)
set_option maxRecDepth 20000 in
theorem gX3_callIf_X3_fetchWord : GoodIn wsX3_callIf (wsV RX3 75 RX3 yX3_fetchWord wsX3_fetchWord) := goodIn_app (goodIn_of _ (by decide +kernel)) ggX3_callIf_X3_fetchWord
set_option maxRecDepth 20000 in
theorem ggX3_callIf_X3_push : GoodIn wsX3_callIf wsX3_push := goodIn_r _ [24, 25, 8, 7, 26, 27, 28, 12, 29, 30, 31, 32, 33, 18, 34, 35, 36, 37, 38, 39, 40, 41, 42, 43, 44] (by decide +kernel) (by decide +kernel)
set_option maxRecDepth 20000 in
theorem gX3_callIf_X3_push : GoodIn wsX3_callIf (wsV RX3 41 RX3 yX3_push wsX3_push) := goodIn_app (goodIn_of _ (by decide +kernel)) ggX3_callIf_X3_push
theorem dX3_callIf_0 : decode cX3_callIf 0 = .ok (.aload_n 0, 1) := by decide +kernel
theorem dX3_callIf_1 : decode cX3_callIf 1 = .ok (.invokevirtual 75, 3) := by decide +kernel
theorem dX3_callIf_4 : decode cX3_callIf 4 = .ok (.istore_n 2, 1) := by decide +kernel
theorem dX3_callIf_5 : decode cX3_callIf 5 = .ok (.iload_n 1, 1) := by decide +kernel
theorem dX3_callIf_6 : decode cX3_callIf 6 = .ok (.ifCond .ne 5, 3) := by decide +kernel
theorem dX3_callIf_9 : decode cX3_callIf 9 = .ok (.iconst 0, 1) := by decide +kernel
theorem dX3_callIf_10 : decode cX3_callIf 10 = .ok (.ireturn, 1) := by decide +kernel
theorem dX3_callIf_11 : decode cX3_callIf 11 = .ok (.aload_n 0, 1) := by decide +kernel
theorem dX3_callIf_12 : decode cX3_callIf 12 = .ok (.aload_n 0, 1) := by decide +kernel
theorem dX3_callIf_13 : decode cX3_callIf 13 = .ok (.getfield 28, 3) := by decide +kernel
theorem dX3_callIf_16 : decode cX3_callIf 16 = .ok (.invokevirtual 41, 3) := by decide +kernel
theorem dX3_callIf_19 : decode cX3_callIf 19 = .ok (.aload_n 0, 1) := by decide +kernel
theorem dX3_callIf_20 : decode cX3_callIf 20 = .ok (.iload_n 2, 1) := by decide +kernel
theorem dX3_callIf_21 : decode cX3_callIf 21 = .ok (.putfield 28, 3) := by decide +kernel
theorem dX3_callIf_24 : decode cX3_callIf 24 = .ok (.bipush 6, 2) := by decide +kernel
theorem dX3_callIf_26 : decode cX3_callIf 26 = .ok (.ireturn, 1) := by decide +kernel
theorem dX3_holds_0 : decode cX3_holds 0 = .ok (.iload_n 1, 1) := by decide +kernel
theorem dX3_holds_1 : decode cX3_holds 1 = .ok (.iconst 1, 1) := by decide +kernel
theorem dX3_holds_2 : decode cX3_holds 2 = .ok (.ishr, 1) := by decide +kernel
theorem dX3_holds_3 : decode cX3_holds 3 = .ok (.tableswitch 41 0 2 #[25, 31, 36], 25) := by decide +kernel
theorem dX3_holds_28 : decode cX3_holds 28 = .ok (.bipush 64, 2) := by decide +kernel
theorem dX3_holds_30 : decode cX3_holds 30 = .ok (.istore_n 2, 1) := by decide +kernel
theorem dX3_holds_31 : decode cX3_holds 31 = .ok (.goto 17, 3) := by decide +kernel
theorem dX3_holds_34 : decode cX3_holds 34 = .ok (.iconst 1, 1) := by decide +kernel
theorem dX3_holds_35 : decode cX3_holds 35 = .ok (.istore_n 2, 1) := by decide +kernel
theorem dX3_holds_36 : decode cX3_holds 36 = .ok (.goto 12, 3) := by decide +kernel
theorem dX3_holds_39 : decode cX3_holds 39 = .ok (.iconst 4, 1) := by decide +kernel
theorem dX3_holds_40 : decode cX3_holds 40 = .ok (.istore_n 2, 1) := by decide +kernel
theorem dX3_holds_41 : decode cX3_holds 41 = .ok (.goto 7, 3) := by decide +kernel
theorem dX3_holds_44 : decode cX3_holds 44 = .ok (.sipush 128, 3) := by decide +kernel
theorem dX3_holds_47 : decode cX3_holds 47 = .ok (.istore_n 2, 1) := by decide +kernel
theorem dX3_holds_48 : decode cX3_holds 48 = .ok (.iload_n 1, 1) := by decide +kernel
theorem dX3_holds_49 : decode cX3_holds 49 = .ok (.iconst 1, 1) := by decide +kernel
theorem dX3_holds_50 : decode cX3_holds 50 = .ok (.iand, 1) := by decide +kernel
theorem dX3_holds_51 : decode cX3_holds 51 = .ok (.ifCond .eq 7, 3) := by decide +kernel
theorem dX3_holds_54 : decode cX3_holds 54 = .ok (.iconst 1, 1) := by decide +kernel
theorem dX3_holds_55 : decode cX3_holds 55 = .ok (.goto 4, 3) := by decide +kernel
theorem dX3_holds_58 : decode cX3_holds 58 = .ok (.iconst 0, 1) := by decide +kernel
theorem dX3_holds_59 : decode cX3_holds 59 = .ok (.istore_n 3, 1) := by decide +kernel
theorem dX3_holds_60 : decode cX3_holds 60 = .ok (.aload_n 0, 1) := by decide +kernel
theorem dX3_holds_61 : decode cX3_holds 61 = .ok (.getfield 13, 3) := by decide +kernel
theorem dX3_holds_64 : decode cX3_holds 64 = .ok (.iload_n 2, 1) := by decide +kernel
theorem dX3_holds_65 : decode cX3_holds 65 = .ok (.iand, 1) := by decide +kernel
theorem dX3_holds_66 : decode cX3_holds 66 = .ok (.ifCond .eq 7, 3) := by decide +kernel
theorem dX3_holds_69 : decode cX3_holds 69 = .ok (.iconst 1, 1) := by decide +kernel
theorem dX3_holds_70 : decode cX3_holds 70 = .ok (.goto 4, 3) := by decide +kernel
theorem dX3_holds_73 : decode cX3_holds 73 = .ok (.iconst 0, 1) := by decide +kernel
theorem dX3_holds_74 : decode cX3_holds 74 = .ok (.iload_n 3, 1) := by decide +kernel
theorem dX3_holds_75 : decode cX3_holds 75 = .ok (.if_icmp .ne 7, 3) := by decide +kernel
theorem dX3_holds_78 : decode cX3_holds 78 = .ok (.iconst 1, 1) := by decide +kernel
theorem dX3_holds_79 : decode cX3_holds 79 = .ok (.goto 4, 3) := by decide +kernel
theorem dX3_holds_82 : decode cX3_holds 82 = .ok (.iconst 0, 1) := by decide +kernel
theorem dX3_holds_83 : decode cX3_holds 83 = .ok (.ireturn, 1) := by decide +kernel
set_option maxRecDepth 20000 in
theorem ggX3_calculate_X3_add : GoodIn wsX3_calculate wsX3_add := goodIn_r _ [7, 2, 8, 9, 6, 10, 11, 12, 13, 14, 15, 16, 17, 22, 23, 24, 25, 26, 27, 28, 29, 30] (by decide +kernel) (by decide +kernel)
set_option maxRecDepth 20000 in
theorem gX3_calculate_X3_add : GoodIn wsX3_calculate (wsV RX3 172 RX3 yX3_add wsX3_add) := goodIn_app (goodIn_of _ (by decide +kernel)) ggX3_calculate_X3_add
set_option maxRecDepth 20000 in
theorem ggX3_calculate_X3_setLogical : GoodIn wsX3_calculate wsX3_setLogical := goodIn_r _ [21, 1, 2, 8, 9, 6, 10, 11, 12, 13, 14, 15, 16, 17, 22, 23, 24, 25, 26, 27, 28, 29, 30] (by decide +kernel) (by decide +kernel)
set_option maxRecDepth 20000 in
theorem gX3_calculate_X3_setLogical : GoodIn wsX3_calculate (wsV RX3 176 RX3 yX3_setLogical wsX3_setLogical) := goodIn_app (goodIn_of _ (by decide +kernel)) ggX3_calculate_X3_setLogical
theorem dX3_calculate_0 : decode cX3_calculate 0 = .ok (.aload_n 0, 1) := by decide +kernel
theorem dX3_calculate_1 : decode cX3_calculate 1 = .ok (.getfield 9, 3) := by decide +kernel
theorem dX3_calculate_4 : decode cX3_calculate 4 = .ok (.bipush 7, 2) := by decide +kernel
theorem dX3_calculate_6 : decode cX3_calculate 6 = .ok (.iaload, 1) := by decide +kernel
theorem dX3_calculate_7 : decode cX3_calculate 7 = .ok (.istore_n 3, 1) := by decide +kernel
theorem dX3_calculate_8 : decode cX3_calculate 8 = .ok (.aload_n 0, 1) := by decide +kernel
theorem dX3_calculate_9 : decode cX3_calculate 9 = .ok (.getfield 13, 3) := by decide +kernel
theorem dX3_calculate_12 : decode cX3_calculate 12 = .ok (.iconst 1, 1) := by decide +kernel
theorem dX3_calculate_13 : decode cX3_calculate 13 = .ok (.iand, 1) := by decide +kernel
theorem dX3_calculate_14 : decode cX3_calculate 14 = .ok (.istore 4, 2) := by decide +kernel
theorem dX3_calculate_16 : decode cX3_calculate 16 = .ok (.iload_n 1, 1) := by decide +kernel
theorem dX3_calculate_17 : decode cX3_calculate 17 = .ok (.bipush 7, 2) := by decide +kernel
theorem dX3_calculate_19 : decode cX3_calculate 19 = .ok (.iand, 1) := by decide +kernel
theorem dX3_calculate_20 : decode cX3_calculate 20 = .ok (.tableswitch 168 0 6 #[44, 62, 81, 103, 128, 146, 157], 44) := by decide +kernel
theorem dX3_calculate_64 : decode cX3_calculate 64 = .ok (.aload_n 0, 1) := by decide +kernel
theorem dX3_calculate_65 : decode cX3_calculate 65 = .ok (.getfield 9, 3) := by decide +kernel
theorem dX3_calculate_68 : decode cX3_calculate 68 = .ok (.bipush 7, 2) := by decide +kernel
theorem dX3_calculate_70 : decode cX3_calculate 70 = .ok (.aload_n 0, 1) := by decide +kernel
theorem dX3_calculate_71 : decode cX3_calculate 71 = .ok (.iload_n 3, 1) := by decide +kernel
theorem dX3_calculate_72 : decode cX3_calculate 72 = .ok (.iload_n 2, 1) := by decide +kernel
theorem dX3_calculate_73 : decode cX3_calculate 73 = .ok (.iconst 0, 1) := by decide +kernel
theorem dX3_calculate_74 : decode cX3_calculate 74 = .ok (.iconst 0, 1) := by decide +kernel
theorem dX3_calculate_75 : decode cX3_calculate 75 = .ok (.invokevirtual 172, 3) := by decide +kernel
theorem dX3_calculate_78 : decode cX3_calculate 78 = .ok (.iastore, 1) := by decide +kernel
theorem dX3_calculate_79 : decode cX3_calculate 79 = .ok (.goto 122, 3) := by decide +kernel
theorem dX3_calculate_82 : decode cX3_calculate 82 = .ok (.aload_n 0, 1) := by decide +kernel
theorem dX3_calculate_83 : decode cX3_calculate 83 = .ok (.getfield 9, 3) := by decide +kernel
theorem dX3_calculate_86 : decode cX3_calculate 86 = .ok (.bipush 7, 2) := by decide +kernel
theorem dX3_calculate_88 : decode cX3_calculate 88 = .ok (.aload_n 0, 1) := by decide +kernel
theorem dX3_calculate_89 : decode cX3_calculate 89 = .ok (.iload_n 3, 1) := by decide +kernel
theorem dX3_calculate_90 : decode cX3_calculate 90 = .ok (.iload_n 2, 1) := by decide +kernel
theorem dX3_calculate_91 : decode cX3_calculate 91 = .ok (.iload 4, 2) := by decide +kernel
theorem dX3_calculate_93 : decode cX3_calculate 93 = .ok (.iconst 0, 1) := by decide +kernel
theorem dX3_calculate_94 : decode cX3_calculate 94 = .ok (.invokevirtual 172, 3) := by decide +kernel
theorem dX3_calculate_97 : decode cX3_calculate 97 = .ok (.iastore, 1) := by decide +kernel
theorem dX3_calculate_98 : decode cX3_calculate 98 = .ok (.goto 103, 3) := by decide +kernel
theorem dX3_calculate_101 : decode cX3_calculate 101 = .ok (.aload_n 0, 1) := by decide +kernel
theorem dX3_calculate_102 : decode cX3_calculate 102 = .ok (.getfield 9, 3) := by decide +kernel
theorem dX3_calculate_105 : decode cX3_calculate 105 = .ok (.bipush 7, 2) := by decide +kernel
theorem dX3_calculate_107 : decode cX3_calculate 107 = .ok (.aload_n 0, 1) := by decide +kernel
theorem dX3_calculate_108 : decode cX3_calculate 108 = .ok (.iload_n 3, 1) := by decide +kernel
theorem dX3_calculate_109 : decode cX3_calculate 109 = .ok (.iload_n 2, 1) := by decide +kernel
theorem dX3_calculate_110 : decode cX3_calculate 110 = .ok (.sipush 255, 3) := by decide +kernel
theorem dX3_calculate_113 : decode cX3_calculate 113 = .ok (.ixor, 1) := by decide +kernel
theorem dX3_calculate_114 : decode cX3_calculate 114 = .ok (.iconst 1, 1) := by decide +kernel
theorem dX3_calculate_115 : decode cX3_calculate 115 = .ok (.iconst 1, 1) := by decide +kernel
theorem dX3_calculate_116 : decode cX3_calculate 116 = .ok (.invokevirtual 172, 3) := by decide +kernel
theorem dX3_calculate_119 : decode cX3_calculate 119 = .ok (.iastore, 1) := by decide +kernel
theorem dX3_calculate_120 : decode cX3_calculate 120 = .ok (.goto 81, 3) := by decide +kernel
theorem dX3_calculate_123 : decode cX3_calculate 123 = .ok (.aload_n 0, 1) := by decide +kernel
theorem dX3_calculate_124 : decode cX3_calculate 124 = .ok (.getfield 9, 3) := by decide +kernel
theorem dX3_calculate_127 : decode cX3_calculate 127 = .ok (.bipush 7, 2) := by decide +kernel
theorem dX3_calculate_129 : decode cX3_calculate 129 = .ok (.aload_n 0, 1) := by decide +kernel
theorem dX3_calculate_130 : decode cX3_calculate 130 = .ok (.iload_n 3, 1) := by decide +kernel
theorem dX3_calculate_131 : decode cX3_calculate 131 = .ok (.iload_n 2, 1) := by decide +kernel
theorem dX3_calculate_132 : decode cX3_calculate 132 = .ok (.sipush 255, 3) := by decide +kernel
theorem dX3_calculate_135 : decode cX3_calculate 135 = .ok (.ixor, 1) := by decide +kernel
theorem dX3_calculate_136 : decode cX3_calculate 136 = .ok (.iconst 1, 1) := by decide +kernel
theorem dX3_calculate_137 : decode cX3_calculate 137 = .ok (.iload 4, 2) := by decide +kernel
theorem dX3_calculate_139 : decode cX3_calculate 139 = .ok (.isub, 1) := by decide +kernel
theorem dX3_calculate_140 : decode cX3_calculate 140 = .ok (.iconst 1, 1) := by decide +kernel
theorem dX3_calculate_141 : decode cX3_calculate 141 = .ok (.invokevirtual 172, 3) := by decide +kernel
theorem dX3_calculate_144 : decode cX3_calculate 144 = .ok (.iastore, 1) := by decide +kernel
theorem dX3_calculate_145 : decode cX3_calculate 145 = .ok (.goto 56, 3) := by decide +kernel
theorem dX3_calculate_148 : decode cX3_calculate 148 = .ok (.aload_n 0, 1) := by decide +kernel
theorem dX3_calculate_149 : decode cX3_calculate 149 = .ok (.iload_n 3, 1) := by decide +kernel
theorem dX3_calculate_150 : decode cX3_calculate 150 = .ok (.iload_n 2, 1) := by decide +kernel
theorem dX3_calculate_151 : decode cX3_calculate 151 = .ok (.iand, 1) := by decide +kernel
theorem dX3_calculate_152 : decode cX3_calculate 152 = .ok (.iload_n 3, 1) := by decide +kernel
theorem dX3_calculate_153 : decode cX3_calculate 153 = .ok (.iload_n 2, 1) := by decide +kernel
theorem dX3_calculate_154 : decode cX3_calculate 154 = .ok (.ior, 1) := by decide +kernel
theorem dX3_calculate_155 : decode cX3_calculate 155 = .ok (.iconst 1, 1) := by decide +kernel
theorem dX3_calculate_156 : decode cX3_calculate 156 = .ok (.ishl, 1) := by decide +kernel
theorem dX3_calculate_157 : decode cX3_calculate 157 = .ok (.bipush 16, 2) := by decide +kernel
theorem dX3_calculate_159 : decode cX3_calculate 159 = .ok (.iand, 1) := by decide +kernel
theorem dX3_calculate_160 : decode cX3_calculate 160 = .ok (.invokevirtual 176, 3) := by decide +kernel
theorem dX3_calculate_163 : decode cX3_calculate 163 = .ok (.goto 38, 3) := by decide +kernel
theorem dX3_calculate_166 : decode cX3_calculate 166 = .ok (.aload_n 0, 1) := by decide +kernel
theorem dX3_calculate_167 : decode cX3_calculate 167 = .ok (.iload_n 3, 1) := by decide +kernel
theorem dX3_calculate_168 : decode cX3_calculate 168 = .ok (.iload_n 2, 1) := by decide +kernel
theorem dX3_calculate_169 : decode cX3_calculate 169 = .ok (.ixor, 1) := by decide +kernel
theorem dX3_calculate_170 : decode cX3_calculate 170 = .ok (.iconst 0, 1) := by decide +kernel
theorem dX3_calculate_171 : decode cX3_calculate 171 = .ok (.invokevirtual 176, 3) := by decide +kernel
theorem dX3_calculate_174 : decode cX3_calculate 174 = .ok (.goto 27, 3) := by decide +kernel
theorem dX3_calculate_177 : decode cX3_calculate 177 = .ok (.aload_n 0, 1) := by decide +kernel
theorem dX3_calculate_178 : decode cX3_calculate 178 = .ok (.iload_n 3, 1) := by decide +kernel
theorem dX3_calculate_179 : decode cX3_calculate 179 = .ok (.iload_n 2, 1) := by decide +kernel
theorem dX3_calculate_180 : decode cX3_calculate 180 = .ok (.ior, 1) := by decide +kernel
theorem dX3_calculate_181 : decode cX3_calculate 181 = .ok (.iconst 0, 1) := by decide +kernel
theorem dX3_calculate_182 : decode cX3_calculate 182 = .ok (.invokevirtual 176, 3) := by decide +kernel
theorem dX3_calculate_185 : decode cX3_calculate 185 = .ok (.goto 16, 3) := by decide +kernel
theorem dX3_calculate_188 : decode cX3_calculate 188 = .ok (.aload_n 0, 1) := by decide +kernel
theorem dX3_calculate_189 : decode cX3_calculate 189 = .ok (.iload_n 3, 1) := by decide +kernel
theorem dX3_calculate_190 : decode cX3_calculate 190 = .ok (.iload_n 2, 1) := by decide +kernel
theorem dX3_calculate_191 : decode cX3_calculate 191 = .ok (.sipush 255, 3) := by decide +kernel
theorem dX3_calculate_194 : decode cX3_calculate 194 = .ok (.ixor, 1) := by decide +kernel
theorem dX3_calculate_195 : decode cX3_calculate 195 = .ok (.iconst 1, 1) := by decide +kernel
theorem dX3_calculate_196 : decode cX3_calculate 196 = .ok (.iconst 1, 1) := by decide +kernel
theorem dX3_calculate_197 : decode cX3_calculate 197 = .ok (.invokevirtual 172, 3) := by decide +kernel
theorem dX3_calculate_200 : decode cX3_calculate 200 = .ok (.pop, 1) := by decide +kernel
theorem dX3_calculate_201 : decode cX3_calculate 201 = .ok (.return_, 1) := by decide +kernel
set_option maxRecDepth 20000 in
theorem ggX3_add_X3_flagsOf : GoodIn wsX3_add wsX3_flagsOf := goodIn_r _ [5, 6, 7, 8, 9, 10, 11, 12] (by decide +kernel) (by decide +kernel)
set_option maxRecDepth 20000 in
theorem gX3_add_X3_flagsOf : GoodIn wsX3_add (va_wsS RX3 149 yX3_flagsOf wsX3_flagsOf) := goodIn_app (goodIn_of _ (by decide +kernel)) ggX3_add_X3_flagsOf
theorem dX3_add_0 : decode cX3_add 0 = .ok (.iload_n 1, 1) := by decide +kernel
theorem dX3_add_1 : decode cX3_add 1 = .ok (.iload_n 2, 1) := by decide +kernel
theorem dX3_add_2 : decode cX3_add 2 = .ok (.iadd, 1) := by decide +kernel
theorem dX3_add_3 : decode cX3_add 3 = .ok (.iload_n 3, 1) := by decide +kernel
theorem dX3_add_4 : decode cX3_add 4 = .ok (.iadd, 1) := by decide +kernel
theorem dX3_add_5 : decode cX3_add 5 = .ok (.istore 5, 2) := by decide +kernel
theorem dX3_add_7 : decode cX3_add 7 = .ok (.iload_n 1, 1) := by decide +kernel
theorem dX3_add_8 : decode cX3_add 8 = .ok (.bipush 15, 2) := by decide +kernel
theorem dX3_add_10 : decode cX3_add 10 = .ok (.iand, 1) := by decide +kernel
theorem dX3_add_11 : decode cX3_add 11 = .ok (.iload_n 2, 1) := by decide +kernel
theorem dX3_add_12 : decode cX3_add 12 = .ok (.bipush 15, 2) := by decide +kernel
theorem dX3_add_14 : decode cX3_add 14 = .ok (.iand, 1) := by decide +kernel
theorem dX3_add_15 : decode cX3_add 15 = .ok (.iadd, 1) := by decide +kernel
theorem dX3_add_16 : decode cX3_add 16 = .ok (.iload_n 3, 1) := by decide +kernel
theorem dX3_add_17 : decode cX3_add 17 = .ok (.iadd, 1) := by decide +kernel
theorem dX3_add_18 : decode cX3_add 18 = .ok (.bipush 16, 2) := by decide +kernel
theorem dX3_add_20 : decode cX3_add 20 = .ok (.iand, 1) := by decide +kernel
theorem dX3_add_21 : decode cX3_add 21 = .ok (.istore 6, 2) := by decide +kernel
theorem dX3_add_23 : decode cX3_add 23 = .ok (.iload 5, 2) := by decide +kernel
theorem dX3_add_25 : decode cX3_add 25 = .ok (.bipush 8, 2) := by decide +kernel
theorem dX3_add_27 : decode cX3_add 27 = .ok (.ishr, 1) := by decide +kernel
theorem dX3_add_28 : decode cX3_add 28 = .ok (.iconst 1, 1) := by decide +kernel
theorem dX3_add_29 : decode cX3_add 29 = .ok (.iand, 1) := by decide +kernel
theorem dX3_add_30 : decode cX3_add 30 = .ok (.iload 4, 2) := by decide +kernel
theorem dX3_add_32 : decode cX3_add 32 = .ok (.ixor, 1) := by decide +kernel
theorem dX3_add_33 : decode cX3_add 33 = .ok (.istore 7, 2) := by decide +kernel
theorem dX3_add_35 : decode cX3_add 35 = .ok (.aload_n 0, 1) := by decide +kernel
theorem dX3_add_36 : decode cX3_add 36 = .ok (.iload 5, 2) := by decide +kernel
theorem dX3_add_38 : decode cX3_add 38 = .ok (.sipush 255, 3) := by decide +kernel
theorem dX3_add_41 : decode cX3_add 41 = .ok (.iand, 1) := by decide +kernel
theorem dX3_add_42 : decode cX3_add 42 = .ok (.invokestatic 149, 3) := by decide +kernel
theorem dX3_add_45 : decode cX3_add 45 = .ok (.iload 6, 2) := by decide +kernel
theorem dX3_add_47 : decode cX3_add 47 = .ok (.ior, 1) := by decide +kernel
theorem dX3_add_48 : decode cX3_add 48 = .ok (.iload 7, 2) := by decide +kernel
theorem dX3_add_50 : decode cX3_add 50 = .ok (.ior, 1) := by decide +kernel
theorem dX3_add_51 : decode cX3_add 51 = .ok (.putfield 13, 3) := by decide +kernel
theorem dX3_add_54 : decode cX3_add 54 = .ok (.iload 5, 2) := by decide +kernel
theorem dX3_add_56 : decode cX3_add 56 = .ok (.sipush 255, 3) := by decide +kernel
theorem dX3_add_59 : decode cX3_add 59 = .ok (.iand, 1) := by decide +kernel
theorem dX3_add_60 : decode cX3_add 60 = .ok (.ireturn, 1) := by decide +kernel
set_option maxRecDepth 20000 in
theorem ggX3_setLogical_X3_flagsOf : GoodIn wsX3_setLogical wsX3_flagsOf := goodIn_r _ [6, 7, 8, 9, 10, 11, 12, 13] (by decide +kernel) (by decide +kernel)
set_option maxRecDepth 20000 in
theorem gX3_setLogical_X3_flagsOf : GoodIn wsX3_setLogical (va_wsS RX3 149 yX3_flagsOf wsX3_flagsOf) := goodIn_app (goodIn_of _ (by decide +kernel)) ggX3_setLogical_X3_flagsOf
theorem dX3_setLogical_0 : decode cX3_setLogical 0 = .ok (.aload_n 0, 1) := by decide +kernel
theorem dX3_setLogical_1 : decode cX3_setLogical 1 = .ok (.getfield 9, 3) := by decide +kernel
theorem dX3_setLogical_4 : decode cX3_setLogical 4 = .ok (.bipush 7, 2) := by decide +kernel
theorem dX3_setLogical_6 : decode cX3_setLogical 6 = .ok (.iload_n 1, 1) := by decide +kernel
theorem dX3_setLogical_7 : decode cX3_setLogical 7 = .ok (.iastore, 1) := by decide +kernel
theorem dX3_setLogical_8 : decode cX3_setLogical 8 = .ok (.aload_n 0, 1) := by decide +kernel
theorem dX3_setLogical_9 : decode cX3_setLogical 9 = .ok (.iload_n 1, 1) := by decide +kernel
theorem dX3_setLogical_10 : decode cX3_setLogical 10 = .ok (.invokestatic 149, 3) := by decide +kernel
theorem dX3_setLogical_13 : decode cX3_setLogical 13 = .ok (.iload_n 2, 1) := by decide +kernel
theorem dX3_setLogical_14 : decode cX3_setLogical 14 = .ok (.ior, 1) := by decide +kernel
theorem dX3_setLogical_15 : decode cX3_setLogical 15 = .ok (.putfield 13, 3) := by decide +kernel
theorem dX3_setLogical_18 : decode cX3_setLogical 18 = .ok (.return_, 1) := by decide +kernel
set_option maxRecDepth 20000 in
theorem ggX3_increment_X3_flagsOf : GoodIn wsX3_increment wsX3_flagsOf := goodIn_r _ [5, 6, 7, 8, 9, 10, 11, 12] (by decide +kernel) (by decide +kernel)
set_option maxRecDepth 20000 in
theorem gX3_increment_X3_flagsOf : GoodIn wsX3_increment (va_wsS RX3 149 yX3_flagsOf wsX3_flagsOf) := goodIn_app (goodIn_of _ (by decide +kernel)) ggX3_increment_X3_flagsOf
theorem dX3_increment_0 : decode cX3_increment 0 = .ok (.iload_n 1, 1) := by decide +kernel
theorem dX3_increment_1 : decode cX3_increment 1 = .ok (.iconst 1, 1) := by decide +kernel
theorem dX3_increment_2 : decode cX3_increment 2 = .ok (.iadd, 1) := by decide +kernel
theorem dX3_increment_3 : decode cX3_increment 3 = .ok (.sipush 255, 3) := by decide +kernel
theorem dX3_increment_6 : decode cX3_increment 6 = .ok (.iand, 1) := by decide +kernel
theorem dX3_increment_7 : decode cX3_increment 7 = .ok (.istore_n 2, 1) := by decide +kernel
theorem dX3_increment_8 : decode cX3_increment 8 = .ok (.iload_n 2, 1) := by decide +kernel
theorem dX3_increment_9 : decode cX3_increment 9 = .ok (.bipush 15, 2) := by decide +kernel
theorem dX3_increment_11 : decode cX3_increment 11 = .ok (.iand, 1) := by decide +kernel
theorem dX3_increment_12 : decode cX3_increment 12 = .ok (.ifCond .ne 8, 3) := by decide +kernel
theorem dX3_increment_15 : decode cX3_increment 15 = .ok (.bipush 16, 2) := by decide +kernel
theorem dX3_increment_17 : decode cX3_increment 17 = .ok (.goto 4, 3) := by decide +kernel
theorem dX3_increment_20 : decode cX3_increment 20 = .ok (.iconst 0, 1) := by decide +kernel
theorem dX3_increment_21 : decode cX3_increment 21 = .ok (.istore_n 3, 1) := by decide +kernel
theorem dX3_increment_22 : decode cX3_increment 22 = .ok (.aload_n 0, 1) := by decide +kernel
theorem dX3_increment_23 : decode cX3_increment 23 = .ok (.iload_n 2, 1) := by decide +kernel
theorem dX3_increment_24 : decode cX3_increment 24 = .ok (.invokestatic 149, 3) := by decide +kernel
theorem dX3_increment_27 : decode cX3_increment 27 = .ok (.iload_n 3, 1) := by decide +kernel
theorem dX3_increment_28 : decode cX3_increment 28 = .ok (.ior, 1) := by decide +kernel
theorem dX3_increment_29 : decode cX3_increment 29 = .ok (.aload_n 0, 1) := by decide +kernel
theorem dX3_increment_30 : decode cX3_increment 30 = .ok (.getfield 13, 3) := by decide +kernel
theorem dX3_increment_33 : decode cX3_increment 33 = .ok (.iconst 1, 1) := by decide +kernel
theorem dX3_increment_34 : decode cX3_increment 34 = .ok (.iand, 1) := by decide +kernel
theorem dX3_increment_35 : decode cX3_increment 35 = .ok (.ior, 1) := by decide +kernel
theorem dX3_increment_36 : decode cX3_increment 36 = .ok (.putfield 13, 3) := by decide +kernel
theorem dX3_increment_39 : decode cX3_increment 39 = .ok (.iload_n 2, 1) := by decide +kernel
theorem dX3_increment_40 : decode cX3_increment 40 = .ok (.ireturn, 1) := by decide +kernel
set_option maxRecDepth 20000 in
theorem ggX3_decrement_X3_flagsOf : GoodIn wsX3_decrement wsX3_flagsOf := goodIn_r _ [5, 6, 7, 8, 9, 10, 11, 12] (by decide +kernel) (by decide +kernel)
set_option maxRecDepth 20000 in
theorem gX3_decrement_X3_flagsOf : GoodIn wsX3_decrement (va_wsS RX3 149 yX3_flagsOf wsX3_flagsOf) := goodIn_app (goodIn_of _ (by decide +kernel)) ggX3_decrement_X3_flagsOf
theorem dX3_decrement_0 : decode cX3_decrement 0 = .ok (.iload_n 1, 1) := by decide +kernel
theorem dX3_decrement_1 : decode cX3_decrement 1 = .ok (.iconst 1, 1) := by decide +kernel
theorem dX3_decrement_2 : decode cX3_decrement 2 = .ok (.isub, 1) := by decide +kernel
theorem dX3_decrement_3 : decode cX3_decrement 3 = .ok (.sipush 255, 3) := by decide +kernel
theorem dX3_decrement_6 : decode cX3_decrement 6 = .ok (.iand, 1) := by decide +kernel
theorem dX3_decrement_7 : decode cX3_decrement 7 = .ok (.istore_n 2, 1) := by decide +kernel
theorem dX3_decrement_8 : decode cX3_decrement 8 = .ok (.iload_n 2, 1) := by decide +kernel
theorem dX3_decrement_9 : decode cX3_decrement 9 = .ok (.bipush 15, 2) := by decide +kernel
theorem dX3_decrement_11 : decode cX3_decrement 11 = .ok (.iand, 1) := by decide +kernel
theorem dX3_decrement_12 : decode cX3_decrement 12 = .ok (.bipush 15, 2) := by decide +kernel
theorem dX3_decrement_14 : decode cX3_decrement 14 = .ok (.if_icmp .ne 7, 3) := by decide +kernel
theorem dX3_decrement_17 : decode cX3_decrement 17 = .ok (.iconst 0, 1) := by decide +kernel
theorem dX3_decrement_18 : decode cX3_decrement 18 = .ok (.goto 5, 3) := by decide +kernel
theorem dX3_decrement_21 : decode cX3_decrement 21 = .ok (.bipush 16, 2) := by decide +kernel
theorem dX3_decrement_23 : decode cX3_decrement 23 = .ok (.istore_n 3, 1) := by decide +kernel
theorem dX3_decrement_24 : decode cX3_decrement 24 = .ok (.aload_n 0, 1) := by decide +kernel
theorem dX3_decrement_25 : decode cX3_decrement 25 = .ok (.iload_n 2, 1) := by decide +kernel
theorem dX3_decrement_26 : decode cX3_decrement 26 = .ok (.invokestatic 149, 3) := by decide +kernel
theorem dX3_decrement_29 : decode cX3_decrement 29 = .ok (.iload_n 3, 1) := by decide +kernel
theorem dX3_decrement_30 : decode cX3_decrement 30 = .ok (.ior, 1) := by decide +kernel
theorem dX3_decrement_31 : decode cX3_decrement 31 = .ok (.aload_n 0, 1) := by decide +kernel
theorem dX3_decrement_32 : decode cX3_decrement 32 = .ok (.getfield 13, 3) := by decide +kernel
theorem dX3_decrement_35 : decode cX3_decrement 35 = .ok (.iconst 1, 1) := by decide +kernel
theorem dX3_decrement_36 : decode cX3_decrement 36 = .ok (.iand, 1) := by decide +kernel
theorem dX3_decrement_37 : decode cX3_decrement 37 = .ok (.ior, 1) := by decide +kernel
theorem dX3_decrement_38 : decode cX3_decrement 38 = .ok (.putfield 13, 3) := by decide +kernel
theorem dX3_decrement_41 : decode cX3_decrement 41 = .ok (.iload_n 2, 1) := by decide +kernel
theorem dX3_decrement_42 : decode cX3_decrement 42 = .ok (.ireturn, 1) := by decide +kernel
set_option maxRecDepth 20000 in
theorem ggX3_addToHl_X3_pairAt : GoodIn wsX3_addToHl wsX3_pairAt := goodIn_r _ [5, 6, 16, 17, 18, 19, 20, 21, 22, 23, 24] (by decide +kernel) (by decide +kernel)
set_option maxRecDepth 20000 in
theorem gX3_addToHl_X3_pairAt : GoodIn wsX3_addToHl (wsV RX3 120 RX3 yX3_pairAt wsX3_pairAt) := goodIn_app (goodIn_of _ (by decide +kernel)) ggX3_addToHl_X3_pairAt
set_option maxRecDepth 20000 in
theorem ggX3_addToHl_X3_setPairAt : GoodIn wsX3_addToHl wsX3_setPairAt := goodIn_r _ [10, 6, 16, 17, 18, 19, 20, 21, 22, 23, 24] (by decide +kernel) (by decide +kernel)
set_option maxRecDepth 20000 in
theorem gX3_addToHl_X3_setPairAt : GoodIn wsX3_addToHl (wsV RX3 137 RX3 yX3_setPairAt wsX3_setPairAt) := goodIn_app (goodIn_of _ (by decide +kernel)) ggX3_addToHl_X3_setPairAt
set_option maxRecDepth 20000 in
theorem ggX3_addToHl_X3_setCarry : GoodIn wsX3_addToHl wsX3_setCarry := goodIn_r _ [14, 15, 16, 17, 18, 19, 20, 21, 22, 23, 24] (by decide +kernel) (by decide +kernel)
set_option maxRecDepth 20000 in
theorem gX3_addToHl_X3_setCarry : GoodIn wsX3_addToHl (wsV RX3 146 RX3 yX3_setCarry wsX3_setCarry) := goodIn_app (goodIn_of _ (by decide +kernel)) ggX3_addToHl_X3_setCarry
theorem dX3_addToHl_0 : decode cX3_addToHl 0 = .ok (.aload_n 0, 1) := by decide +kernel
theorem dX3_addToHl_1 : decode cX3_addToHl 1 = .ok (.iconst 4, 1) := by decide +kernel
theorem dX3_addToHl_2 : decode cX3_addToHl 2 = .ok (.invokevirtual 120, 3) := by decide +kernel
theorem dX3_addToHl_5 : decode cX3_addToHl 5 = .ok (.iload_n 1, 1) := by decide +kernel
theorem dX3_addToHl_6 : decode cX3_addToHl 6 = .ok (.iadd, 1) := by decide +kernel
theorem dX3_addToHl_7 : decode cX3_addToHl 7 = .ok (.istore_n 2, 1) := by decide +kernel
theorem dX3_addToHl_8 : decode cX3_addToHl 8 = .ok (.aload_n 0, 1) := by decide +kernel
theorem dX3_addToHl_9 : decode cX3_addToHl 9 = .ok (.iconst 4, 1) := by decide +kernel
theorem dX3_addToHl_10 : decode cX3_addToHl 10 = .ok (.iload_n 2, 1) := by decide +kernel
theorem dX3_addToHl_11 : decode cX3_addToHl 11 = .ok (.invokevirtual 137, 3) := by decide +kernel
theorem dX3_addToHl_14 : decode cX3_addToHl 14 = .ok (.aload_n 0, 1) := by decide +kernel
theorem dX3_addToHl_15 : decode cX3_addToHl 15 = .ok (.iload_n 2, 1) := by decide +kernel
theorem dX3_addToHl_16 : decode cX3_addToHl 16 = .ok (.bipush 16, 2) := by decide +kernel
theorem dX3_addToHl_18 : decode cX3_addToHl 18 = .ok (.ishr, 1) := by decide +kernel
theorem dX3_addToHl_19 : decode cX3_addToHl 19 = .ok (.invokevirtual 146, 3) := by decide +kernel
theorem dX3_addToHl_22 : decode cX3_addToHl 22 = .ok (.return_, 1) := by decide +kernel
set_option maxRecDepth 20000 in
theorem ggX3_flagsOf_J6_bitCount_0f7a4 : GoodIn wsX3_flagsOf wsJ6_bitCount_0f7a4 := goodIn_r _ [4, 5, 6, 7] (by decide +kernel) (by decide +kernel)
set_option maxRecDepth 20000 in
theorem gX3_flagsOf_J6_bitCount_0f7a4 : GoodIn wsX3_flagsOf (va_wsS RX3 179 yJ6_bitCount_0f7a4 wsJ6_bitCount_0f7a4) := goodIn_app (goodIn_of _ (by decide +kernel)) ggX3_flagsOf_J6_bitCount_0f7a4
theorem dX3_flagsOf_0 : decode cX3_flagsOf 0 = .ok (.iload_n 0, 1) := by decide +kernel
theorem dX3_flagsOf_1 : decode cX3_flagsOf 1 = .ok (.ifCond .ne 8, 3) := by decide +kernel
theorem dX3_flagsOf_4 : decode cX3_flagsOf 4 = .ok (.bipush 64, 2) := by decide +kernel
theorem dX3_flagsOf_6 : decode cX3_flagsOf 6 = .ok (.goto 4, 3) := by decide +kernel
theorem dX3_flagsOf_9 : decode cX3_flagsOf 9 = .ok (.iconst 0, 1) := by decide +kernel
theorem dX3_flagsOf_10 : decode cX3_flagsOf 10 = .ok (.istore_n 1, 1) := by decide +kernel
theorem dX3_flagsOf_11 : decode cX3_flagsOf 11 = .ok (.iload_n 0, 1) := by decide +kernel
theorem dX3_flagsOf_12 : decode cX3_flagsOf 12 = .ok (.invokestatic 179, 3) := by decide +kernel
theorem dX3_flagsOf_15 : decode cX3_flagsOf 15 = .ok (.iconst 1, 1) := by decide +kernel
theorem dX3_flagsOf_16 : decode cX3_flagsOf 16 = .ok (.iand, 1) := by decide +kernel
theorem dX3_flagsOf_17 : decode cX3_flagsOf 17 = .ok (.ifCond .ne 7, 3) := by decide +kernel
theorem dX3_flagsOf_20 : decode cX3_flagsOf 20 = .ok (.iconst 4, 1) := by decide +kernel
theorem dX3_flagsOf_21 : decode cX3_flagsOf 21 = .ok (.goto 4, 3) := by decide +kernel
theorem dX3_flagsOf_24 : decode cX3_flagsOf 24 = .ok (.iconst 0, 1) := by decide +kernel
theorem dX3_flagsOf_25 : decode cX3_flagsOf 25 = .ok (.istore_n 2, 1) := by decide +kernel
theorem dX3_flagsOf_26 : decode cX3_flagsOf 26 = .ok (.iload_n 0, 1) := by decide +kernel
theorem dX3_flagsOf_27 : decode cX3_flagsOf 27 = .ok (.sipush 128, 3) := by decide +kernel
theorem dX3_flagsOf_30 : decode cX3_flagsOf 30 = .ok (.iand, 1) := by decide +kernel
theorem dX3_flagsOf_31 : decode cX3_flagsOf 31 = .ok (.iload_n 1, 1) := by decide +kernel
theorem dX3_flagsOf_32 : decode cX3_flagsOf 32 = .ok (.ior, 1) := by decide +kernel
theorem dX3_flagsOf_33 : decode cX3_flagsOf 33 = .ok (.iload_n 2, 1) := by decide +kernel
theorem dX3_flagsOf_34 : decode cX3_flagsOf 34 = .ok (.ior, 1) := by decide +kernel
theorem dX3_flagsOf_35 : decode cX3_flagsOf 35 = .ok (.iconst 2, 1) := by decide +kernel
theorem dX3_flagsOf_36 : decode cX3_flagsOf 36 = .ok (.ior, 1) := by decide +kernel
theorem dX3_flagsOf_37 : decode cX3_flagsOf 37 = .ok (.ireturn, 1) := by decide +kernel
set_option maxRecDepth 20000 in
theorem ggX3_operand_X3_pairAt : GoodIn wsX3_operand wsX3_pairAt := goodIn_r _ [7, 2, 16, 17, 18, 19, 20, 21, 22, 23, 24] (by decide +kernel) (by decide +kernel)
set_option maxRecDepth 20000 in
theorem gX3_operand_X3_pairAt : GoodIn wsX3_operand (wsV RX3 120 RX3 yX3_pairAt wsX3_pairAt) := goodIn_app (goodIn_of _ (by decide +kernel)) ggX3_operand_X3_pairAt
set_option maxRecDepth 20000 in
theorem ggX3_operand_X1_read : GoodIn wsX3_operand wsX1_read := goodIn_r _ [12, 13, 14, 15, 25, 26] (by decide +kernel) (by decide +kernel)
set_option maxRecDepth 20000 in
theorem gX3_operand_X1_read : GoodIn wsX3_operand (wsV RX3 128 RX1 yX1_read wsX1_read) := goodIn_app (goodIn_of _ (by decide +kernel)) ggX3_operand_X1_read
theorem dX3_operand_0 : decode cX3_operand 0 = .ok (.iload_n 1, 1) := by decide +kernel
theorem dX3_operand_1 : decode cX3_operand 1 = .ok (.bipush 7, 2) := by decide +kernel
theorem dX3_operand_3 : decode cX3_operand 3 = .ok (.iand, 1) := by decide +kernel
theorem dX3_operand_4 : decode cX3_operand 4 = .ok (.istore_n 2, 1) := by decide +kernel
theorem dX3_operand_5 : decode cX3_operand 5 = .ok (.iload_n 2, 1) := by decide +kernel
theorem dX3_operand_6 : decode cX3_operand 6 = .ok (.bipush 6, 2) := by decide +kernel
theorem dX3_operand_8 : decode cX3_operand 8 = .ok (.if_icmp .ne 18, 3) := by decide +kernel
theorem dX3_operand_11 : decode cX3_operand 11 = .ok (.aload_n 0, 1) := by decide +kernel
theorem dX3_operand_12 : decode cX3_operand 12 = .ok (.getfield 17, 3) := by decide +kernel
theorem dX3_operand_15 : decode cX3_operand 15 = .ok (.aload_n 0, 1) := by decide +kernel
theorem dX3_operand_16 : decode cX3_operand 16 = .ok (.iconst 4, 1) := by decide +kernel
theorem dX3_operand_17 : decode cX3_operand 17 = .ok (.invokevirtual 120, 3) := by decide +kernel
theorem dX3_operand_20 : decode cX3_operand 20 = .ok (.invokevirtual 128, 3) := by decide +kernel
theorem dX3_operand_23 : decode cX3_operand 23 = .ok (.goto 9, 3) := by decide +kernel
theorem dX3_operand_26 : decode cX3_operand 26 = .ok (.aload_n 0, 1) := by decide +kernel
theorem dX3_operand_27 : decode cX3_operand 27 = .ok (.getfield 9, 3) := by decide +kernel
theorem dX3_operand_30 : decode cX3_operand 30 = .ok (.iload_n 2, 1) := by decide +kernel
theorem dX3_operand_31 : decode cX3_operand 31 = .ok (.iaload, 1) := by decide +kernel
theorem dX3_operand_32 : decode cX3_operand 32 = .ok (.ireturn, 1) := by decide +kernel
set_option maxRecDepth 20000 in
theorem ggX3_setOperand_X3_pairAt : GoodIn wsX3_setOperand wsX3_pairAt := goodIn_r _ [7, 2, 14, 15, 16, 17, 18, 19, 20, 21, 22] (by decide +kernel) (by decide +kernel)
set_option maxRecDepth 20000 in
theorem gX3_setOperand_X3_pairAt : GoodIn wsX3_setOperand (wsV RX3 120 RX3 yX3_pairAt wsX3_pairAt) := goodIn_app (goodIn_of _ (by decide +kernel)) ggX3_setOperand_X3_pairAt
set_option maxRecDepth 20000 in
theorem ggX3_setOperand_X1_write : GoodIn wsX3_setOperand wsX1_write := goodIn_r _ [12, 13, 23, 24] (by decide +kernel) (by decide +kernel)
set_option maxRecDepth 20000 in
theorem gX3_setOperand_X1_write : GoodIn wsX3_setOperand (wsV RX3 123 RX1 yX1_write wsX1_write) := goodIn_app (goodIn_of _ (by decide +kernel)) ggX3_setOperand_X1_write
theorem dX3_setOperand_0 : decode cX3_setOperand 0 = .ok (.iload_n 1, 1) := by decide +kernel
theorem dX3_setOperand_1 : decode cX3_setOperand 1 = .ok (.bipush 7, 2) := by decide +kernel
theorem dX3_setOperand_3 : decode cX3_setOperand 3 = .ok (.iand, 1) := by decide +kernel
theorem dX3_setOperand_4 : decode cX3_setOperand 4 = .ok (.istore_n 3, 1) := by decide +kernel
theorem dX3_setOperand_5 : decode cX3_setOperand 5 = .ok (.iload_n 3, 1) := by decide +kernel
theorem dX3_setOperand_6 : decode cX3_setOperand 6 = .ok (.bipush 6, 2) := by decide +kernel
theorem dX3_setOperand_8 : decode cX3_setOperand 8 = .ok (.if_icmp .ne 19, 3) := by decide +kernel
theorem dX3_setOperand_11 : decode cX3_setOperand 11 = .ok (.aload_n 0, 1) := by decide +kernel
theorem dX3_setOperand_12 : decode cX3_setOperand 12 = .ok (.getfield 17, 3) := by decide +kernel
theorem dX3_setOperand_15 : decode cX3_setOperand 15 = .ok (.aload_n 0, 1) := by decide +kernel
theorem dX3_setOperand_16 : decode cX3_setOperand 16 = .ok (.iconst 4, 1) := by decide +kernel
theorem dX3_setOperand_17 : decode cX3_setOperand 17 = .ok (.invokevirtual 120, 3) := by decide +kernel
theorem dX3_setOperand_20 : decode cX3_setOperand 20 = .ok (.iload_n 2, 1) := by decide +kernel
theorem dX3_setOperand_21 : decode cX3_setOperand 21 = .ok (.invokevirtual 123, 3) := by decide +kernel
theorem dX3_setOperand_24 : decode cX3_setOperand 24 = .ok (.goto 10, 3) := by decide +kernel
theorem dX3_setOperand_27 : decode cX3_setOperand 27 = .ok (.aload_n 0, 1) := by decide +kernel
theorem dX3_setOperand_28 : decode cX3_setOperand 28 = .ok (.getfield 9, 3) := by decide +kernel
theorem dX3_setOperand_31 : decode cX3_setOperand 31 = .ok (.iload_n 3, 1) := by decide +kernel
theorem dX3_setOperand_32 : decode cX3_setOperand 32 = .ok (.iload_n 2, 1) := by decide +kernel
theorem dX3_setOperand_33 : decode cX3_setOperand 33 = .ok (.iastore, 1) := by decide +kernel
theorem dX3_setOperand_34 : decode cX3_setOperand 34 = .ok (.return_, 1) := by decide +kernel
theorem dX3_pairAt_0 : decode cX3_pairAt 0 = .ok (.iload_n 1, 1) := by decide +kernel
theorem dX3_pairAt_1 : decode cX3_pairAt 1 = .ok (.bipush 6, 2) := by decide +kernel
theorem dX3_pairAt_3 : decode cX3_pairAt 3 = .ok (.iand, 1) := by decide +kernel
theorem dX3_pairAt_4 : decode cX3_pairAt 4 = .ok (.istore_n 2, 1) := by decide +kernel
theorem dX3_pairAt_5 : decode cX3_pairAt 5 = .ok (.aload_n 0, 1) := by decide +kernel
theorem dX3_pairAt_6 : decode cX3_pairAt 6 = .ok (.getfield 9, 3) := by decide +kernel
theorem dX3_pairAt_9 : decode cX3_pairAt 9 = .ok (.iload_n 2, 1) := by decide +kernel
theorem dX3_pairAt_10 : decode cX3_pairAt 10 = .ok (.iaload, 1) := by decide +kernel
theorem dX3_pairAt_11 : decode cX3_pairAt 11 = .ok (.bipush 8, 2) := by decide +kernel
theorem dX3_pairAt_13 : decode cX3_pairAt 13 = .ok (.ishl, 1) := by decide +kernel
theorem dX3_pairAt_14 : decode cX3_pairAt 14 = .ok (.aload_n 0, 1) := by decide +kernel
theorem dX3_pairAt_15 : decode cX3_pairAt 15 = .ok (.getfield 9, 3) := by decide +kernel
theorem dX3_pairAt_18 : decode cX3_pairAt 18 = .ok (.iload_n 2, 1) := by decide +kernel
theorem dX3_pairAt_19 : decode cX3_pairAt 19 = .ok (.iconst 1, 1) := by decide +kernel
theorem dX3_pairAt_20 : decode cX3_pairAt 20 = .ok (.iadd, 1) := by decide +kernel
theorem dX3_pairAt_21 : decode cX3_pairAt 21 = .ok (.iaload, 1) := by decide +kernel
theorem dX3_pairAt_22 : decode cX3_pairAt 22 = .ok (.ior, 1) := by decide +kernel
theorem dX3_pairAt_23 : decode cX3_pairAt 23 = .ok (.ireturn, 1) := by decide +kernel
theorem dX3_setPairAt_0 : decode cX3_setPairAt 0 = .ok (.iload_n 1, 1) := by decide +kernel
theorem dX3_setPairAt_1 : decode cX3_setPairAt 1 = .ok (.bipush 6, 2) := by decide +kernel
theorem dX3_setPairAt_3 : decode cX3_setPairAt 3 = .ok (.iand, 1) := by decide +kernel
theorem dX3_setPairAt_4 : decode cX3_setPairAt 4 = .ok (.istore_n 3, 1) := by decide +kernel
theorem dX3_setPairAt_5 : decode cX3_setPairAt 5 = .ok (.aload_n 0, 1) := by decide +kernel
theorem dX3_setPairAt_6 : decode cX3_setPairAt 6 = .ok (.getfield 9, 3) := by decide +kernel
theorem dX3_setPairAt_9 : decode cX3_setPairAt 9 = .ok (.iload_n 3, 1) := by decide +kernel
theorem dX3_setPairAt_10 : decode cX3_setPairAt 10 = .ok (.iload_n 2, 1) := by decide +kernel
theorem dX3_setPairAt_11 : decode cX3_setPairAt 11 = .ok (.bipush 8, 2) := by decide +kernel
theorem dX3_setPairAt_13 : decode cX3_setPairAt 13 = .ok (.ishr, 1) := by decide +kernel
theorem dX3_setPairAt_14 : decode cX3_setPairAt 14 = .ok (.sipush 255, 3) := by decide +kernel
theorem dX3_setPairAt_17 : decode cX3_setPairAt 17 = .ok (.iand, 1) := by decide +kernel
theorem dX3_setPairAt_18 : decode cX3_setPairAt 18 = .ok (.iastore, 1) := by decide +kernel
theorem dX3_setPairAt_19 : decode cX3_setPairAt 19 = .ok (.aload_n 0, 1) := by decide +kernel
theorem dX3_setPairAt_20 : decode cX3_setPairAt 20 = .ok (.getfield 9, 3) := by decide +kernel
theorem dX3_setPairAt_23 : decode cX3_setPairAt 23 = .ok (.iload_n 3, 1) := by decide +kernel
theorem dX3_setPairAt_24 : decode cX3_setPairAt 24 = .ok (.iconst 1, 1) := by decide +kernel
theorem dX3_setPairAt_25 : decode cX3_setPairAt 25 = .ok (.iadd, 1) := by decide +kernel
theorem dX3_setPairAt_26 : decode cX3_setPairAt 26 = .ok (.iload_n 2, 1) := by decide +kernel
theorem dX3_setPairAt_27 : decode cX3_setPairAt 27 = .ok (.sipush 255, 3) := by decide +kernel
theorem dX3_setPairAt_30 : decode cX3_setPairAt 30 = .ok (.iand, 1) := by decide +kernel
theorem dX3_setPairAt_31 : decode cX3_setPairAt 31 = .ok (.iastore, 1) := by decide +kernel
theorem dX3_setPairAt_32 : decode cX3_setPairAt 32 = .ok (.return_, 1) := by decide +kernel
set_option maxRecDepth 20000 in
theorem ggX3_pairOrSp_X3_pairAt : GoodIn wsX3_pairOrSp wsX3_pairAt := goodIn_r _ [6, 7, 8, 9, 10, 11, 12, 13, 14, 15, 16] (by decide +kernel) (by decide +kernel)
set_option maxRecDepth 20000 in
theorem gX3_pairOrSp_X3_pairAt : GoodIn wsX3_pairOrSp (wsV RX3 120 RX3 yX3_pairAt wsX3_pairAt) := goodIn_app (goodIn_of _ (by decide +kernel)) ggX3_pairOrSp_X3_pairAt
theorem dX3_pairOrSp_0 : decode cX3_pairOrSp 0 = .ok (.iload_n 1, 1) := by decide +kernel
theorem dX3_pairOrSp_1 : decode cX3_pairOrSp 1 = .ok (.iconst 3, 1) := by decide +kernel
theorem dX3_pairOrSp_2 : decode cX3_pairOrSp 2 = .ok (.if_icmp .ne 10, 3) := by decide +kernel
theorem dX3_pairOrSp_5 : decode cX3_pairOrSp 5 = .ok (.aload_n 0, 1) := by decide +kernel
theorem dX3_pairOrSp_6 : decode cX3_pairOrSp 6 = .ok (.getfield 25, 3) := by decide +kernel
theorem dX3_pairOrSp_9 : decode cX3_pairOrSp 9 = .ok (.goto 10, 3) := by decide +kernel
theorem dX3_pairOrSp_12 : decode cX3_pairOrSp 12 = .ok (.aload_n 0, 1) := by decide +kernel
theorem dX3_pairOrSp_13 : decode cX3_pairOrSp 13 = .ok (.iconst 2, 1) := by decide +kernel
theorem dX3_pairOrSp_14 : decode cX3_pairOrSp 14 = .ok (.iload_n 1, 1) := by decide +kernel
theorem dX3_pairOrSp_15 : decode cX3_pairOrSp 15 = .ok (.imul, 1) := by decide +kernel
theorem dX3_pairOrSp_16 : decode cX3_pairOrSp 16 = .ok (.invokevirtual 120, 3) := by decide +kernel
theorem dX3_pairOrSp_19 : decode cX3_pairOrSp 19 = .ok (.ireturn, 1) := by decide +kernel
set_option maxRecDepth 20000 in
theorem ggX3_setPairOrSp_X3_setPairAt : GoodIn wsX3_setPairOrSp wsX3_setPairAt := goodIn_r _ [7, 8, 9, 10, 11, 12, 13, 14, 15, 16, 17] (by decide +kernel) (by decide +kernel)
set_option maxRecDepth 20000 in
theorem gX3_setPairOrSp_X3_setPairAt : GoodIn wsX3_setPairOrSp (wsV RX3 137 RX3 yX3_setPairAt wsX3_setPairAt) := goodIn_app (goodIn_of _ (by decide +kernel)) ggX3_setPairOrSp_X3_setPairAt
theorem dX3_setPairOrSp_0 : decode cX3_setPairOrSp 0 = .ok (.iload_n 1, 1) := by decide +kernel
theorem dX3_setPairOrSp_1 : decode cX3_setPairOrSp 1 = .ok (.iconst 3, 1) := by decide +kernel
theorem dX3_setPairOrSp_2 : decode cX3_setPairOrSp 2 = .ok (.if_icmp .ne 14, 3) := by decide +kernel
theorem dX3_setPairOrSp_5 : decode cX3_setPairOrSp 5 = .ok (.aload_n 0, 1) := by decide +kernel
theorem dX3_setPairOrSp_6 : decode cX3_setPairOrSp 6 = .ok (.iload_n 2, 1) := by decide +kernel
theorem dX3_setPairOrSp_7 : decode cX3_setPairOrSp 7 = .ok (.ldc 184, 2) := by decide +kernel
theorem dX3_setPairOrSp_9 : decode cX3_setPairOrSp 9 = .ok (.iand, 1) := by decide +kernel
theorem dX3_setPairOrSp_10 : decode cX3_setPairOrSp 10 = .ok (.putfield 25, 3) := by decide +kernel
theorem dX3_setPairOrSp_13 : decode cX3_setPairOrSp 13 = .ok (.goto 11, 3) := by decide +kernel
theorem dX3_setPairOrSp_16 : decode cX3_setPairOrSp 16 = .ok (.aload_n 0, 1) := by decide +kernel
theorem dX3_setPairOrSp_17 : decode cX3_setPairOrSp 17 = .ok (.iconst 2, 1) := by decide +kernel
theorem dX3_setPairOrSp_18 : decode cX3_setPairOrSp 18 = .ok (.iload_n 1, 1) := by decide +kernel
theorem dX3_setPairOrSp_19 : decode cX3_setPairOrSp 19 = .ok (.imul, 1) := by decide +kernel
theorem dX3_setPairOrSp_20 : decode cX3_setPairOrSp 20 = .ok (.iload_n 2, 1) := by decide +kernel
theorem dX3_setPairOrSp_21 : decode cX3_setPairOrSp 21 = .ok (.invokevirtual 137, 3) := by decide +kernel
theorem dX3_setPairOrSp_24 : decode cX3_setPairOrSp 24 = .ok (.return_, 1) := by decide +kernel
set_option maxRecDepth 20000 in
theorem ggX3_fetch_X1_read : GoodIn wsX3_fetch wsX1_read := goodIn_r _ [8, 9, 10, 11, 21, 22] (by decide +kernel) (by decide +kernel)
set_option maxRecDepth 20000 in
theorem gX3_fetch_X1_read : GoodIn wsX3_fetch (wsV RX3 128 RX1 yX1_read wsX1_read) := goodIn_app (goodIn_of _ (by decide +kernel)) ggX3_fetch_X1_read
theorem dX3_fetch_0 : decode cX3_fetch 0 = .ok (.aload_n 0, 1) := by decide +kernel
theorem dX3_fetch_1 : decode cX3_fetch 1 = .ok (.getfield 17, 3) := by decide +kernel
theorem dX3_fetch_4 : decode cX3_fetch 4 = .ok (.aload_n 0, 1) := by decide +kernel
theorem dX3_fetch_5 : decode cX3_fetch 5 = .ok (.getfield 28, 3) := by decide +kernel
theorem dX3_fetch_8 : decode cX3_fetch 8 = .ok (.invokevirtual 128, 3) := by decide +kernel
theorem dX3_fetch_11 : decode cX3_fetch 11 = .ok (.istore_n 1, 1) := by decide +kernel
theorem dX3_fetch_12 : decode cX3_fetch 12 = .ok (.aload_n 0, 1) := by decide +kernel
theorem dX3_fetch_13 : decode cX3_fetch 13 = .ok (.aload_n 0, 1) := by decide +kernel
theorem dX3_fetch_14 : decode cX3_fetch 14 = .ok (.getfield 28, 3) := by decide +kernel
theorem dX3_fetch_17 : decode cX3_fetch 17 = .ok (.iconst 1, 1) := by decide +kernel
theorem dX3_fetch_18 : decode cX3_fetch 18 = .ok (.iadd, 1) := by decide +kernel
theorem dX3_fetch_19 : decode cX3_fetch 19 = .ok (.ldc 184, 2) := by decide +kernel
theorem dX3_fetch_21 : decode cX3_fetch 21 = .ok (.iand, 1) := by decide +kernel
theorem dX3_fetch_22 : decode cX3_fetch 22 = .ok (.putfield 28, 3) := by decide +kernel
theorem dX3_fetch_25 : decode cX3_fetch 25 = .ok (.iload_n 1, 1) := by decide +kernel
theorem dX3_fetch_26 : decode cX3_fetch 26 = .ok (.ireturn, 1) := by decide +kernel
set_option maxRecDepth 20000 in
theorem ggX3_fetchWord_X1_readWord : GoodIn wsX3_fetchWord wsX1_readWord := goodIn_r _ [8, 9, 10, 11, 7, 12, 13, 14, 15, 25, 26] (by decide +kernel) (by decide +kernel)
set_option maxRecDepth 20000 in
theorem gX3_fetchWord_X1_readWord : GoodIn wsX3_fetchWord (wsV RX3 134 RX1 yX1_readWord wsX1_readWord) := goodIn_app (goodIn_of _ (by decide +kernel)) ggX3_fetchWord_X1_readWord
theorem dX3_fetchWord_0 : decode cX3_fetchWord 0 = .ok (.aload_n 0, 1) := by decide +kernel
theorem dX3_fetchWord_1 : decode cX3_fetchWord 1 = .ok (.getfield 17, 3) := by decide +kernel
theorem dX3_fetchWord_4 : decode cX3_fetchWord 4 = .ok (.aload_n 0, 1) := by decide +kernel
theorem dX3_fetchWord_5 : decode cX3_fetchWord 5 = .ok (.getfield 28, 3) := by decide +kernel
theorem dX3_fetchWord_8 : decode cX3_fetchWord 8 = .ok (.invokevirtual 134, 3) := by decide +kernel
theorem dX3_fetchWord_11 : decode cX3_fetchWord 11 = .ok (.istore_n 1, 1) := by decide +kernel
theorem dX3_fetchWord_12 : decode cX3_fetchWord 12 = .ok (.aload_n 0, 1) := by decide +kernel
theorem dX3_fetchWord_13 : decode cX3_fetchWord 13 = .ok (.aload_n 0, 1) := by decide +kernel
theorem dX3_fetchWord_14 : decode cX3_fetchWord 14 = .ok (.getfield 28, 3) := by decide +kernel
theorem dX3_fetchWord_17 : decode cX3_fetchWord 17 = .ok (.iconst 2, 1) := by decide +kernel
theorem dX3_fetchWord_18 : decode cX3_fetchWord 18 = .ok (.iadd, 1) := by decide +kernel
theorem dX3_fetchWord_19 : decode cX3_fetchWord 19 = .ok (.ldc 184, 2) := by decide +kernel
theorem dX3_fetchWord_21 : decode cX3_fetchWord 21 = .ok (.iand, 1) := by decide +kernel
theorem dX3_fetchWord_22 : decode cX3_fetchWord 22 = .ok (.putfield 28, 3) := by decide +kernel
theorem dX3_fetchWord_25 : decode cX3_fetchWord 25 = .ok (.iload_n 1, 1) := by decide +kernel
theorem dX3_fetchWord_26 : decode cX3_fetchWord 26 = .ok (.ireturn, 1) := by decide +kernel
set_option maxRecDepth 20000 in
theorem ggX3_push_X1_writeWord : GoodIn wsX3_push wsX1_writeWord := goodIn_r _ [8, 9, 10, 11, 7, 12, 13, 23, 24] (by decide +kernel) (by decide +kernel)
set_option maxRecDepth 20000 in
theorem gX3_push_X1_writeWord : GoodIn wsX3_push (wsV RX3 131 RX1 yX1_writeWord wsX1_writeWord) := goodIn_app (goodIn_of _ (by decide +kernel)) ggX3_push_X1_writeWord
theorem dX3_push_0 : decode cX3_push 0 = .ok (.aload_n 0, 1) := by decide +kernel
theorem dX3_push_1 : decode cX3_push 1 = .ok (.aload_n 0, 1) := by decide +kernel
theorem dX3_push_2 : decode cX3_push 2 = .ok (.getfield 25, 3) := by decide +kernel
theorem dX3_push_5 : decode cX3_push 5 = .ok (.iconst 2, 1) := by decide +kernel
theorem dX3_push_6 : decode cX3_push 6 = .ok (.isub, 1) := by decide +kernel
theorem dX3_push_7 : decode cX3_push 7 = .ok (.ldc 184, 2) := by decide +kernel
theorem dX3_push_9 : decode cX3_push 9 = .ok (.iand, 1) := by decide +kernel
theorem dX3_push_10 : decode cX3_push 10 = .ok (.putfield 25, 3) := by decide +kernel
theorem dX3_push_13 : decode cX3_push 13 = .ok (.aload_n 0, 1) := by decide +kernel
theorem dX3_push_14 : decode cX3_push 14 = .ok (.getfield 17, 3) := by decide +kernel
theorem dX3_push_17 : decode cX3_push 17 = .ok (.aload_n 0, 1) := by decide +kernel
theorem dX3_push_18 : decode cX3_push 18 = .ok (.getfield 25, 3) := by decide +kernel
theorem dX3_push_21 : decode cX3_push 21 = .ok (.iload_n 1, 1) := by decide +kernel
theorem dX3_push_22 : decode cX3_push 22 = .ok (.invokevirtual 131, 3) := by decide +kernel
theorem dX3_push_25 : decode cX3_push 25 = .ok (.return_, 1) := by decide +kernel
set_option maxRecDepth 20000 in
theorem ggX3_pop_X1_readWord : GoodIn wsX3_pop wsX1_readWord := goodIn_r _ [8, 9, 10, 11, 7, 12, 13, 14, 15, 25, 26] (by decide +kernel) (by decide +kernel)
set_option maxRecDepth 20000 in
theorem gX3_pop_X1_readWord : GoodIn wsX3_pop (wsV RX3 134 RX1 yX1_readWord wsX1_readWord) := goodIn_app (goodIn_of _ (by decide +kernel)) ggX3_pop_X1_readWord
theorem dX3_pop_0 : decode cX3_pop 0 = .ok (.aload_n 0, 1) := by decide +kernel
theorem dX3_pop_1 : decode cX3_pop 1 = .ok (.getfield 17, 3) := by decide +kernel
theorem dX3_pop_4 : decode cX3_pop 4 = .ok (.aload_n 0, 1) := by decide +kernel
theorem dX3_pop_5 : decode cX3_pop 5 = .ok (.getfield 25, 3) := by decide +kernel
theorem dX3_pop_8 : decode cX3_pop 8 = .ok (.invokevirtual 134, 3) := by decide +kernel
theorem dX3_pop_11 : decode cX3_pop 11 = .ok (.istore_n 1, 1) := by decide +kernel
theorem dX3_pop_12 : decode cX3_pop 12 = .ok (.aload_n 0, 1) := by decide +kernel
theorem dX3_pop_13 : decode cX3_pop 13 = .ok (.aload_n 0, 1) := by decide +kernel
theorem dX3_pop_14 : decode cX3_pop 14 = .ok (.getfield 25, 3) := by decide +kernel
theorem dX3_pop_17 : decode cX3_pop 17 = .ok (.iconst 2, 1) := by decide +kernel
theorem dX3_pop_18 : decode cX3_pop 18 = .ok (.iadd, 1) := by decide +kernel
theorem dX3_pop_19 : decode cX3_pop 19 = .ok (.ldc 184, 2) := by decide +kernel
theorem dX3_pop_21 : decode cX3_pop 21 = .ok (.iand, 1) := by decide +kernel
theorem dX3_pop_22 : decode cX3_pop 22 = .ok (.putfield 25, 3) := by decide +kernel
theorem dX3_pop_25 : decode cX3_pop 25 = .ok (.iload_n 1, 1) := by decide +kernel
theorem dX3_pop_26 : decode cX3_pop 26 = .ok (.ireturn, 1) := by decide +kernel
set_option maxRecDepth 20000 in
theorem ggX4_init_X1_init : GoodIn wsX4_init wsX1_init := goodIn_r _ [21, 22, 2, 3, 23, 24, 25, 43, 44] (by decide +kernel) (by decide +kernel)
set_option maxRecDepth 20000 in
theorem gX4_init_X1_init_n9 : GoodIn wsX4_init (wsX1_init) := ggX4_init_X1_init
set_option maxRecDepth 20000 in
theorem ggX4_init_X2_init : GoodIn wsX4_init wsX2_init := goodIn_r _ [27, 28, 2, 3, 23, 29, 30, 31, 49, 50, 51, 52, 53, 54] (by decide +kernel) (by decide +kernel)
set_option maxRecDepth 20000 in
theorem gX4_init_X2_init_n18 : GoodIn wsX4_init (wsX2_init) := ggX4_init_X2_init
set_option maxRecDepth 20000 in
theorem ggX4_init_X3_init : GoodIn wsX4_init wsX3_init := goodIn_r _ [34, 35, 2, 3, 23, 36, 37, 38, 39, 55, 56, 57, 58, 59, 60, 61, 62, 63] (by decide +kernel) (by decide +kernel)
set_option maxRecDepth 20000 in
theorem gX4_init_X3_init : GoodIn wsX4_init (wsX3_init) := ggX4_init_X3_init
set_option maxRecDepth 20000 in
theorem ggX4_init_X0_init : GoodIn wsX4_init wsX0_init := goodIn_r _ [41, 42, 2, 3] (by decide +kernel) (by decide +kernel)
set_option maxRecDepth 20000 in
theorem gX4_init_X0_init_n34 : GoodIn wsX4_init (wsX0_init) := ggX4_init_X0_init
end
section
theorem dX4_init_0 : decode cX4_init 0 = .ok (.aload_n 0, 1) := by decide +kernel
theorem dX4_init_1 : decode cX4_init 1 = .ok (.invokespecial 1, 3) := by decide +kernel
theorem dX4_init_4 : decode cX4_init 4 = .ok (.aload_n 0, 1) := by decide +kernel
theorem dX4_init_5 : decode cX4_init 5 = .ok (.new 7, 3) := by decide +kernel
theorem dX4_init_8 : decode cX4_init 8 = .ok (.dup, 1) := by decide +kernel
theorem dX4_init_9 : decode cX4_init 9 = .ok (.invokespecial 9, 3) := by decide +kernel
theorem dX4_init_12 : decode cX4_init 12 = .ok (.putfield 10, 3) := by decide +kernel
theorem dX4_init_15 : decode cX4_init 15 = .ok (.aload_n 0, 1) := by decide +kernel
theorem dX4_init_16 : decode cX4_init 16 = .ok (.new 16, 3) := by decide +kernel
theorem dX4_init_19 : decode cX4_init 19 = .ok (.dup, 1) := by decide +kernel
theorem dX4_init_20 : decode cX4_init 20 = .ok (.invokespecial 18, 3) := by decide +kernel
theorem dX4_init_23 : decode cX4_init 23 = .ok (.putfield 19, 3) := by decide +kernel
theorem dX4_init_26 : decode cX4_init 26 = .ok (.aload_n 0, 1) := by decide +kernel
theorem dX4_init_27 : decode cX4_init 27 = .ok (.new 23, 3) := by decide +kernel
theorem dX4_init_30 : decode cX4_init 30 = .ok (.dup, 1) := by decide +kernel
theorem dX4_init_31 : decode cX4_init 31 = .ok (.aload_n 0, 1) := by decide +kernel
theorem dX4_init_32 : decode cX4_init 32 = .ok (.getfield 10, 3) := by decide +kernel
theorem dX4_init_35 : decode cX4_init 35 = .ok (.aload_n 0, 1) := by decide +kernel
theorem dX4_init_36 : decode cX4_init 36 = .ok (.getfield 19, 3) := by decide +kernel
theorem dX4_init_39 : decode cX4_init 39 = .ok (.invokespecial 25, 3) := by decide +kernel
theorem dX4_init_42 : decode cX4_init 42 = .ok (.putfield 28, 3) := by decide +kernel
theorem dX4_init_45 : decode cX4_init 45 = .ok (.aload_n 0, 1) := by decide +kernel
theorem dX4_init_46 : decode cX4_init 46 = .ok (.new 32, 3) := by decide +kernel
theorem dX4_init_49 : decode cX4_init 49 = .ok (.dup, 1) := by decide +kernel
theorem dX4_init_50 : decode cX4_init 50 = .ok (.invokespecial 34, 3) := by decide +kernel
theorem dX4_init_53 : decode cX4_init 53 = .ok (.putfield 35, 3) := by decide +kernel
theorem dX4_init_56 : decode cX4_init 56 = .ok (.return_, 1) := by decide +kernel
set_option maxRecDepth 20000 in
theorem ggX4_load_X1_burn : GoodIn wsX4_load wsX1_burn := goodIn_r _ [8, 9, 14, 15] (by decide +kernel) (by decide +kernel)
set_option maxRecDepth 20000 in
theorem gX4_load_X1_burn : GoodIn wsX4_load (wsV RX4 48 RX1 yX1_burn wsX1_burn) := goodIn_app (goodIn_of _ (by decide +kernel)) ggX4_load_X1_burn
theorem dX4_load_0 : decode cX4_load 0 = .ok (.iload_n 3, 1) := by decide +kernel
theorem dX4_load_1 : decode cX4_load 1 = .ok (.iconst 1, 1) := by decide +kernel
theorem dX4_load_2 : decode cX4_load 2 = .ok (.if_icmp .lt 8, 3) := by decide +kernel
theorem dX4_load_5 : decode cX4_load 5 = .ok (.iload_n 3, 1) := by decide +kernel
theorem dX4_load_6 : decode cX4_load 6 = .ok (.iconst 4, 1) := by decide +kernel
theorem dX4_load_7 : decode cX4_load 7 = .ok (.if_icmp .le 13, 3) := by decide +kernel
theorem dX4_load_10 : decode cX4_load 10 = .ok (.new 39, 3) := by decide +kernel
theorem dX4_load_13 : decode cX4_load 13 = .ok (.dup, 1) := by decide +kernel
theorem dX4_load_14 : decode cX4_load 14 = .ok (.ldc 41, 2) := by decide +kernel
theorem dX4_load_16 : decode cX4_load 16 = .ok (.invokespecial 43, 3) := by decide +kernel
theorem dX4_load_19 : decode cX4_load 19 = .ok (.athrow, 1) := by decide +kernel
theorem dX4_load_20 : decode cX4_load 20 = .ok (.iload_n 1, 1) := by decide +kernel
theorem dX4_load_21 : decode cX4_load 21 = .ok (.ifCond .lt 12, 3) := by decide +kernel
theorem dX4_load_24 : decode cX4_load 24 = .ok (.iload_n 1, 1) := by decide +kernel
theorem dX4_load_25 : decode cX4_load 25 = .ok (.sipush 2048, 3) := by decide +kernel
theorem dX4_load_28 : decode cX4_load 28 = .ok (.iload_n 3, 1) := by decide +kernel
theorem dX4_load_29 : decode cX4_load 29 = .ok (.isub, 1) := by decide +kernel
theorem dX4_load_30 : decode cX4_load 30 = .ok (.if_icmp .le 13, 3) := by decide +kernel
theorem dX4_load_33 : decode cX4_load 33 = .ok (.new 39, 3) := by decide +kernel
theorem dX4_load_36 : decode cX4_load 36 = .ok (.dup, 1) := by decide +kernel
theorem dX4_load_37 : decode cX4_load 37 = .ok (.ldc 46, 2) := by decide +kernel
theorem dX4_load_39 : decode cX4_load 39 = .ok (.invokespecial 43, 3) := by decide +kernel
theorem dX4_load_42 : decode cX4_load 42 = .ok (.athrow, 1) := by decide +kernel
theorem dX4_load_43 : decode cX4_load 43 = .ok (.iconst 0, 1) := by decide +kernel
theorem dX4_load_44 : decode cX4_load 44 = .ok (.istore 4, 2) := by decide +kernel
theorem dX4_load_46 : decode cX4_load 46 = .ok (.iload 4, 2) := by decide +kernel
theorem dX4_load_48 : decode cX4_load 48 = .ok (.iload_n 3, 1) := by decide +kernel
theorem dX4_load_49 : decode cX4_load 49 = .ok (.if_icmp .ge 31, 3) := by decide +kernel
theorem dX4_load_52 : decode cX4_load 52 = .ok (.aload_n 0, 1) := by decide +kernel
theorem dX4_load_53 : decode cX4_load 53 = .ok (.getfield 10, 3) := by decide +kernel
theorem dX4_load_56 : decode cX4_load 56 = .ok (.iload_n 1, 1) := by decide +kernel
theorem dX4_load_57 : decode cX4_load 57 = .ok (.iload 4, 2) := by decide +kernel
theorem dX4_load_59 : decode cX4_load 59 = .ok (.iadd, 1) := by decide +kernel
theorem dX4_load_60 : decode cX4_load 60 = .ok (.iload_n 2, 1) := by decide +kernel
theorem dX4_load_61 : decode cX4_load 61 = .ok (.bipush 8, 2) := by decide +kernel
theorem dX4_load_63 : decode cX4_load 63 = .ok (.iload_n 3, 1) := by decide +kernel
theorem dX4_load_64 : decode cX4_load 64 = .ok (.iconst 1, 1) := by decide +kernel
theorem dX4_load_65 : decode cX4_load 65 = .ok (.isub, 1) := by decide +kernel
theorem dX4_load_66 : decode cX4_load 66 = .ok (.iload 4, 2) := by decide +kernel
theorem dX4_load_68 : decode cX4_load 68 = .ok (.isub, 1) := by decide +kernel
theorem dX4_load_69 : decode cX4_load 69 = .ok (.imul, 1) := by decide +kernel
theorem dX4_load_70 : decode cX4_load 70 = .ok (.ishr, 1) := by decide +kernel
theorem dX4_load_71 : decode cX4_load 71 = .ok (.invokevirtual 48, 3) := by decide +kernel
theorem dX4_load_74 : decode cX4_load 74 = .ok (.iinc 4 1, 3) := by decide +kernel
theorem dX4_load_77 : decode cX4_load 77 = .ok (.goto (-31), 3) := by decide +kernel
theorem dX4_load_80 : decode cX4_load 80 = .ok (.iload_n 1, 1) := by decide +kernel
theorem dX4_load_81 : decode cX4_load 81 = .ok (.iload_n 3, 1) := by decide +kernel
theorem dX4_load_82 : decode cX4_load 82 = .ok (.iadd, 1) := by decide +kernel
theorem dX4_load_83 : decode cX4_load 83 = .ok (.ireturn, 1) := by decide +kernel
set_option maxRecDepth 20000 in
theorem ggX4_reset_X4_resetParts : GoodIn wsX4_reset wsX4_resetParts := goodIn_r _ [6, 7, 8, 1, 9, 10, 11, 12, 13, 14, 15, 16, 17, 18, 19, 20, 21, 22, 23, 24, 25, 26, 27, 28, 29, 30, 31, 32, 33, 34, 35, 41, 42, 43, 44, 45, 46, 47, 48, 49, 50, 51, 52, 53, 54, 55, 56, 57, 58, 59, 60, 61, 62] (by decide +kernel) (by decide +kernel)
set_option maxRecDepth 20000 in
theorem gX4_reset_X4_resetParts : GoodIn wsX4_reset (wsV RX4 52 RX4 yX4_resetParts wsX4_resetParts) := goodIn_app (goodIn_of _ (by decide +kernel)) ggX4_reset_X4_resetParts
set_option maxRecDepth 20000 in
theorem ggX4_reset_X0_beginAnew : GoodIn wsX4_reset wsX0_beginAnew := goodIn_r _ [39, 40, 60, 61, 62] (by decide +kernel) (by decide +kernel)
set_option maxRecDepth 20000 in
theorem gX4_reset_X0_beginAnew : GoodIn wsX4_reset (wsV RX4 55 RX0 yX0_beginAnew wsX0_beginAnew) := goodIn_app (goodIn_of _ (by decide +kernel)) ggX4_reset_X0_beginAnew
theorem dX4_reset_0 : decode cX4_reset 0 = .ok (.aload_n 0, 1) := by decide +kernel
theorem dX4_reset_1 : decode cX4_reset 1 = .ok (.invokevirtual 52, 3) := by decide +kernel
theorem dX4_reset_4 : decode cX4_reset 4 = .ok (.aload_n 0, 1) := by decide +kernel
theorem dX4_reset_5 : decode cX4_reset 5 = .ok (.getfield 35, 3) := by decide +kernel
theorem dX4_reset_8 : decode cX4_reset 8 = .ok (.invokevirtual 55, 3) := by decide +kernel
theorem dX4_reset_11 : decode cX4_reset 11 = .ok (.return_, 1) := by decide +kernel
set_option maxRecDepth 20000 in
theorem ggX4_input_X2_setInput : GoodIn wsX4_input wsX2_setInput := goodIn_r _ [8, 9, 14, 15, 16, 17, 18, 19] (by decide +kernel) (by decide +kernel)
set_option maxRecDepth 20000 in
theorem gX4_input_X2_setInput : GoodIn wsX4_input (wsV RX4 60 RX2 yX2_setInput wsX2_setInput) := goodIn_app (goodIn_of _ (by decide +kernel)) ggX4_input_X2_setInput
theorem dX4_input_0 : decode cX4_input 0 = .ok (.iload_n 1, 1) := by decide +kernel
theorem dX4_input_1 : decode cX4_input 1 = .ok (.ifCond .lt 8, 3) := by decide +kernel
theorem dX4_input_4 : decode cX4_input 4 = .ok (.iload_n 1, 1) := by decide +kernel
theorem dX4_input_5 : decode cX4_input 5 = .ok (.iconst 3, 1) := by decide +kernel
theorem dX4_input_6 : decode cX4_input 6 = .ok (.if_icmp .lt 13, 3) := by decide +kernel
theorem dX4_input_9 : decode cX4_input 9 = .ok (.new 39, 3) := by decide +kernel
theorem dX4_input_12 : decode cX4_input 12 = .ok (.dup, 1) := by decide +kernel
theorem dX4_input_13 : decode cX4_input 13 = .ok (.ldc 58, 2) := by decide +kernel
theorem dX4_input_15 : decode cX4_input 15 = .ok (.invokespecial 43, 3) := by decide +kernel
theorem dX4_input_18 : decode cX4_input 18 = .ok (.athrow, 1) := by decide +kernel
theorem dX4_input_19 : decode cX4_input 19 = .ok (.aload_n 0, 1) := by decide +kernel
theorem dX4_input_20 : decode cX4_input 20 = .ok (.getfield 19, 3) := by decide +kernel
theorem dX4_input_23 : decode cX4_input 23 = .ok (.iload_n 1, 1) := by decide +kernel
theorem dX4_input_24 : decode cX4_input 24 = .ok (.iload_n 2, 1) := by decide +kernel
theorem dX4_input_25 : decode cX4_input 25 = .ok (.invokevirtual 60, 3) := by decide +kernel
theorem dX4_input_28 : decode cX4_input 28 = .ok (.return_, 1) := by decide +kernel
set_option maxRecDepth 20000 in
theorem ggX4_step_X4_advance : GoodIn wsX4_step wsX4_advance := goodIn_r _ [5, 6, 7, 8, 9, 10, 11, 12, 13, 14, 15, 16, 17, 18, 19, 20, 21, 22, 23, 24, 25, 26, 27, 28, 29, 30, 31, 32, 33, 34, 35, 36, 37, 38, 39, 40, 41, 42, 43, 44, 45, 46, 47, 48, 49, 50, 51, 52, 53, 54, 55, 56, 57, 58, 59, 60, 61, 62, 63, 64, 65, 66, 67, 68, 69, 70, 71, 72, 73, 74, 75, 76, 77, 78, 79, 80, 81, 82, 83, 84, 85, 86, 87, 88, 89, 90, 91, 92, 93, 94, 95, 96, 97, 98, 99, 100, 101, 102, 103, 104, 105, 106, 107, 108, 109, 110, 111, 112, 113, 114, 115, 116, 117, 118, 119, 120, 121, 122, 123, 124, 125, 126, 127, 128, 129, 130, 131, 132, 133, 134, 135, 136, 137, 138, 139, 140, 141, 142, 143, 144, 145, 146, 147, 148, 149, 150, 151, 152, 153, 154, 155, 156, 157, 158, 159, 160, 161, 162, 163, 164, 165, 166, 167, 168, 169, 170, 171, 172, 173, 174, 175, 176, 177, 178, 179, 180, 181, 182, 183, 184, 185, 186, 187, 188, 189, 190, 191, 192, 193, 194, 195, 196, 197, 198, 199, 200, 201, 202, 203, 204, 205, 206, 207, 208, 209, 210, 211, 212, 213, 214, 215, 216, 217, 218, 219, 220, 221, 222, 223, 224, 225, 226, 227, 228, 229, 230, 231, 232, 233, 234, 235, 236, 237, 238, 239, 240, 241, 242, 243, 244, 245, 246, 247, 4, 248, 249, 250, 251, 252, 253, 254, 255, 256, 257, 258, 259, 260, 261, 262, 263, 264, 265, 266, 267, 268, 269, 270, 271, 272, 273, 274, 275, 276, 277, 278, 279, 280, 281, 282, 283, 284] (by decide +kernel) (by decide +kernel)
set_option maxRecDepth 20000 in
theorem gX4_step_X4_advance : GoodIn wsX4_step (wsV RX4 63 RX4 yX4_advance wsX4_advance) := goodIn_app (goodIn_of _ (by decide +kernel)) ggX4_step_X4_advance
theorem dX4_step_0 : decode cX4_step 0 = .ok (.aload_n 0, 1) := by decide +kernel
theorem dX4_step_1 : decode cX4_step 1 = .ok (.iconst 1, 1) := by decide +kernel
theorem dX4_step_2 : decode cX4_step 2 = .ok (.invokevirtual 63, 3) := by decide +kernel
theorem dX4_step_5 : decode cX4_step 5 = .ok (.ireturn, 1) := by decide +kernel
set_option maxRecDepth 20000 in
theorem ggX4_run_X4_advance : GoodIn wsX4_run wsX4_advance := goodIn_r _ [8, 9, 10, 11, 12, 13, 14, 15, 16, 17, 18, 19, 20, 21, 22, 23, 24, 25, 26, 27, 28, 29, 30, 31, 32, 33, 34, 35, 36, 37, 38, 39, 40, 41, 42, 43, 44, 45, 46, 47, 48, 49, 50, 51, 52, 53, 54, 55, 56, 57, 58, 59, 60, 61, 62, 63, 64, 65, 66, 67, 68, 69, 70, 71, 72, 73, 74, 75, 76, 77, 78, 79, 80, 81, 82, 83, 84, 85, 86, 87, 88, 89, 90, 91, 92, 93, 94, 95, 96, 97, 98, 99, 100, 101, 102, 103, 104, 105, 106, 107, 108, 109, 110, 111, 112, 113, 114, 115, 116, 117, 118, 119, 120, 121, 122, 123, 124, 125, 126, 127, 128, 129, 130, 131, 132, 133, 134, 135, 136, 137, 138, 139, 140, 141, 142, 143, 144, 145, 146, 147, 148, 149, 150, 151, 152, 153, 154, 155, 156, 157, 158, 159, 160, 161, 162, 163, 164, 165, 166, 167, 168, 169, 170, 171, 172, 173, 174, 175, 176, 177, 178, 179, 180, 181, 182, 183, 184, 185, 186, 187, 188, 189, 190, 191, 192, 193, 194, 195, 196, 197, 198, 199, 200, 201, 202, 203, 204, 205, 206, 207, 208, 209, 210, 211, 212, 213, 214, 215, 216, 217, 218, 219, 220, 221, 222, 223, 224, 225, 226, 227, 228, 229, 230, 231, 232, 233, 234, 235, 236, 237, 238, 239, 240, 241, 242, 243, 244, 245, 246, 247, 248, 249, 250, 7, 251, 252, 253, 254, 255, 256, 257, 258, 259, 260, 261, 262, 263, 264, 265, 266, 267, 268, 269, 270, 271, 272, 273, 274, 275, 276, 277, 278, 279, 280, 281, 282, 283, 284, 285, 286, 287] (by decide +kernel) (by decide +kernel)
set_option maxRecDepth 20000 in
theorem gX4_run_X4_advance : GoodIn wsX4_run (wsV RX4 63 RX4 yX4_advance wsX4_advance) := goodIn_app (goodIn_of _ (by decide +kernel)) ggX4_run_X4_advance
theorem dX4_run_0 : decode cX4_run 0 = .ok (.iload_n 1, 1) := by decide +kernel
theorem dX4_run_1 : decode cX4_run 1 = .ok (.iconst 1, 1) := by decide +kernel
theorem dX4_run_2 : decode cX4_run 2 = .ok (.if_icmp .lt 9, 3) := by decide +kernel
theorem dX4_run_5 : decode cX4_run 5 = .ok (.iload_n 1, 1) := by decide +kernel
theorem dX4_run_6 : decode cX4_run 6 = .ok (.ldc 67, 2) := by decide +kernel
theorem dX4_run_8 : decode cX4_run 8 = .ok (.if_icmp .le 13, 3) := by decide +kernel
theorem dX4_run_11 : decode cX4_run 11 = .ok (.new 39, 3) := by decide +kernel
theorem dX4_run_14 : decode cX4_run 14 = .ok (.dup, 1) := by decide +kernel
theorem dX4_run_15 : decode cX4_run 15 = .ok (.ldc 68, 2) := by decide +kernel
theorem dX4_run_17 : decode cX4_run 17 = .ok (.invokespecial 43, 3) := by decide +kernel
theorem dX4_run_20 : decode cX4_run 20 = .ok (.athrow, 1) := by decide +kernel
theorem dX4_run_21 : decode cX4_run 21 = .ok (.iconst 0, 1) := by decide +kernel
theorem dX4_run_22 : decode cX4_run 22 = .ok (.istore_n 2, 1) := by decide +kernel
theorem dX4_run_23 : decode cX4_run 23 = .ok (.iconst 0, 1) := by decide +kernel
theorem dX4_run_24 : decode cX4_run 24 = .ok (.istore_n 3, 1) := by decide +kernel
theorem dX4_run_25 : decode cX4_run 25 = .ok (.iload_n 3, 1) := by decide +kernel
theorem dX4_run_26 : decode cX4_run 26 = .ok (.ldc 67, 2) := by decide +kernel
theorem dX4_run_28 : decode cX4_run 28 = .ok (.if_icmp .ge 24, 3) := by decide +kernel
theorem dX4_run_31 : decode cX4_run 31 = .ok (.iload_n 2, 1) := by decide +kernel
theorem dX4_run_32 : decode cX4_run 32 = .ok (.iload_n 1, 1) := by decide +kernel
theorem dX4_run_33 : decode cX4_run 33 = .ok (.if_icmp .ge 19, 3) := by decide +kernel
theorem dX4_run_36 : decode cX4_run 36 = .ok (.iload_n 2, 1) := by decide +kernel
theorem dX4_run_37 : decode cX4_run 37 = .ok (.aload_n 0, 1) := by decide +kernel
theorem dX4_run_38 : decode cX4_run 38 = .ok (.iload_n 1, 1) := by decide +kernel
theorem dX4_run_39 : decode cX4_run 39 = .ok (.iload_n 2, 1) := by decide +kernel
theorem dX4_run_40 : decode cX4_run 40 = .ok (.isub, 1) := by decide +kernel
theorem dX4_run_41 : decode cX4_run 41 = .ok (.invokevirtual 63, 3) := by decide +kernel
theorem dX4_run_44 : decode cX4_run 44 = .ok (.iadd, 1) := by decide +kernel
theorem dX4_run_45 : decode cX4_run 45 = .ok (.istore_n 2, 1) := by decide +kernel
theorem dX4_run_46 : decode cX4_run 46 = .ok (.iinc 3 1, 3) := by decide +kernel
theorem dX4_run_49 : decode cX4_run 49 = .ok (.goto (-24), 3) := by decide +kernel
theorem dX4_run_52 : decode cX4_run 52 = .ok (.iload_n 2, 1) := by decide +kernel
theorem dX4_run_53 : decode cX4_run 53 = .ok (.ireturn, 1) := by decide +kernel
set_option maxRecDepth 20000 in
theorem ggX4_register_X3_contentOf : GoodIn wsX4_register wsX3_contentOf := goodIn_r _ [8, 9, 10, 11, 12, 13, 14, 19, 20, 21, 22, 23, 24, 25, 26, 27] (by decide +kernel) (by decide +kernel)
set_option maxRecDepth 20000 in
theorem gX4_register_X3_contentOf : GoodIn wsX4_register (wsV RX4 72 RX3 yX3_contentOf wsX3_contentOf) := goodIn_app (goodIn_of _ (by decide +kernel)) ggX4_register_X3_contentOf
theorem dX4_register_0 : decode cX4_register 0 = .ok (.iload_n 1, 1) := by decide +kernel
theorem dX4_register_1 : decode cX4_register 1 = .ok (.ifCond .lt 9, 3) := by decide +kernel
theorem dX4_register_4 : decode cX4_register 4 = .ok (.iload_n 1, 1) := by decide +kernel
theorem dX4_register_5 : decode cX4_register 5 = .ok (.bipush 11, 2) := by decide +kernel
theorem dX4_register_7 : decode cX4_register 7 = .ok (.if_icmp .le 13, 3) := by decide +kernel
theorem dX4_register_10 : decode cX4_register 10 = .ok (.new 39, 3) := by decide +kernel
theorem dX4_register_13 : decode cX4_register 13 = .ok (.dup, 1) := by decide +kernel
theorem dX4_register_14 : decode cX4_register 14 = .ok (.ldc 70, 2) := by decide +kernel
theorem dX4_register_16 : decode cX4_register 16 = .ok (.invokespecial 43, 3) := by decide +kernel
theorem dX4_register_19 : decode cX4_register 19 = .ok (.athrow, 1) := by decide +kernel
theorem dX4_register_20 : decode cX4_register 20 = .ok (.aload_n 0, 1) := by decide +kernel
theorem dX4_register_21 : decode cX4_register 21 = .ok (.getfield 28, 3) := by decide +kernel
theorem dX4_register_24 : decode cX4_register 24 = .ok (.iload_n 1, 1) := by decide +kernel
theorem dX4_register_25 : decode cX4_register 25 = .ok (.invokevirtual 72, 3) := by decide +kernel
theorem dX4_register_28 : decode cX4_register 28 = .ok (.ireturn, 1) := by decide +kernel
set_option maxRecDepth 20000 in
theorem ggX4_memory_X1_read : GoodIn wsX4_memory wsX1_read := goodIn_r _ [6, 7, 8, 9, 14, 15] (by decide +kernel) (by decide +kernel)
set_option maxRecDepth 20000 in
theorem gX4_memory_X1_read : GoodIn wsX4_memory (wsV RX4 75 RX1 yX1_read wsX1_read) := goodIn_app (goodIn_of _ (by decide +kernel)) ggX4_memory_X1_read
theorem dX4_memory_0 : decode cX4_memory 0 = .ok (.aload_n 0, 1) := by decide +kernel
theorem dX4_memory_1 : decode cX4_memory 1 = .ok (.getfield 10, 3) := by decide +kernel
theorem dX4_memory_4 : decode cX4_memory 4 = .ok (.iload_n 1, 1) := by decide +kernel
theorem dX4_memory_5 : decode cX4_memory 5 = .ok (.invokevirtual 75, 3) := by decide +kernel
theorem dX4_memory_8 : decode cX4_memory 8 = .ok (.ireturn, 1) := by decide +kernel
set_option maxRecDepth 20000 in
theorem ggX4_poke_X1_write : GoodIn wsX4_poke wsX1_write := goodIn_r _ [6, 7, 18, 19] (by decide +kernel) (by decide +kernel)
set_option maxRecDepth 20000 in
theorem gX4_poke_X1_write : GoodIn wsX4_poke (wsV RX4 78 RX1 yX1_write wsX1_write) := goodIn_app (goodIn_of _ (by decide +kernel)) ggX4_poke_X1_write
set_option maxRecDepth 20000 in
theorem ggX4_poke_X1_read : GoodIn wsX4_poke wsX1_read := goodIn_r _ [11, 7, 12, 13, 18, 19] (by decide +kernel) (by decide +kernel)
set_option maxRecDepth 20000 in
theorem gX4_poke_X1_read : GoodIn wsX4_poke (wsV RX4 75 RX1 yX1_read wsX1_read) := goodIn_app (goodIn_of _ (by decide +kernel)) ggX4_poke_X1_read
theorem dX4_poke_0 : decode cX4_poke 0 = .ok (.aload_n 0, 1) := by decide +kernel
theorem dX4_poke_1 : decode cX4_poke 1 = .ok (.getfield 10, 3) := by decide +kernel
theorem dX4_poke_4 : decode cX4_poke 4 = .ok (.iload_n 1, 1) := by decide +kernel
theorem dX4_poke_5 : decode cX4_poke 5 = .ok (.iload_n 2, 1) := by decide +kernel
theorem dX4_poke_6 : decode cX4_poke 6 = .ok (.invokevirtual 78, 3) := by decide +kernel
theorem dX4_poke_9 : decode cX4_poke 9 = .ok (.aload_n 0, 1) := by decide +kernel
theorem dX4_poke_10 : decode cX4_poke 10 = .ok (.getfield 10, 3) := by decide +kernel
theorem dX4_poke_13 : decode cX4_poke 13 = .ok (.iload_n 1, 1) := by decide +kernel
theorem dX4_poke_14 : decode cX4_poke 14 = .ok (.invokevirtual 75, 3) := by decide +kernel
theorem dX4_poke_17 : decode cX4_poke 17 = .ok (.ireturn, 1) := by decide +kernel
set_option maxRecDepth 20000 in
theorem ggX4_dot_X1_dotsInColumn : GoodIn wsX4_dot wsX1_dotsInColumn := goodIn_r _ [8, 9, 10, 11, 12, 13, 14, 15, 16, 17, 18, 7, 19, 20, 21, 22, 23, 24, 25, 26, 27, 28, 29, 34, 35] (by decide +kernel) (by decide +kernel)
set_option maxRecDepth 20000 in
theorem gX4_dot_X1_dotsInColumn : GoodIn wsX4_dot (wsV RX4 86 RX1 yX1_dotsInColumn wsX1_dotsInColumn) := goodIn_app (goodIn_of _ (by decide +kernel)) ggX4_dot_X1_dotsInColumn
theorem dX4_dot_0 : decode cX4_dot 0 = .ok (.iload_n 1, 1) := by decide +kernel
theorem dX4_dot_1 : decode cX4_dot 1 = .ok (.ifCond .lt 21, 3) := by decide +kernel
theorem dX4_dot_4 : decode cX4_dot 4 = .ok (.iload_n 1, 1) := by decide +kernel
theorem dX4_dot_5 : decode cX4_dot 5 = .ok (.sipush 224, 3) := by decide +kernel
theorem dX4_dot_8 : decode cX4_dot 8 = .ok (.if_icmp .ge 14, 3) := by decide +kernel
theorem dX4_dot_11 : decode cX4_dot 11 = .ok (.iload_n 2, 1) := by decide +kernel
theorem dX4_dot_12 : decode cX4_dot 12 = .ok (.ifCond .lt 10, 3) := by decide +kernel
theorem dX4_dot_15 : decode cX4_dot 15 = .ok (.iload_n 2, 1) := by decide +kernel
theorem dX4_dot_16 : decode cX4_dot 16 = .ok (.sipush 256, 3) := by decide +kernel
theorem dX4_dot_19 : decode cX4_dot 19 = .ok (.if_icmp .lt 13, 3) := by decide +kernel
theorem dX4_dot_22 : decode cX4_dot 22 = .ok (.new 81, 3) := by decide +kernel
theorem dX4_dot_25 : decode cX4_dot 25 = .ok (.dup, 1) := by decide +kernel
theorem dX4_dot_26 : decode cX4_dot 26 = .ok (.ldc 83, 2) := by decide +kernel
theorem dX4_dot_28 : decode cX4_dot 28 = .ok (.invokespecial 85, 3) := by decide +kernel
theorem dX4_dot_31 : decode cX4_dot 31 = .ok (.athrow, 1) := by decide +kernel
theorem dX4_dot_32 : decode cX4_dot 32 = .ok (.aload_n 0, 1) := by decide +kernel
theorem dX4_dot_33 : decode cX4_dot 33 = .ok (.getfield 10, 3) := by decide +kernel
theorem dX4_dot_36 : decode cX4_dot 36 = .ok (.iload_n 1, 1) := by decide +kernel
theorem dX4_dot_37 : decode cX4_dot 37 = .ok (.iload_n 2, 1) := by decide +kernel
theorem dX4_dot_38 : decode cX4_dot 38 = .ok (.iload_n 2, 1) := by decide +kernel
theorem dX4_dot_39 : decode cX4_dot 39 = .ok (.iconst 1, 1) := by decide +kernel
theorem dX4_dot_40 : decode cX4_dot 40 = .ok (.iadd, 1) := by decide +kernel
theorem dX4_dot_41 : decode cX4_dot 41 = .ok (.invokevirtual 86, 3) := by decide +kernel
theorem dX4_dot_44 : decode cX4_dot 44 = .ok (.ireturn, 1) := by decide +kernel
set_option maxRecDepth 20000 in
theorem ggX4_lit_X4_onScreen : GoodIn wsX4_lit wsX4_onScreen := goodIn_r _ [5, 6, 7, 8, 9, 10, 11, 12] (by decide +kernel) (by decide +kernel)
set_option maxRecDepth 20000 in
theorem gX4_lit_X4_onScreen : GoodIn wsX4_lit (va_wsS RX4 90 yX4_onScreen wsX4_onScreen) := goodIn_app (goodIn_of _ (by decide +kernel)) ggX4_lit_X4_onScreen
set_option maxRecDepth 20000 in
theorem ggX4_lit_X1_dotsInColumn : GoodIn wsX4_lit wsX1_dotsInColumn := goodIn_r _ [17, 18, 19, 8, 20, 21, 22, 23, 24, 25, 26, 16, 27, 28, 29, 30, 31, 32, 33, 34, 35, 36, 37, 42, 43] (by decide +kernel) (by decide +kernel)
set_option maxRecDepth 20000 in
theorem gX4_lit_X1_dotsInColumn : GoodIn wsX4_lit (wsV RX4 86 RX1 yX1_dotsInColumn wsX1_dotsInColumn) := goodIn_app (goodIn_of _ (by decide +kernel)) ggX4_lit_X1_dotsInColumn
theorem dX4_lit_0 : decode cX4_lit 0 = .ok (.iload_n 1, 1) := by decide +kernel
theorem dX4_lit_1 : decode cX4_lit 1 = .ok (.i2l, 1) := by decide +kernel
theorem dX4_lit_2 : decode cX4_lit 2 = .ok (.sipush 224, 3) := by decide +kernel
theorem dX4_lit_5 : decode cX4_lit 5 = .ok (.invokestatic 90, 3) := by decide +kernel
theorem dX4_lit_8 : decode cX4_lit 8 = .ok (.istore 5, 2) := by decide +kernel
theorem dX4_lit_10 : decode cX4_lit 10 = .ok (.iload_n 1, 1) := by decide +kernel
theorem dX4_lit_11 : decode cX4_lit 11 = .ok (.i2l, 1) := by decide +kernel
theorem dX4_lit_12 : decode cX4_lit 12 = .ok (.iload_n 3, 1) := by decide +kernel
theorem dX4_lit_13 : decode cX4_lit 13 = .ok (.i2l, 1) := by decide +kernel
theorem dX4_lit_14 : decode cX4_lit 14 = .ok (.ladd, 1) := by decide +kernel
theorem dX4_lit_15 : decode cX4_lit 15 = .ok (.sipush 224, 3) := by decide +kernel
theorem dX4_lit_18 : decode cX4_lit 18 = .ok (.invokestatic 90, 3) := by decide +kernel
theorem dX4_lit_21 : decode cX4_lit 21 = .ok (.istore 6, 2) := by decide +kernel
theorem dX4_lit_23 : decode cX4_lit 23 = .ok (.iload_n 2, 1) := by decide +kernel
theorem dX4_lit_24 : decode cX4_lit 24 = .ok (.i2l, 1) := by decide +kernel
theorem dX4_lit_25 : decode cX4_lit 25 = .ok (.sipush 256, 3) := by decide +kernel
theorem dX4_lit_28 : decode cX4_lit 28 = .ok (.invokestatic 90, 3) := by decide +kernel
theorem dX4_lit_31 : decode cX4_lit 31 = .ok (.istore 7, 2) := by decide +kernel
theorem dX4_lit_33 : decode cX4_lit 33 = .ok (.iload_n 2, 1) := by decide +kernel
theorem dX4_lit_34 : decode cX4_lit 34 = .ok (.i2l, 1) := by decide +kernel
theorem dX4_lit_35 : decode cX4_lit 35 = .ok (.iload 4, 2) := by decide +kernel
theorem dX4_lit_37 : decode cX4_lit 37 = .ok (.i2l, 1) := by decide +kernel
theorem dX4_lit_38 : decode cX4_lit 38 = .ok (.ladd, 1) := by decide +kernel
theorem dX4_lit_39 : decode cX4_lit 39 = .ok (.sipush 256, 3) := by decide +kernel
theorem dX4_lit_42 : decode cX4_lit 42 = .ok (.invokestatic 90, 3) := by decide +kernel
theorem dX4_lit_45 : decode cX4_lit 45 = .ok (.istore 8, 2) := by decide +kernel
theorem dX4_lit_47 : decode cX4_lit 47 = .ok (.iconst 0, 1) := by decide +kernel
theorem dX4_lit_48 : decode cX4_lit 48 = .ok (.istore 9, 2) := by decide +kernel
theorem dX4_lit_50 : decode cX4_lit 50 = .ok (.iload 5, 2) := by decide +kernel
theorem dX4_lit_52 : decode cX4_lit 52 = .ok (.istore 10, 2) := by decide +kernel
theorem dX4_lit_54 : decode cX4_lit 54 = .ok (.iload 10, 2) := by decide +kernel
theorem dX4_lit_56 : decode cX4_lit 56 = .ok (.iload 6, 2) := by decide +kernel
theorem dX4_lit_58 : decode cX4_lit 58 = .ok (.if_icmp .ge 27, 3) := by decide +kernel
theorem dX4_lit_61 : decode cX4_lit 61 = .ok (.iload 9, 2) := by decide +kernel
theorem dX4_lit_63 : decode cX4_lit 63 = .ok (.aload_n 0, 1) := by decide +kernel
theorem dX4_lit_64 : decode cX4_lit 64 = .ok (.getfield 10, 3) := by decide +kernel
theorem dX4_lit_67 : decode cX4_lit 67 = .ok (.iload 10, 2) := by decide +kernel
theorem dX4_lit_69 : decode cX4_lit 69 = .ok (.iload 7, 2) := by decide +kernel
theorem dX4_lit_71 : decode cX4_lit 71 = .ok (.iload 8, 2) := by decide +kernel
theorem dX4_lit_73 : decode cX4_lit 73 = .ok (.invokevirtual 86, 3) := by decide +kernel
theorem dX4_lit_76 : decode cX4_lit 76 = .ok (.iadd, 1) := by decide +kernel
theorem dX4_lit_77 : decode cX4_lit 77 = .ok (.istore 9, 2) := by decide +kernel
theorem dX4_lit_79 : decode cX4_lit 79 = .ok (.iinc 10 1, 3) := by decide +kernel
theorem dX4_lit_82 : decode cX4_lit 82 = .ok (.goto (-28), 3) := by decide +kernel
theorem dX4_lit_85 : decode cX4_lit 85 = .ok (.iload 9, 2) := by decide +kernel
theorem dX4_lit_87 : decode cX4_lit 87 = .ok (.ireturn, 1) := by decide +kernel
set_option maxRecDepth 20000 in
theorem ggX4_state_X2_latchOf : GoodIn wsX4_state wsX2_latchOf := goodIn_r _ [9, 10, 24, 25, 26, 27, 28, 29] (by decide +kernel) (by decide +kernel)
set_option maxRecDepth 20000 in
theorem gX4_state_X2_latchOf : GoodIn wsX4_state (wsV RX4 94 RX2 yX2_latchOf wsX2_latchOf) := goodIn_app (goodIn_of _ (by decide +kernel)) ggX4_state_X2_latchOf
set_option maxRecDepth 20000 in
theorem ggX4_state_X2_shifted : GoodIn wsX4_state wsX2_shifted := goodIn_r _ [14, 15, 16, 24, 25, 26, 27, 28, 29] (by decide +kernel) (by decide +kernel)
set_option maxRecDepth 20000 in
theorem gX4_state_X2_shifted : GoodIn wsX4_state (wsV RX4 110 RX2 yX2_shifted wsX2_shifted) := goodIn_app (goodIn_of _ (by decide +kernel)) ggX4_state_X2_shifted
theorem dX4_state_0 : decode cX4_state 0 = .ok (.iload_n 1, 1) := by decide +kernel
theorem dX4_state_1 : decode cX4_state 1 = .ok (.tableswitch 101 0 6 #[43, 52, 61, 69, 77, 85, 93], 43) := by decide +kernel
theorem dX4_state_44 : decode cX4_state 44 = .ok (.aload_n 0, 1) := by decide +kernel
theorem dX4_state_45 : decode cX4_state 45 = .ok (.getfield 19, 3) := by decide +kernel
theorem dX4_state_48 : decode cX4_state 48 = .ok (.iconst 0, 1) := by decide +kernel
theorem dX4_state_49 : decode cX4_state 49 = .ok (.invokevirtual 94, 3) := by decide +kernel
theorem dX4_state_52 : decode cX4_state 52 = .ok (.ireturn, 1) := by decide +kernel
theorem dX4_state_53 : decode cX4_state 53 = .ok (.aload_n 0, 1) := by decide +kernel
theorem dX4_state_54 : decode cX4_state 54 = .ok (.getfield 19, 3) := by decide +kernel
theorem dX4_state_57 : decode cX4_state 57 = .ok (.iconst 1, 1) := by decide +kernel
theorem dX4_state_58 : decode cX4_state 58 = .ok (.invokevirtual 94, 3) := by decide +kernel
theorem dX4_state_61 : decode cX4_state 61 = .ok (.ireturn, 1) := by decide +kernel
theorem dX4_state_62 : decode cX4_state 62 = .ok (.aload_n 0, 1) := by decide +kernel
theorem dX4_state_63 : decode cX4_state 63 = .ok (.getfield 35, 3) := by decide +kernel
theorem dX4_state_66 : decode cX4_state 66 = .ok (.getfield 97, 3) := by decide +kernel
theorem dX4_state_69 : decode cX4_state 69 = .ok (.ireturn, 1) := by decide +kernel
theorem dX4_state_70 : decode cX4_state 70 = .ok (.aload_n 0, 1) := by decide +kernel
theorem dX4_state_71 : decode cX4_state 71 = .ok (.getfield 35, 3) := by decide +kernel
theorem dX4_state_74 : decode cX4_state 74 = .ok (.getfield 101, 3) := by decide +kernel
theorem dX4_state_77 : decode cX4_state 77 = .ok (.ireturn, 1) := by decide +kernel
theorem dX4_state_78 : decode cX4_state 78 = .ok (.aload_n 0, 1) := by decide +kernel
theorem dX4_state_79 : decode cX4_state 79 = .ok (.getfield 35, 3) := by decide +kernel
theorem dX4_state_82 : decode cX4_state 82 = .ok (.getfield 104, 3) := by decide +kernel
theorem dX4_state_85 : decode cX4_state 85 = .ok (.ireturn, 1) := by decide +kernel
theorem dX4_state_86 : decode cX4_state 86 = .ok (.aload_n 0, 1) := by decide +kernel
theorem dX4_state_87 : decode cX4_state 87 = .ok (.getfield 19, 3) := by decide +kernel
theorem dX4_state_90 : decode cX4_state 90 = .ok (.getfield 107, 3) := by decide +kernel
theorem dX4_state_93 : decode cX4_state 93 = .ok (.ireturn, 1) := by decide +kernel
theorem dX4_state_94 : decode cX4_state 94 = .ok (.aload_n 0, 1) := by decide +kernel
theorem dX4_state_95 : decode cX4_state 95 = .ok (.getfield 19, 3) := by decide +kernel
theorem dX4_state_98 : decode cX4_state 98 = .ok (.invokevirtual 110, 3) := by decide +kernel
theorem dX4_state_101 : decode cX4_state 101 = .ok (.ireturn, 1) := by decide +kernel
theorem dX4_state_102 : decode cX4_state 102 = .ok (.new 39, 3) := by decide +kernel
theorem dX4_state_105 : decode cX4_state 105 = .ok (.dup, 1) := by decide +kernel
theorem dX4_state_106 : decode cX4_state 106 = .ok (.ldc 114, 2) := by decide +kernel
theorem dX4_state_108 : decode cX4_state 108 = .ok (.invokespecial 43, 3) := by decide +kernel
theorem dX4_state_111 : decode cX4_state 111 = .ok (.athrow, 1) := by decide +kernel
set_option maxRecDepth 20000 in
theorem ggX4_sounds_X2_risesOf : GoodIn wsX4_sounds wsX2_risesOf := goodIn_r _ [8, 9, 14, 15, 16, 17, 18, 19] (by decide +kernel) (by decide +kernel)
set_option maxRecDepth 20000 in
theorem gX4_sounds_X2_risesOf : GoodIn wsX4_sounds (wsV RX4 118 RX2 yX2_risesOf wsX2_risesOf) := goodIn_app (goodIn_of _ (by decide +kernel)) ggX4_sounds_X2_risesOf
theorem dX4_sounds_0 : decode cX4_sounds 0 = .ok (.iload_n 1, 1) := by decide +kernel
theorem dX4_sounds_1 : decode cX4_sounds 1 = .ok (.ifCond .lt 9, 3) := by decide +kernel
theorem dX4_sounds_4 : decode cX4_sounds 4 = .ok (.iload_n 1, 1) := by decide +kernel
theorem dX4_sounds_5 : decode cX4_sounds 5 = .ok (.bipush 16, 2) := by decide +kernel
theorem dX4_sounds_7 : decode cX4_sounds 7 = .ok (.if_icmp .lt 13, 3) := by decide +kernel
theorem dX4_sounds_10 : decode cX4_sounds 10 = .ok (.new 39, 3) := by decide +kernel
theorem dX4_sounds_13 : decode cX4_sounds 13 = .ok (.dup, 1) := by decide +kernel
theorem dX4_sounds_14 : decode cX4_sounds 14 = .ok (.ldc 116, 2) := by decide +kernel
theorem dX4_sounds_16 : decode cX4_sounds 16 = .ok (.invokespecial 43, 3) := by decide +kernel
theorem dX4_sounds_19 : decode cX4_sounds 19 = .ok (.athrow, 1) := by decide +kernel
theorem dX4_sounds_20 : decode cX4_sounds 20 = .ok (.aload_n 0, 1) := by decide +kernel
theorem dX4_sounds_21 : decode cX4_sounds 21 = .ok (.getfield 19, 3) := by decide +kernel
theorem dX4_sounds_24 : decode cX4_sounds 24 = .ok (.iload_n 1, 1) := by decide +kernel
theorem dX4_sounds_25 : decode cX4_sounds 25 = .ok (.invokevirtual 118, 3) := by decide +kernel
theorem dX4_sounds_28 : decode cX4_sounds 28 = .ok (.ireturn, 1) := by decide +kernel
set_option maxRecDepth 20000 in
theorem ggX4_advance_X0_takeWaiting : GoodIn wsX4_advance wsX0_takeWaiting := goodIn_r _ [12, 13, 270, 271, 272] (by decide +kernel) (by decide +kernel)
set_option maxRecDepth 20000 in
theorem gX4_advance_X0_takeWaiting : GoodIn wsX4_advance (wsV RX4 125 RX0 yX0_takeWaiting wsX0_takeWaiting) := goodIn_app (goodIn_of _ (by decide +kernel)) ggX4_advance_X0_takeWaiting
set_option maxRecDepth 20000 in
theorem ggX4_advance_X3_takeRequest : GoodIn wsX4_advance wsX3_takeRequest := goodIn_r _ [18, 19, 20, 21, 22, 23, 24, 17, 25, 26, 27, 28, 29, 30, 31, 32, 33, 34, 35, 36, 37, 38, 261, 262, 263, 264, 265, 266, 267, 268, 269, 273, 274] (by decide +kernel) (by decide +kernel)
set_option maxRecDepth 20000 in
theorem gX4_advance_X3_takeRequest : GoodIn wsX4_advance (wsV RX4 128 RX3 yX3_takeRequest wsX3_takeRequest) := goodIn_app (goodIn_of _ (by decide +kernel)) ggX4_advance_X3_takeRequest
set_option maxRecDepth 20000 in
theorem ggX4_advance_X0_untilRequest : GoodIn wsX4_advance wsX0_untilRequest := goodIn_r _ [42, 43, 44, 270, 271, 272] (by decide +kernel) (by decide +kernel)
set_option maxRecDepth 20000 in
theorem gX4_advance_X0_untilRequest : GoodIn wsX4_advance (wsV RX4 134 RX0 yX0_untilRequest wsX0_untilRequest) := goodIn_app (goodIn_of _ (by decide +kernel)) ggX4_advance_X0_untilRequest
set_option maxRecDepth 20000 in
theorem ggX4_advance_X3_execute : GoodIn wsX4_advance wsX3_execute := goodIn_r _ [48, 49, 50, 19, 51, 52, 53, 17, 54, 28, 21, 27, 55, 56, 57, 32, 58, 38, 59, 60, 61, 62, 63, 64, 65, 66, 67, 68, 26, 69, 70, 71, 72, 73, 74, 75, 76, 77, 78, 79, 80, 81, 82, 83, 84, 85, 86, 87, 88, 89, 90, 91, 92, 93, 94, 95, 96, 97, 98, 99, 100, 101, 102, 103, 104, 35, 36, 37, 29, 30, 31, 33, 34, 105, 106, 107, 108, 109, 110, 111, 112, 113, 114, 115, 116, 117, 118, 119, 120, 121, 122, 123, 124, 125, 126, 127, 128, 129, 130, 131, 132, 133, 134, 135, 136, 137, 138, 139, 140, 141, 142, 143, 144, 145, 146, 20, 147, 148, 149, 150, 151, 152, 153, 154, 155, 156, 157, 158, 159, 160, 161, 162, 163, 164, 165, 166, 167, 168, 169, 170, 171, 172, 173, 174, 175, 176, 177, 178, 179, 180, 181, 182, 183, 184, 185, 186, 187, 188, 189, 190, 191, 192, 193, 194, 195, 196, 197, 198, 199, 200, 201, 202, 203, 204, 205, 206, 207, 208, 209, 210, 211, 212, 213, 214, 215, 216, 217, 218, 219, 220, 221, 222, 223, 224, 225, 226, 22, 23, 24, 25, 227, 228, 229, 230, 261, 262, 263, 264, 265, 266, 267, 268, 269, 273, 274, 275, 276, 277, 278, 279, 280] (by decide +kernel) (by decide +kernel)
set_option maxRecDepth 20000 in
theorem gX4_advance_X3_execute : GoodIn wsX4_advance (wsV RX4 143 RX3 yX3_execute wsX3_execute) := goodIn_app (goodIn_of _ (by decide +kernel)) ggX4_advance_X3_execute
set_option maxRecDepth 20000 in
theorem ggX4_advance_X0_pass : GoodIn wsX4_advance wsX0_pass := goodIn_r _ [234, 43, 13, 44, 235, 270, 271, 272] (by decide +kernel) (by decide +kernel)
set_option maxRecDepth 20000 in
theorem gX4_advance_X0_pass : GoodIn wsX4_advance (wsV RX4 146 RX0 yX0_pass wsX0_pass) := goodIn_app (goodIn_of _ (by decide +kernel)) ggX4_advance_X0_pass
set_option maxRecDepth 20000 in
theorem ggX4_advance_X2_endFrameUnfed : GoodIn wsX4_advance wsX2_endFrameUnfed := goodIn_r _ [239, 199, 275, 276, 277, 278, 279, 280] (by decide +kernel) (by decide +kernel)
set_option maxRecDepth 20000 in
theorem gX4_advance_X2_endFrameUnfed : GoodIn wsX4_advance (wsV RX4 150 RX2 yX2_endFrameUnfed wsX2_endFrameUnfed) := goodIn_app (goodIn_of _ (by decide +kernel)) ggX4_advance_X2_endFrameUnfed
set_option maxRecDepth 20000 in
theorem ggX4_advance_X4_resetParts : GoodIn wsX4_advance wsX4_resetParts := goodIn_r _ [244, 1, 7, 2, 245, 246, 247, 17, 248, 73, 86, 26, 21, 19, 49, 20, 249, 250, 251, 195, 252, 198, 197, 204, 199, 253, 254, 255, 11, 256, 13, 257, 258, 259, 260, 261, 262, 263, 264, 265, 266, 267, 268, 269, 275, 276, 277, 278, 279, 280, 270, 271, 272] (by decide +kernel) (by decide +kernel)
set_option maxRecDepth 20000 in
theorem gX4_advance_X4_resetParts : GoodIn wsX4_advance (wsV RX4 52 RX4 yX4_resetParts wsX4_resetParts) := goodIn_app (goodIn_of _ (by decide +kernel)) ggX4_advance_X4_resetParts
theorem dX4_advance_0 : decode cX4_advance 0 = .ok (.aload_n 0, 1) := by decide +kernel
theorem dX4_advance_1 : decode cX4_advance 1 = .ok (.getfield 28, 3) := by decide +kernel
theorem dX4_advance_4 : decode cX4_advance 4 = .ok (.getfield 121, 3) := by decide +kernel
theorem dX4_advance_7 : decode cX4_advance 7 = .ok (.ifCond .eq 31, 3) := by decide +kernel
theorem dX4_advance_10 : decode cX4_advance 10 = .ok (.aload_n 0, 1) := by decide +kernel
theorem dX4_advance_11 : decode cX4_advance 11 = .ok (.getfield 35, 3) := by decide +kernel
theorem dX4_advance_14 : decode cX4_advance 14 = .ok (.getfield 104, 3) := by decide +kernel
theorem dX4_advance_17 : decode cX4_advance 17 = .ok (.ifCond .eq 21, 3) := by decide +kernel
theorem dX4_advance_20 : decode cX4_advance 20 = .ok (.aload_n 0, 1) := by decide +kernel
theorem dX4_advance_21 : decode cX4_advance 21 = .ok (.getfield 28, 3) := by decide +kernel
theorem dX4_advance_24 : decode cX4_advance 24 = .ok (.aload_n 0, 1) := by decide +kernel
theorem dX4_advance_25 : decode cX4_advance 25 = .ok (.getfield 35, 3) := by decide +kernel
theorem dX4_advance_28 : decode cX4_advance 28 = .ok (.invokevirtual 125, 3) := by decide +kernel
theorem dX4_advance_31 : decode cX4_advance 31 = .ok (.invokevirtual 128, 3) := by decide +kernel
theorem dX4_advance_34 : decode cX4_advance 34 = .ok (.istore_n 2, 1) := by decide +kernel
theorem dX4_advance_35 : decode cX4_advance 35 = .ok (.goto 36, 3) := by decide +kernel
theorem dX4_advance_38 : decode cX4_advance 38 = .ok (.aload_n 0, 1) := by decide +kernel
theorem dX4_advance_39 : decode cX4_advance 39 = .ok (.getfield 28, 3) := by decide +kernel
theorem dX4_advance_42 : decode cX4_advance 42 = .ok (.getfield 131, 3) := by decide +kernel
theorem dX4_advance_45 : decode cX4_advance 45 = .ok (.ifCond .eq 18, 3) := by decide +kernel
theorem dX4_advance_48 : decode cX4_advance 48 = .ok (.iload_n 1, 1) := by decide +kernel
theorem dX4_advance_49 : decode cX4_advance 49 = .ok (.aload_n 0, 1) := by decide +kernel
theorem dX4_advance_50 : decode cX4_advance 50 = .ok (.getfield 35, 3) := by decide +kernel
theorem dX4_advance_53 : decode cX4_advance 53 = .ok (.invokevirtual 134, 3) := by decide +kernel
theorem dX4_advance_56 : decode cX4_advance 56 = .ok (.invokestatic 137, 3) := by decide +kernel
theorem dX4_advance_59 : decode cX4_advance 59 = .ok (.istore_n 2, 1) := by decide +kernel
theorem dX4_advance_60 : decode cX4_advance 60 = .ok (.goto 11, 3) := by decide +kernel
theorem dX4_advance_63 : decode cX4_advance 63 = .ok (.aload_n 0, 1) := by decide +kernel
theorem dX4_advance_64 : decode cX4_advance 64 = .ok (.getfield 28, 3) := by decide +kernel
theorem dX4_advance_67 : decode cX4_advance 67 = .ok (.invokevirtual 143, 3) := by decide +kernel
theorem dX4_advance_70 : decode cX4_advance 70 = .ok (.istore_n 2, 1) := by decide +kernel
theorem dX4_advance_71 : decode cX4_advance 71 = .ok (.aload_n 0, 1) := by decide +kernel
theorem dX4_advance_72 : decode cX4_advance 72 = .ok (.getfield 35, 3) := by decide +kernel
theorem dX4_advance_75 : decode cX4_advance 75 = .ok (.iload_n 2, 1) := by decide +kernel
theorem dX4_advance_76 : decode cX4_advance 76 = .ok (.invokevirtual 146, 3) := by decide +kernel
theorem dX4_advance_79 : decode cX4_advance 79 = .ok (.ifCond .eq 17, 3) := by decide +kernel
theorem dX4_advance_82 : decode cX4_advance 82 = .ok (.aload_n 0, 1) := by decide +kernel
theorem dX4_advance_83 : decode cX4_advance 83 = .ok (.getfield 19, 3) := by decide +kernel
theorem dX4_advance_86 : decode cX4_advance 86 = .ok (.invokevirtual 150, 3) := by decide +kernel
theorem dX4_advance_89 : decode cX4_advance 89 = .ok (.ifCond .eq 7, 3) := by decide +kernel
theorem dX4_advance_92 : decode cX4_advance 92 = .ok (.aload_n 0, 1) := by decide +kernel
theorem dX4_advance_93 : decode cX4_advance 93 = .ok (.invokevirtual 52, 3) := by decide +kernel
theorem dX4_advance_96 : decode cX4_advance 96 = .ok (.iload_n 2, 1) := by decide +kernel
theorem dX4_advance_97 : decode cX4_advance 97 = .ok (.ireturn, 1) := by decide +kernel
set_option maxRecDepth 20000 in
theorem ggX4_resetParts_X3_clear : GoodIn wsX4_resetParts wsX3_clear := goodIn_r _ [8, 9, 10, 11, 12, 13, 14, 15, 35, 36, 37, 38, 39, 40, 41, 42, 43] (by decide +kernel) (by decide +kernel)
set_option maxRecDepth 20000 in
theorem gX4_resetParts_X3_clear : GoodIn wsX4_resetParts (wsV RX4 154 RX3 yX3_clear wsX3_clear) := goodIn_app (goodIn_of _ (by decide +kernel)) ggX4_resetParts_X3_clear
set_option maxRecDepth 20000 in
theorem ggX4_resetParts_X2_clear : GoodIn wsX4_resetParts wsX2_clear := goodIn_r _ [20, 21, 22, 23, 24, 44, 45, 46, 47, 48, 49] (by decide +kernel) (by decide +kernel)
set_option maxRecDepth 20000 in
theorem gX4_resetParts_X2_clear : GoodIn wsX4_resetParts (wsV RX4 157 RX2 yX2_clear wsX2_clear) := goodIn_app (goodIn_of _ (by decide +kernel)) ggX4_resetParts_X2_clear
set_option maxRecDepth 20000 in
theorem ggX4_resetParts_X0_dropWaiting : GoodIn wsX4_resetParts wsX0_dropWaiting := goodIn_r _ [29, 30, 50, 51, 52] (by decide +kernel) (by decide +kernel)
set_option maxRecDepth 20000 in
theorem gX4_resetParts_X0_dropWaiting : GoodIn wsX4_resetParts (wsV RX4 158 RX0 yX0_dropWaiting wsX0_dropWaiting) := goodIn_app (goodIn_of _ (by decide +kernel)) ggX4_resetParts_X0_dropWaiting
theorem dX4_resetParts_0 : decode cX4_resetParts 0 = .ok (.aload_n 0, 1) := by decide +kernel
theorem dX4_resetParts_1 : decode cX4_resetParts 1 = .ok (.getfield 28, 3) := by decide +kernel
theorem dX4_resetParts_4 : decode cX4_resetParts 4 = .ok (.invokevirtual 154, 3) := by decide +kernel
theorem dX4_resetParts_7 : decode cX4_resetParts 7 = .ok (.aload_n 0, 1) := by decide +kernel
theorem dX4_resetParts_8 : decode cX4_resetParts 8 = .ok (.getfield 19, 3) := by decide +kernel
theorem dX4_resetParts_11 : decode cX4_resetParts 11 = .ok (.invokevirtual 157, 3) := by decide +kernel
theorem dX4_resetParts_14 : decode cX4_resetParts 14 = .ok (.aload_n 0, 1) := by decide +kernel
theorem dX4_resetParts_15 : decode cX4_resetParts 15 = .ok (.getfield 35, 3) := by decide +kernel
theorem dX4_resetParts_18 : decode cX4_resetParts 18 = .ok (.invokevirtual 158, 3) := by decide +kernel
theorem dX4_resetParts_21 : decode cX4_resetParts 21 = .ok (.return_, 1) := by decide +kernel
theorem dX4_onScreen_0 : decode cX4_onScreen 0 = .ok (.lconst 0, 1) := by decide +kernel
theorem dX4_onScreen_1 : decode cX4_onScreen 1 = .ok (.lload_n 0, 1) := by decide +kernel
theorem dX4_onScreen_2 : decode cX4_onScreen 2 = .ok (.iload_n 2, 1) := by decide +kernel
theorem dX4_onScreen_3 : decode cX4_onScreen 3 = .ok (.i2l, 1) := by decide +kernel
theorem dX4_onScreen_4 : decode cX4_onScreen 4 = .ok (.invokestatic 161, 3) := by decide +kernel
theorem dX4_onScreen_7 : decode cX4_onScreen 7 = .ok (.invokestatic 164, 3) := by decide +kernel
theorem dX4_onScreen_10 : decode cX4_onScreen 10 = .ok (.l2i, 1) := by decide +kernel
theorem dX4_onScreen_11 : decode cX4_onScreen 11 = .ok (.ireturn, 1) := by decide +kernel
end
section
theorem dX5_init_0 : decode cX5_init 0 = .ok (.aload_n 0, 1) := by decide +kernel
theorem dX5_init_1 : decode cX5_init 1 = .ok (.invokespecial 1, 3) := by decide +kernel
theorem dX5_init_4 : decode cX5_init 4 = .ok (.aload_n 0, 1) := by decide +kernel
theorem dX5_init_5 : decode cX5_init 5 = .ok (.sipush 2048, 3) := by decide +kernel
theorem dX5_init_8 : decode cX5_init 8 = .ok (.newarray .int, 2) := by decide +kernel
theorem dX5_init_10 : decode cX5_init 10 = .ok (.putfield 7, 3) := by decide +kernel
theorem dX5_init_13 : decode cX5_init 13 = .ok (.aload_n 0, 1) := by decide +kernel
theorem dX5_init_14 : decode cX5_init 14 = .ok (.sipush 8192, 3) := by decide +kernel
theorem dX5_init_17 : decode cX5_init 17 = .ok (.newarray .int, 2) := by decide +kernel
theorem dX5_init_19 : decode cX5_init 19 = .ok (.putfield 13, 3) := by decide +kernel
theorem dX5_init_22 : decode cX5_init 22 = .ok (.aload_n 0, 1) := by decide +kernel
theorem dX5_init_23 : decode cX5_init 23 = .ok (.bipush 8, 2) := by decide +kernel
theorem dX5_init_25 : decode cX5_init 25 = .ok (.newarray .int, 2) := by decide +kernel
theorem dX5_init_27 : decode cX5_init 27 = .ok (.putfield 16, 3) := by decide +kernel
theorem dX5_init_30 : decode cX5_init 30 = .ok (.aload_n 0, 1) := by decide +kernel
theorem dX5_init_31 : decode cX5_init 31 = .ok (.iconst 3, 1) := by decide +kernel
theorem dX5_init_32 : decode cX5_init 32 = .ok (.newarray .int, 2) := by decide +kernel
theorem dX5_init_34 : decode cX5_init 34 = .ok (.putfield 19, 3) := by decide +kernel
theorem dX5_init_37 : decode cX5_init 37 = .ok (.aload_n 0, 1) := by decide +kernel
theorem dX5_init_38 : decode cX5_init 38 = .ok (.iconst 2, 1) := by decide +kernel
theorem dX5_init_39 : decode cX5_init 39 = .ok (.newarray .int, 2) := by decide +kernel
theorem dX5_init_41 : decode cX5_init 41 = .ok (.putfield 22, 3) := by decide +kernel
theorem dX5_init_44 : decode cX5_init 44 = .ok (.aload_n 0, 1) := by decide +kernel
theorem dX5_init_45 : decode cX5_init 45 = .ok (.bipush 16, 2) := by decide +kernel
theorem dX5_init_47 : decode cX5_init 47 = .ok (.newarray .int, 2) := by decide +kernel
theorem dX5_init_49 : decode cX5_init 49 = .ok (.putfield 25, 3) := by decide +kernel
theorem dX5_init_52 : decode cX5_init 52 = .ok (.return_, 1) := by decide +kernel
theorem dX5_thrown_0 : decode cX5_thrown 0 = .ok (.aload_n 0, 1) := by decide +kernel
theorem dX5_thrown_1 : decode cX5_thrown 1 = .ok (.getfield 28, 3) := by decide +kernel
theorem dX5_thrown_4 : decode cX5_thrown 4 = .ok (.ireturn, 1) := by decide +kernel
theorem dX5_read_0 : decode cX5_read 0 = .ok (.iload_n 1, 1) := by decide +kernel
theorem dX5_read_1 : decode cX5_read 1 = .ok (.ldc 32, 2) := by decide +kernel
theorem dX5_read_3 : decode cX5_read 3 = .ok (.iand, 1) := by decide +kernel
theorem dX5_read_4 : decode cX5_read 4 = .ok (.istore_n 2, 1) := by decide +kernel
theorem dX5_read_5 : decode cX5_read 5 = .ok (.iload_n 2, 1) := by decide +kernel
theorem dX5_read_6 : decode cX5_read 6 = .ok (.sipush 16383, 3) := by decide +kernel
theorem dX5_read_9 : decode cX5_read 9 = .ok (.iand, 1) := by decide +kernel
theorem dX5_read_10 : decode cX5_read 10 = .ok (.istore_n 3, 1) := by decide +kernel
theorem dX5_read_11 : decode cX5_read 11 = .ok (.iload_n 3, 1) := by decide +kernel
theorem dX5_read_12 : decode cX5_read 12 = .ok (.sipush 8192, 3) := by decide +kernel
theorem dX5_read_15 : decode cX5_read 15 = .ok (.if_icmp .lt 14, 3) := by decide +kernel
theorem dX5_read_18 : decode cX5_read 18 = .ok (.aload_n 0, 1) := by decide +kernel
theorem dX5_read_19 : decode cX5_read 19 = .ok (.getfield 13, 3) := by decide +kernel
theorem dX5_read_22 : decode cX5_read 22 = .ok (.iload_n 3, 1) := by decide +kernel
theorem dX5_read_23 : decode cX5_read 23 = .ok (.sipush 8192, 3) := by decide +kernel
theorem dX5_read_26 : decode cX5_read 26 = .ok (.isub, 1) := by decide +kernel
theorem dX5_read_27 : decode cX5_read 27 = .ok (.iaload, 1) := by decide +kernel
theorem dX5_read_28 : decode cX5_read 28 = .ok (.ireturn, 1) := by decide +kernel
theorem dX5_read_29 : decode cX5_read 29 = .ok (.iload_n 2, 1) := by decide +kernel
theorem dX5_read_30 : decode cX5_read 30 = .ok (.sipush 2048, 3) := by decide +kernel
theorem dX5_read_33 : decode cX5_read 33 = .ok (.if_icmp .ge 12, 3) := by decide +kernel
theorem dX5_read_36 : decode cX5_read 36 = .ok (.aload_n 0, 1) := by decide +kernel
theorem dX5_read_37 : decode cX5_read 37 = .ok (.getfield 7, 3) := by decide +kernel
theorem dX5_read_40 : decode cX5_read 40 = .ok (.iload_n 2, 1) := by decide +kernel
theorem dX5_read_41 : decode cX5_read 41 = .ok (.iaload, 1) := by decide +kernel
theorem dX5_read_42 : decode cX5_read 42 = .ok (.goto 4, 3) := by decide +kernel
theorem dX5_read_45 : decode cX5_read 45 = .ok (.iconst 0, 1) := by decide +kernel
theorem dX5_read_46 : decode cX5_read 46 = .ok (.ireturn, 1) := by decide +kernel
theorem dX5_write_0 : decode cX5_write 0 = .ok (.iload_n 1, 1) := by decide +kernel
theorem dX5_write_1 : decode cX5_write 1 = .ok (.sipush 16383, 3) := by decide +kernel
theorem dX5_write_4 : decode cX5_write 4 = .ok (.iand, 1) := by decide +kernel
theorem dX5_write_5 : decode cX5_write 5 = .ok (.istore_n 3, 1) := by decide +kernel
theorem dX5_write_6 : decode cX5_write 6 = .ok (.iload_n 3, 1) := by decide +kernel
theorem dX5_write_7 : decode cX5_write 7 = .ok (.sipush 8192, 3) := by decide +kernel
theorem dX5_write_10 : decode cX5_write 10 = .ok (.if_icmp .lt 18, 3) := by decide +kernel
theorem dX5_write_13 : decode cX5_write 13 = .ok (.aload_n 0, 1) := by decide +kernel
theorem dX5_write_14 : decode cX5_write 14 = .ok (.getfield 13, 3) := by decide +kernel
theorem dX5_write_17 : decode cX5_write 17 = .ok (.iload_n 3, 1) := by decide +kernel
theorem dX5_write_18 : decode cX5_write 18 = .ok (.sipush 8192, 3) := by decide +kernel
theorem dX5_write_21 : decode cX5_write 21 = .ok (.isub, 1) := by decide +kernel
theorem dX5_write_22 : decode cX5_write 22 = .ok (.iload_n 2, 1) := by decide +kernel
theorem dX5_write_23 : decode cX5_write 23 = .ok (.sipush 255, 3) := by decide +kernel
theorem dX5_write_26 : decode cX5_write 26 = .ok (.iand, 1) := by decide +kernel
theorem dX5_write_27 : decode cX5_write 27 = .ok (.iastore, 1) := by decide +kernel
theorem dX5_write_28 : decode cX5_write 28 = .ok (.return_, 1) := by decide +kernel
set_option maxRecDepth 20000 in
theorem ggX5_next_X5_read : GoodIn wsX5_next wsX5_read := goodIn_r _ [7, 2, 8, 9, 10, 11, 12, 13, 14, 15, 16, 17, 18, 19, 20, 21, 22, 23, 24, 25, 26, 27, 28, 29, 30, 31, 32, 33] (by decide +kernel) (by decide +kernel)
set_option maxRecDepth 20000 in
theorem gX5_next_X5_read : GoodIn wsX5_next (wsV RX5 36 RX5 yX5_read wsX5_read) := goodIn_app (goodIn_of _ (by decide +kernel)) ggX5_next_X5_read
theorem dX5_next_0 : decode cX5_next 0 = .ok (.aload_n 0, 1) := by decide +kernel
theorem dX5_next_1 : decode cX5_next 1 = .ok (.aload_n 0, 1) := by decide +kernel
theorem dX5_next_2 : decode cX5_next 2 = .ok (.getfield 33, 3) := by decide +kernel
theorem dX5_next_5 : decode cX5_next 5 = .ok (.invokevirtual 36, 3) := by decide +kernel
theorem dX5_next_8 : decode cX5_next 8 = .ok (.istore_n 1, 1) := by decide +kernel
theorem dX5_next_9 : decode cX5_next 9 = .ok (.aload_n 0, 1) := by decide +kernel
theorem dX5_next_10 : decode cX5_next 10 = .ok (.aload_n 0, 1) := by decide +kernel
theorem dX5_next_11 : decode cX5_next 11 = .ok (.getfield 33, 3) := by decide +kernel
theorem dX5_next_14 : decode cX5_next 14 = .ok (.iconst 1, 1) := by decide +kernel
theorem dX5_next_15 : decode cX5_next 15 = .ok (.iadd, 1) := by decide +kernel
theorem dX5_next_16 : decode cX5_next 16 = .ok (.ldc 32, 2) := by decide +kernel
theorem dX5_next_18 : decode cX5_next 18 = .ok (.iand, 1) := by decide +kernel
theorem dX5_next_19 : decode cX5_next 19 = .ok (.putfield 33, 3) := by decide +kernel
theorem dX5_next_22 : decode cX5_next 22 = .ok (.iload_n 1, 1) := by decide +kernel
theorem dX5_next_23 : decode cX5_next 23 = .ok (.ireturn, 1) := by decide +kernel
set_option maxRecDepth 20000 in
theorem ggX5_nextTwo_X5_next : GoodIn wsX5_nextTwo wsX5_next := goodIn_r _ [5, 6, 7, 8, 9, 10, 4, 11, 12, 13, 14, 15, 16, 17, 18, 19, 20, 21, 22, 23, 24, 25, 26, 27, 28, 29, 30, 31, 32, 33, 34, 35, 36, 37] (by decide +kernel) (by decide +kernel)
set_option maxRecDepth 20000 in
theorem gX5_nextTwo_X5_next : GoodIn wsX5_nextTwo (wsV RX5 40 RX5 yX5_next wsX5_next) := goodIn_app (goodIn_of _ (by decide +kernel)) ggX5_nextTwo_X5_next
theorem dX5_nextTwo_0 : decode cX5_nextTwo 0 = .ok (.aload_n 0, 1) := by decide +kernel
theorem dX5_nextTwo_1 : decode cX5_nextTwo 1 = .ok (.invokevirtual 40, 3) := by decide +kernel
theorem dX5_nextTwo_4 : decode cX5_nextTwo 4 = .ok (.istore_n 1, 1) := by decide +kernel
theorem dX5_nextTwo_5 : decode cX5_nextTwo 5 = .ok (.iload_n 1, 1) := by decide +kernel
theorem dX5_nextTwo_6 : decode cX5_nextTwo 6 = .ok (.aload_n 0, 1) := by decide +kernel
theorem dX5_nextTwo_7 : decode cX5_nextTwo 7 = .ok (.invokevirtual 40, 3) := by decide +kernel
theorem dX5_nextTwo_10 : decode cX5_nextTwo 10 = .ok (.bipush 8, 2) := by decide +kernel
theorem dX5_nextTwo_12 : decode cX5_nextTwo 12 = .ok (.ishl, 1) := by decide +kernel
theorem dX5_nextTwo_13 : decode cX5_nextTwo 13 = .ok (.ior, 1) := by decide +kernel
theorem dX5_nextTwo_14 : decode cX5_nextTwo 14 = .ok (.ireturn, 1) := by decide +kernel
set_option maxRecDepth 20000 in
theorem ggX5_push_X5_write : GoodIn wsX5_push wsX5_write := goodIn_r _ [7, 8, 9, 10, 11, 12, 13, 14, 15, 16, 17, 18, 19, 20, 21, 22, 23, 24, 25, 26, 27, 28, 29, 30, 31, 32] (by decide +kernel) (by decide +kernel)
set_option maxRecDepth 20000 in
theorem gX5_push_X5_write : GoodIn wsX5_push (wsV RX5 47 RX5 yX5_write wsX5_write) := goodIn_app (goodIn_of _ (by decide +kernel)) ggX5_push_X5_write
theorem dX5_push_0 : decode cX5_push 0 = .ok (.aload_n 0, 1) := by decide +kernel
theorem dX5_push_1 : decode cX5_push 1 = .ok (.aload_n 0, 1) := by decide +kernel
theorem dX5_push_2 : decode cX5_push 2 = .ok (.getfield 44, 3) := by decide +kernel
theorem dX5_push_5 : decode cX5_push 5 = .ok (.iconst 2, 1) := by decide +kernel
theorem dX5_push_6 : decode cX5_push 6 = .ok (.isub, 1) := by decide +kernel
theorem dX5_push_7 : decode cX5_push 7 = .ok (.ldc 32, 2) := by decide +kernel
theorem dX5_push_9 : decode cX5_push 9 = .ok (.iand, 1) := by decide +kernel
theorem dX5_push_10 : decode cX5_push 10 = .ok (.putfield 44, 3) := by decide +kernel
theorem dX5_push_13 : decode cX5_push 13 = .ok (.aload_n 0, 1) := by decide +kernel
theorem dX5_push_14 : decode cX5_push 14 = .ok (.aload_n 0, 1) := by decide +kernel
theorem dX5_push_15 : decode cX5_push 15 = .ok (.getfield 44, 3) := by decide +kernel
theorem dX5_push_18 : decode cX5_push 18 = .ok (.iload_n 1, 1) := by decide +kernel
theorem dX5_push_19 : decode cX5_push 19 = .ok (.invokevirtual 47, 3) := by decide +kernel
theorem dX5_push_22 : decode cX5_push 22 = .ok (.aload_n 0, 1) := by decide +kernel
theorem dX5_push_23 : decode cX5_push 23 = .ok (.aload_n 0, 1) := by decide +kernel
theorem dX5_push_24 : decode cX5_push 24 = .ok (.getfield 44, 3) := by decide +kernel
theorem dX5_push_27 : decode cX5_push 27 = .ok (.iconst 1, 1) := by decide +kernel
theorem dX5_push_28 : decode cX5_push 28 = .ok (.iadd, 1) := by decide +kernel
theorem dX5_push_29 : decode cX5_push 29 = .ok (.ldc 32, 2) := by decide +kernel
theorem dX5_push_31 : decode cX5_push 31 = .ok (.iand, 1) := by decide +kernel
theorem dX5_push_32 : decode cX5_push 32 = .ok (.iload_n 1, 1) := by decide +kernel
theorem dX5_push_33 : decode cX5_push 33 = .ok (.bipush 8, 2) := by decide +kernel
theorem dX5_push_35 : decode cX5_push 35 = .ok (.ishr, 1) := by decide +kernel
theorem dX5_push_36 : decode cX5_push 36 = .ok (.invokevirtual 47, 3) := by decide +kernel
theorem dX5_push_39 : decode cX5_push 39 = .ok (.return_, 1) := by decide +kernel
set_option maxRecDepth 20000 in
theorem ggX5_pop_X5_read : GoodIn wsX5_pop wsX5_read := goodIn_r _ [7, 2, 8, 9, 10, 11, 12, 13, 14, 15, 16, 17, 18, 19, 20, 21, 22, 23, 24, 25, 26, 27, 28, 29, 30, 31, 32, 33] (by decide +kernel) (by decide +kernel)
set_option maxRecDepth 20000 in
theorem gX5_pop_X5_read : GoodIn wsX5_pop (wsV RX5 36 RX5 yX5_read wsX5_read) := goodIn_app (goodIn_of _ (by decide +kernel)) ggX5_pop_X5_read
theorem dX5_pop_0 : decode cX5_pop 0 = .ok (.aload_n 0, 1) := by decide +kernel
theorem dX5_pop_1 : decode cX5_pop 1 = .ok (.aload_n 0, 1) := by decide +kernel
theorem dX5_pop_2 : decode cX5_pop 2 = .ok (.getfield 44, 3) := by decide +kernel
theorem dX5_pop_5 : decode cX5_pop 5 = .ok (.invokevirtual 36, 3) := by decide +kernel
theorem dX5_pop_8 : decode cX5_pop 8 = .ok (.aload_n 0, 1) := by decide +kernel
theorem dX5_pop_9 : decode cX5_pop 9 = .ok (.aload_n 0, 1) := by decide +kernel
theorem dX5_pop_10 : decode cX5_pop 10 = .ok (.getfield 44, 3) := by decide +kernel
theorem dX5_pop_13 : decode cX5_pop 13 = .ok (.iconst 1, 1) := by decide +kernel
theorem dX5_pop_14 : decode cX5_pop 14 = .ok (.iadd, 1) := by decide +kernel
theorem dX5_pop_15 : decode cX5_pop 15 = .ok (.ldc 32, 2) := by decide +kernel
theorem dX5_pop_17 : decode cX5_pop 17 = .ok (.iand, 1) := by decide +kernel
theorem dX5_pop_18 : decode cX5_pop 18 = .ok (.invokevirtual 36, 3) := by decide +kernel
theorem dX5_pop_21 : decode cX5_pop 21 = .ok (.bipush 8, 2) := by decide +kernel
theorem dX5_pop_23 : decode cX5_pop 23 = .ok (.ishl, 1) := by decide +kernel
theorem dX5_pop_24 : decode cX5_pop 24 = .ok (.ior, 1) := by decide +kernel
theorem dX5_pop_25 : decode cX5_pop 25 = .ok (.istore_n 1, 1) := by decide +kernel
theorem dX5_pop_26 : decode cX5_pop 26 = .ok (.aload_n 0, 1) := by decide +kernel
theorem dX5_pop_27 : decode cX5_pop 27 = .ok (.aload_n 0, 1) := by decide +kernel
theorem dX5_pop_28 : decode cX5_pop 28 = .ok (.getfield 44, 3) := by decide +kernel
theorem dX5_pop_31 : decode cX5_pop 31 = .ok (.iconst 2, 1) := by decide +kernel
theorem dX5_pop_32 : decode cX5_pop 32 = .ok (.iadd, 1) := by decide +kernel
theorem dX5_pop_33 : decode cX5_pop 33 = .ok (.ldc 32, 2) := by decide +kernel
theorem dX5_pop_35 : decode cX5_pop 35 = .ok (.iand, 1) := by decide +kernel
theorem dX5_pop_36 : decode cX5_pop 36 = .ok (.putfield 44, 3) := by decide +kernel
theorem dX5_pop_39 : decode cX5_pop 39 = .ok (.iload_n 1, 1) := by decide +kernel
theorem dX5_pop_40 : decode cX5_pop 40 = .ok (.ireturn, 1) := by decide +kernel
theorem dX5_hl_0 : decode cX5_hl 0 = .ok (.aload_n 0, 1) := by decide +kernel
theorem dX5_hl_1 : decode cX5_hl 1 = .ok (.getfield 16, 3) := by decide +kernel
theorem dX5_hl_4 : decode cX5_hl 4 = .ok (.iconst 4, 1) := by decide +kernel
theorem dX5_hl_5 : decode cX5_hl 5 = .ok (.iaload, 1) := by decide +kernel
theorem dX5_hl_6 : decode cX5_hl 6 = .ok (.bipush 8, 2) := by decide +kernel
theorem dX5_hl_8 : decode cX5_hl 8 = .ok (.ishl, 1) := by decide +kernel
theorem dX5_hl_9 : decode cX5_hl 9 = .ok (.aload_n 0, 1) := by decide +kernel
theorem dX5_hl_10 : decode cX5_hl 10 = .ok (.getfield 16, 3) := by decide +kernel
theorem dX5_hl_13 : decode cX5_hl 13 = .ok (.iconst 5, 1) := by decide +kernel
theorem dX5_hl_14 : decode cX5_hl 14 = .ok (.iaload, 1) := by decide +kernel
theorem dX5_hl_15 : decode cX5_hl 15 = .ok (.ior, 1) := by decide +kernel
theorem dX5_hl_16 : decode cX5_hl 16 = .ok (.ireturn, 1) := by decide +kernel
set_option maxRecDepth 20000 in
theorem ggX5_get_X5_hl : GoodIn wsX5_get wsX5_hl := goodIn_r _ [6, 1, 14, 15, 16, 17, 18, 19, 20, 21, 22, 23, 24, 25, 26, 27, 28, 29, 30, 31, 32, 33, 34, 35, 36, 37] (by decide +kernel) (by decide +kernel)
set_option maxRecDepth 20000 in
theorem gX5_get_X5_hl : GoodIn wsX5_get (wsV RX5 51 RX5 yX5_hl wsX5_hl) := goodIn_app (goodIn_of _ (by decide +kernel)) ggX5_get_X5_hl
set_option maxRecDepth 20000 in
theorem ggX5_get_X5_read : GoodIn wsX5_get wsX5_read := goodIn_r _ [10, 11, 12, 13, 14, 15, 16, 17, 18, 19, 20, 21, 22, 23, 24, 25, 26, 27, 28, 29, 30, 31, 32, 33, 34, 35, 36, 37] (by decide +kernel) (by decide +kernel)
set_option maxRecDepth 20000 in
theorem gX5_get_X5_read : GoodIn wsX5_get (wsV RX5 36 RX5 yX5_read wsX5_read) := goodIn_app (goodIn_of _ (by decide +kernel)) ggX5_get_X5_read
theorem dX5_get_0 : decode cX5_get 0 = .ok (.iload_n 1, 1) := by decide +kernel
theorem dX5_get_1 : decode cX5_get 1 = .ok (.bipush 6, 2) := by decide +kernel
theorem dX5_get_3 : decode cX5_get 3 = .ok (.if_icmp .ne 14, 3) := by decide +kernel
theorem dX5_get_6 : decode cX5_get 6 = .ok (.aload_n 0, 1) := by decide +kernel
theorem dX5_get_7 : decode cX5_get 7 = .ok (.aload_n 0, 1) := by decide +kernel
theorem dX5_get_8 : decode cX5_get 8 = .ok (.invokevirtual 51, 3) := by decide +kernel
theorem dX5_get_11 : decode cX5_get 11 = .ok (.invokevirtual 36, 3) := by decide +kernel
theorem dX5_get_14 : decode cX5_get 14 = .ok (.goto 9, 3) := by decide +kernel
theorem dX5_get_17 : decode cX5_get 17 = .ok (.aload_n 0, 1) := by decide +kernel
theorem dX5_get_18 : decode cX5_get 18 = .ok (.getfield 16, 3) := by decide +kernel
theorem dX5_get_21 : decode cX5_get 21 = .ok (.iload_n 1, 1) := by decide +kernel
theorem dX5_get_22 : decode cX5_get 22 = .ok (.iaload, 1) := by decide +kernel
theorem dX5_get_23 : decode cX5_get 23 = .ok (.ireturn, 1) := by decide +kernel
set_option maxRecDepth 20000 in
theorem ggX5_set_X5_hl : GoodIn wsX5_set wsX5_hl := goodIn_r _ [6, 1, 12, 13, 14, 15, 16, 17, 18, 19, 20, 21, 22, 23, 24, 25, 26, 27, 28, 29, 30, 31, 32, 33, 34, 35] (by decide +kernel) (by decide +kernel)
set_option maxRecDepth 20000 in
theorem gX5_set_X5_hl : GoodIn wsX5_set (wsV RX5 51 RX5 yX5_hl wsX5_hl) := goodIn_app (goodIn_of _ (by decide +kernel)) ggX5_set_X5_hl
set_option maxRecDepth 20000 in
theorem ggX5_set_X5_write : GoodIn wsX5_set wsX5_write := goodIn_r _ [10, 11, 12, 13, 14, 15, 16, 17, 18, 19, 20, 21, 22, 23, 24, 25, 26, 27, 28, 29, 30, 31, 32, 33, 34, 35] (by decide +kernel) (by decide +kernel)
set_option maxRecDepth 20000 in
theorem gX5_set_X5_write : GoodIn wsX5_set (wsV RX5 47 RX5 yX5_write wsX5_write) := goodIn_app (goodIn_of _ (by decide +kernel)) ggX5_set_X5_write
theorem dX5_set_0 : decode cX5_set 0 = .ok (.iload_n 1, 1) := by decide +kernel
theorem dX5_set_1 : decode cX5_set 1 = .ok (.bipush 6, 2) := by decide +kernel
theorem dX5_set_3 : decode cX5_set 3 = .ok (.if_icmp .ne 15, 3) := by decide +kernel
theorem dX5_set_6 : decode cX5_set 6 = .ok (.aload_n 0, 1) := by decide +kernel
theorem dX5_set_7 : decode cX5_set 7 = .ok (.aload_n 0, 1) := by decide +kernel
theorem dX5_set_8 : decode cX5_set 8 = .ok (.invokevirtual 51, 3) := by decide +kernel
theorem dX5_set_11 : decode cX5_set 11 = .ok (.iload_n 2, 1) := by decide +kernel
theorem dX5_set_12 : decode cX5_set 12 = .ok (.invokevirtual 47, 3) := by decide +kernel
theorem dX5_set_15 : decode cX5_set 15 = .ok (.goto 14, 3) := by decide +kernel
theorem dX5_set_18 : decode cX5_set 18 = .ok (.aload_n 0, 1) := by decide +kernel
theorem dX5_set_19 : decode cX5_set 19 = .ok (.getfield 16, 3) := by decide +kernel
theorem dX5_set_22 : decode cX5_set 22 = .ok (.iload_n 1, 1) := by decide +kernel
theorem dX5_set_23 : decode cX5_set 23 = .ok (.iload_n 2, 1) := by decide +kernel
theorem dX5_set_24 : decode cX5_set 24 = .ok (.sipush 255, 3) := by decide +kernel
theorem dX5_set_27 : decode cX5_set 27 = .ok (.iand, 1) := by decide +kernel
theorem dX5_set_28 : decode cX5_set 28 = .ok (.iastore, 1) := by decide +kernel
theorem dX5_set_29 : decode cX5_set 29 = .ok (.return_, 1) := by decide +kernel
theorem dX5_pair_0 : decode cX5_pair 0 = .ok (.iload_n 1, 1) := by decide +kernel
theorem dX5_pair_1 : decode cX5_pair 1 = .ok (.iconst 3, 1) := by decide +kernel
theorem dX5_pair_2 : decode cX5_pair 2 = .ok (.if_icmp .ne 10, 3) := by decide +kernel
theorem dX5_pair_5 : decode cX5_pair 5 = .ok (.aload_n 0, 1) := by decide +kernel
theorem dX5_pair_6 : decode cX5_pair 6 = .ok (.getfield 44, 3) := by decide +kernel
theorem dX5_pair_9 : decode cX5_pair 9 = .ok (.goto 25, 3) := by decide +kernel
theorem dX5_pair_12 : decode cX5_pair 12 = .ok (.aload_n 0, 1) := by decide +kernel
theorem dX5_pair_13 : decode cX5_pair 13 = .ok (.getfield 16, 3) := by decide +kernel
theorem dX5_pair_16 : decode cX5_pair 16 = .ok (.iconst 2, 1) := by decide +kernel
theorem dX5_pair_17 : decode cX5_pair 17 = .ok (.iload_n 1, 1) := by decide +kernel
theorem dX5_pair_18 : decode cX5_pair 18 = .ok (.imul, 1) := by decide +kernel
theorem dX5_pair_19 : decode cX5_pair 19 = .ok (.iaload, 1) := by decide +kernel
theorem dX5_pair_20 : decode cX5_pair 20 = .ok (.bipush 8, 2) := by decide +kernel
theorem dX5_pair_22 : decode cX5_pair 22 = .ok (.ishl, 1) := by decide +kernel
theorem dX5_pair_23 : decode cX5_pair 23 = .ok (.aload_n 0, 1) := by decide +kernel
theorem dX5_pair_24 : decode cX5_pair 24 = .ok (.getfield 16, 3) := by decide +kernel
theorem dX5_pair_27 : decode cX5_pair 27 = .ok (.iconst 2, 1) := by decide +kernel
theorem dX5_pair_28 : decode cX5_pair 28 = .ok (.iload_n 1, 1) := by decide +kernel
theorem dX5_pair_29 : decode cX5_pair 29 = .ok (.imul, 1) := by decide +kernel
theorem dX5_pair_30 : decode cX5_pair 30 = .ok (.iconst 1, 1) := by decide +kernel
theorem dX5_pair_31 : decode cX5_pair 31 = .ok (.iadd, 1) := by decide +kernel
theorem dX5_pair_32 : decode cX5_pair 32 = .ok (.iaload, 1) := by decide +kernel
theorem dX5_pair_33 : decode cX5_pair 33 = .ok (.ior, 1) := by decide +kernel
theorem dX5_pair_34 : decode cX5_pair 34 = .ok (.ireturn, 1) := by decide +kernel
theorem dX5_setPair_0 : decode cX5_setPair 0 = .ok (.iload_n 1, 1) := by decide +kernel
theorem dX5_setPair_1 : decode cX5_setPair 1 = .ok (.iconst 3, 1) := by decide +kernel
theorem dX5_setPair_2 : decode cX5_setPair 2 = .ok (.if_icmp .ne 14, 3) := by decide +kernel
theorem dX5_setPair_5 : decode cX5_setPair 5 = .ok (.aload_n 0, 1) := by decide +kernel
theorem dX5_setPair_6 : decode cX5_setPair 6 = .ok (.iload_n 2, 1) := by decide +kernel
theorem dX5_setPair_7 : decode cX5_setPair 7 = .ok (.ldc 32, 2) := by decide +kernel
theorem dX5_setPair_9 : decode cX5_setPair 9 = .ok (.iand, 1) := by decide +kernel
theorem dX5_setPair_10 : decode cX5_setPair 10 = .ok (.putfield 44, 3) := by decide +kernel
theorem dX5_setPair_13 : decode cX5_setPair 13 = .ok (.goto 34, 3) := by decide +kernel
theorem dX5_setPair_16 : decode cX5_setPair 16 = .ok (.aload_n 0, 1) := by decide +kernel
theorem dX5_setPair_17 : decode cX5_setPair 17 = .ok (.getfield 16, 3) := by decide +kernel
theorem dX5_setPair_20 : decode cX5_setPair 20 = .ok (.iconst 2, 1) := by decide +kernel
theorem dX5_setPair_21 : decode cX5_setPair 21 = .ok (.iload_n 1, 1) := by decide +kernel
theorem dX5_setPair_22 : decode cX5_setPair 22 = .ok (.imul, 1) := by decide +kernel
theorem dX5_setPair_23 : decode cX5_setPair 23 = .ok (.iload_n 2, 1) := by decide +kernel
theorem dX5_setPair_24 : decode cX5_setPair 24 = .ok (.bipush 8, 2) := by decide +kernel
theorem dX5_setPair_26 : decode cX5_setPair 26 = .ok (.ishr, 1) := by decide +kernel
theorem dX5_setPair_27 : decode cX5_setPair 27 = .ok (.sipush 255, 3) := by decide +kernel
theorem dX5_setPair_30 : decode cX5_setPair 30 = .ok (.iand, 1) := by decide +kernel
theorem dX5_setPair_31 : decode cX5_setPair 31 = .ok (.iastore, 1) := by decide +kernel
theorem dX5_setPair_32 : decode cX5_setPair 32 = .ok (.aload_n 0, 1) := by decide +kernel
theorem dX5_setPair_33 : decode cX5_setPair 33 = .ok (.getfield 16, 3) := by decide +kernel
theorem dX5_setPair_36 : decode cX5_setPair 36 = .ok (.iconst 2, 1) := by decide +kernel
theorem dX5_setPair_37 : decode cX5_setPair 37 = .ok (.iload_n 1, 1) := by decide +kernel
theorem dX5_setPair_38 : decode cX5_setPair 38 = .ok (.imul, 1) := by decide +kernel
theorem dX5_setPair_39 : decode cX5_setPair 39 = .ok (.iconst 1, 1) := by decide +kernel
theorem dX5_setPair_40 : decode cX5_setPair 40 = .ok (.iadd, 1) := by decide +kernel
theorem dX5_setPair_41 : decode cX5_setPair 41 = .ok (.iload_n 2, 1) := by decide +kernel
theorem dX5_setPair_42 : decode cX5_setPair 42 = .ok (.sipush 255, 3) := by decide +kernel
theorem dX5_setPair_45 : decode cX5_setPair 45 = .ok (.iand, 1) := by decide +kernel
theorem dX5_setPair_46 : decode cX5_setPair 46 = .ok (.iastore, 1) := by decide +kernel
theorem dX5_setPair_47 : decode cX5_setPair 47 = .ok (.return_, 1) := by decide +kernel
theorem dX5_signs_0 : decode cX5_signs 0 = .ok (.aload_n 0, 1) := by decide +kernel
theorem dX5_signs_1 : decode cX5_signs 1 = .ok (.iload_n 1, 1) := by decide +kernel
theorem dX5_signs_2 : decode cX5_signs 2 = .ok (.bipush 7, 2) := by decide +kernel
theorem dX5_signs_4 : decode cX5_signs 4 = .ok (.ishr, 1) := by decide +kernel
theorem dX5_signs_5 : decode cX5_signs 5 = .ok (.iconst 1, 1) := by decide +kernel
theorem dX5_signs_6 : decode cX5_signs 6 = .ok (.iand, 1) := by decide +kernel
theorem dX5_signs_7 : decode cX5_signs 7 = .ok (.putfield 54, 3) := by decide +kernel
theorem dX5_signs_10 : decode cX5_signs 10 = .ok (.aload_n 0, 1) := by decide +kernel
theorem dX5_signs_11 : decode cX5_signs 11 = .ok (.iload_n 1, 1) := by decide +kernel
theorem dX5_signs_12 : decode cX5_signs 12 = .ok (.sipush 255, 3) := by decide +kernel
theorem dX5_signs_15 : decode cX5_signs 15 = .ok (.iand, 1) := by decide +kernel
theorem dX5_signs_16 : decode cX5_signs 16 = .ok (.ifCond .ne 7, 3) := by decide +kernel
theorem dX5_signs_19 : decode cX5_signs 19 = .ok (.iconst 1, 1) := by decide +kernel
theorem dX5_signs_20 : decode cX5_signs 20 = .ok (.goto 4, 3) := by decide +kernel
theorem dX5_signs_23 : decode cX5_signs 23 = .ok (.iconst 0, 1) := by decide +kernel
theorem dX5_signs_24 : decode cX5_signs 24 = .ok (.putfield 57, 3) := by decide +kernel
theorem dX5_signs_27 : decode cX5_signs 27 = .ok (.iconst 0, 1) := by decide +kernel
theorem dX5_signs_28 : decode cX5_signs 28 = .ok (.istore_n 2, 1) := by decide +kernel
theorem dX5_signs_29 : decode cX5_signs 29 = .ok (.iconst 0, 1) := by decide +kernel
theorem dX5_signs_30 : decode cX5_signs 30 = .ok (.istore_n 3, 1) := by decide +kernel
theorem dX5_signs_31 : decode cX5_signs 31 = .ok (.iload_n 3, 1) := by decide +kernel
theorem dX5_signs_32 : decode cX5_signs 32 = .ok (.bipush 8, 2) := by decide +kernel
theorem dX5_signs_34 : decode cX5_signs 34 = .ok (.if_icmp .ge 17, 3) := by decide +kernel
theorem dX5_signs_37 : decode cX5_signs 37 = .ok (.iload_n 2, 1) := by decide +kernel
theorem dX5_signs_38 : decode cX5_signs 38 = .ok (.iload_n 1, 1) := by decide +kernel
theorem dX5_signs_39 : decode cX5_signs 39 = .ok (.iload_n 3, 1) := by decide +kernel
theorem dX5_signs_40 : decode cX5_signs 40 = .ok (.ishr, 1) := by decide +kernel
theorem dX5_signs_41 : decode cX5_signs 41 = .ok (.iconst 1, 1) := by decide +kernel
theorem dX5_signs_42 : decode cX5_signs 42 = .ok (.iand, 1) := by decide +kernel
theorem dX5_signs_43 : decode cX5_signs 43 = .ok (.iadd, 1) := by decide +kernel
theorem dX5_signs_44 : decode cX5_signs 44 = .ok (.istore_n 2, 1) := by decide +kernel
theorem dX5_signs_45 : decode cX5_signs 45 = .ok (.iinc 3 1, 3) := by decide +kernel
theorem dX5_signs_48 : decode cX5_signs 48 = .ok (.goto (-17), 3) := by decide +kernel
theorem dX5_signs_51 : decode cX5_signs 51 = .ok (.aload_n 0, 1) := by decide +kernel
theorem dX5_signs_52 : decode cX5_signs 52 = .ok (.iload_n 2, 1) := by decide +kernel
theorem dX5_signs_53 : decode cX5_signs 53 = .ok (.iconst 2, 1) := by decide +kernel
theorem dX5_signs_54 : decode cX5_signs 54 = .ok (.irem, 1) := by decide +kernel
theorem dX5_signs_55 : decode cX5_signs 55 = .ok (.ifCond .ne 7, 3) := by decide +kernel
theorem dX5_signs_58 : decode cX5_signs 58 = .ok (.iconst 1, 1) := by decide +kernel
theorem dX5_signs_59 : decode cX5_signs 59 = .ok (.goto 4, 3) := by decide +kernel
theorem dX5_signs_62 : decode cX5_signs 62 = .ok (.iconst 0, 1) := by decide +kernel
theorem dX5_signs_63 : decode cX5_signs 63 = .ok (.putfield 60, 3) := by decide +kernel
theorem dX5_signs_66 : decode cX5_signs 66 = .ok (.return_, 1) := by decide +kernel
theorem dX5_flags_0 : decode cX5_flags 0 = .ok (.aload_n 0, 1) := by decide +kernel
theorem dX5_flags_1 : decode cX5_flags 1 = .ok (.getfield 54, 3) := by decide +kernel
theorem dX5_flags_4 : decode cX5_flags 4 = .ok (.bipush 7, 2) := by decide +kernel
theorem dX5_flags_6 : decode cX5_flags 6 = .ok (.ishl, 1) := by decide +kernel
theorem dX5_flags_7 : decode cX5_flags 7 = .ok (.aload_n 0, 1) := by decide +kernel
theorem dX5_flags_8 : decode cX5_flags 8 = .ok (.getfield 57, 3) := by decide +kernel
theorem dX5_flags_11 : decode cX5_flags 11 = .ok (.bipush 6, 2) := by decide +kernel
theorem dX5_flags_13 : decode cX5_flags 13 = .ok (.ishl, 1) := by decide +kernel
theorem dX5_flags_14 : decode cX5_flags 14 = .ok (.ior, 1) := by decide +kernel
theorem dX5_flags_15 : decode cX5_flags 15 = .ok (.aload_n 0, 1) := by decide +kernel
theorem dX5_flags_16 : decode cX5_flags 16 = .ok (.getfield 63, 3) := by decide +kernel
theorem dX5_flags_19 : decode cX5_flags 19 = .ok (.iconst 4, 1) := by decide +kernel
theorem dX5_flags_20 : decode cX5_flags 20 = .ok (.ishl, 1) := by decide +kernel
theorem dX5_flags_21 : decode cX5_flags 21 = .ok (.ior, 1) := by decide +kernel
theorem dX5_flags_22 : decode cX5_flags 22 = .ok (.aload_n 0, 1) := by decide +kernel
theorem dX5_flags_23 : decode cX5_flags 23 = .ok (.getfield 60, 3) := by decide +kernel
theorem dX5_flags_26 : decode cX5_flags 26 = .ok (.iconst 2, 1) := by decide +kernel
theorem dX5_flags_27 : decode cX5_flags 27 = .ok (.ishl, 1) := by decide +kernel
theorem dX5_flags_28 : decode cX5_flags 28 = .ok (.ior, 1) := by decide +kernel
theorem dX5_flags_29 : decode cX5_flags 29 = .ok (.iconst 2, 1) := by decide +kernel
theorem dX5_flags_30 : decode cX5_flags 30 = .ok (.ior, 1) := by decide +kernel
theorem dX5_flags_31 : decode cX5_flags 31 = .ok (.aload_n 0, 1) := by decide +kernel
theorem dX5_flags_32 : decode cX5_flags 32 = .ok (.getfield 66, 3) := by decide +kernel
theorem dX5_flags_35 : decode cX5_flags 35 = .ok (.ior, 1) := by decide +kernel
theorem dX5_flags_36 : decode cX5_flags 36 = .ok (.ireturn, 1) := by decide +kernel
theorem dX5_setFlags_0 : decode cX5_setFlags 0 = .ok (.aload_n 0, 1) := by decide +kernel
theorem dX5_setFlags_1 : decode cX5_setFlags 1 = .ok (.iload_n 1, 1) := by decide +kernel
theorem dX5_setFlags_2 : decode cX5_setFlags 2 = .ok (.bipush 7, 2) := by decide +kernel
theorem dX5_setFlags_4 : decode cX5_setFlags 4 = .ok (.ishr, 1) := by decide +kernel
theorem dX5_setFlags_5 : decode cX5_setFlags 5 = .ok (.iconst 1, 1) := by decide +kernel
theorem dX5_setFlags_6 : decode cX5_setFlags 6 = .ok (.iand, 1) := by decide +kernel
theorem dX5_setFlags_7 : decode cX5_setFlags 7 = .ok (.putfield 54, 3) := by decide +kernel
theorem dX5_setFlags_10 : decode cX5_setFlags 10 = .ok (.aload_n 0, 1) := by decide +kernel
theorem dX5_setFlags_11 : decode cX5_setFlags 11 = .ok (.iload_n 1, 1) := by decide +kernel
theorem dX5_setFlags_12 : decode cX5_setFlags 12 = .ok (.bipush 6, 2) := by decide +kernel
theorem dX5_setFlags_14 : decode cX5_setFlags 14 = .ok (.ishr, 1) := by decide +kernel
theorem dX5_setFlags_15 : decode cX5_setFlags 15 = .ok (.iconst 1, 1) := by decide +kernel
theorem dX5_setFlags_16 : decode cX5_setFlags 16 = .ok (.iand, 1) := by decide +kernel
theorem dX5_setFlags_17 : decode cX5_setFlags 17 = .ok (.putfield 57, 3) := by decide +kernel
theorem dX5_setFlags_20 : decode cX5_setFlags 20 = .ok (.aload_n 0, 1) := by decide +kernel
theorem dX5_setFlags_21 : decode cX5_setFlags 21 = .ok (.iload_n 1, 1) := by decide +kernel
theorem dX5_setFlags_22 : decode cX5_setFlags 22 = .ok (.iconst 4, 1) := by decide +kernel
theorem dX5_setFlags_23 : decode cX5_setFlags 23 = .ok (.ishr, 1) := by decide +kernel
theorem dX5_setFlags_24 : decode cX5_setFlags 24 = .ok (.iconst 1, 1) := by decide +kernel
theorem dX5_setFlags_25 : decode cX5_setFlags 25 = .ok (.iand, 1) := by decide +kernel
theorem dX5_setFlags_26 : decode cX5_setFlags 26 = .ok (.putfield 63, 3) := by decide +kernel
theorem dX5_setFlags_29 : decode cX5_setFlags 29 = .ok (.aload_n 0, 1) := by decide +kernel
theorem dX5_setFlags_30 : decode cX5_setFlags 30 = .ok (.iload_n 1, 1) := by decide +kernel
theorem dX5_setFlags_31 : decode cX5_setFlags 31 = .ok (.iconst 2, 1) := by decide +kernel
theorem dX5_setFlags_32 : decode cX5_setFlags 32 = .ok (.ishr, 1) := by decide +kernel
theorem dX5_setFlags_33 : decode cX5_setFlags 33 = .ok (.iconst 1, 1) := by decide +kernel
theorem dX5_setFlags_34 : decode cX5_setFlags 34 = .ok (.iand, 1) := by decide +kernel
theorem dX5_setFlags_35 : decode cX5_setFlags 35 = .ok (.putfield 60, 3) := by decide +kernel
theorem dX5_setFlags_38 : decode cX5_setFlags 38 = .ok (.aload_n 0, 1) := by decide +kernel
theorem dX5_setFlags_39 : decode cX5_setFlags 39 = .ok (.iload_n 1, 1) := by decide +kernel
theorem dX5_setFlags_40 : decode cX5_setFlags 40 = .ok (.iconst 1, 1) := by decide +kernel
theorem dX5_setFlags_41 : decode cX5_setFlags 41 = .ok (.iand, 1) := by decide +kernel
theorem dX5_setFlags_42 : decode cX5_setFlags 42 = .ok (.putfield 66, 3) := by decide +kernel
theorem dX5_setFlags_45 : decode cX5_setFlags 45 = .ok (.return_, 1) := by decide +kernel
set_option maxRecDepth 20000 in
theorem ggX5_alu_X5_signs : GoodIn wsX5_alu wsX5_signs := goodIn_r _ [8, 9, 10, 11, 12, 13, 14, 15, 16, 17, 18, 19, 20, 21, 22, 23, 24, 25, 26, 27, 28, 29, 30, 31, 32, 33, 34, 35] (by decide +kernel) (by decide +kernel)
set_option maxRecDepth 20000 in
theorem gX5_alu_X5_signs : GoodIn wsX5_alu (wsV RX5 69 RX5 yX5_signs wsX5_signs) := goodIn_app (goodIn_of _ (by decide +kernel)) ggX5_alu_X5_signs
theorem dX5_alu_0 : decode cX5_alu 0 = .ok (.aload_n 0, 1) := by decide +kernel
theorem dX5_alu_1 : decode cX5_alu 1 = .ok (.getfield 16, 3) := by decide +kernel
theorem dX5_alu_4 : decode cX5_alu 4 = .ok (.bipush 7, 2) := by decide +kernel
theorem dX5_alu_6 : decode cX5_alu 6 = .ok (.iaload, 1) := by decide +kernel
theorem dX5_alu_7 : decode cX5_alu 7 = .ok (.istore_n 3, 1) := by decide +kernel
theorem dX5_alu_8 : decode cX5_alu 8 = .ok (.iload_n 1, 1) := by decide +kernel
theorem dX5_alu_9 : decode cX5_alu 9 = .ok (.iconst 1, 1) := by decide +kernel
theorem dX5_alu_10 : decode cX5_alu 10 = .ok (.if_icmp .eq 8, 3) := by decide +kernel
theorem dX5_alu_13 : decode cX5_alu 13 = .ok (.iload_n 1, 1) := by decide +kernel
theorem dX5_alu_14 : decode cX5_alu 14 = .ok (.iconst 3, 1) := by decide +kernel
theorem dX5_alu_15 : decode cX5_alu 15 = .ok (.if_icmp .ne 10, 3) := by decide +kernel
theorem dX5_alu_18 : decode cX5_alu 18 = .ok (.aload_n 0, 1) := by decide +kernel
theorem dX5_alu_19 : decode cX5_alu 19 = .ok (.getfield 66, 3) := by decide +kernel
theorem dX5_alu_22 : decode cX5_alu 22 = .ok (.goto 4, 3) := by decide +kernel
theorem dX5_alu_25 : decode cX5_alu 25 = .ok (.iconst 0, 1) := by decide +kernel
theorem dX5_alu_26 : decode cX5_alu 26 = .ok (.istore 4, 2) := by decide +kernel
theorem dX5_alu_28 : decode cX5_alu 28 = .ok (.iload_n 3, 1) := by decide +kernel
theorem dX5_alu_29 : decode cX5_alu 29 = .ok (.istore 5, 2) := by decide +kernel
theorem dX5_alu_31 : decode cX5_alu 31 = .ok (.iload_n 1, 1) := by decide +kernel
theorem dX5_alu_32 : decode cX5_alu 32 = .ok (.iconst 2, 1) := by decide +kernel
theorem dX5_alu_33 : decode cX5_alu 33 = .ok (.if_icmp .ge 57, 3) := by decide +kernel
theorem dX5_alu_36 : decode cX5_alu 36 = .ok (.iload_n 3, 1) := by decide +kernel
theorem dX5_alu_37 : decode cX5_alu 37 = .ok (.iload_n 2, 1) := by decide +kernel
theorem dX5_alu_38 : decode cX5_alu 38 = .ok (.iadd, 1) := by decide +kernel
theorem dX5_alu_39 : decode cX5_alu 39 = .ok (.iload 4, 2) := by decide +kernel
theorem dX5_alu_41 : decode cX5_alu 41 = .ok (.iadd, 1) := by decide +kernel
theorem dX5_alu_42 : decode cX5_alu 42 = .ok (.istore 5, 2) := by decide +kernel
theorem dX5_alu_44 : decode cX5_alu 44 = .ok (.aload_n 0, 1) := by decide +kernel
theorem dX5_alu_45 : decode cX5_alu 45 = .ok (.iload_n 3, 1) := by decide +kernel
theorem dX5_alu_46 : decode cX5_alu 46 = .ok (.bipush 15, 2) := by decide +kernel
theorem dX5_alu_48 : decode cX5_alu 48 = .ok (.iand, 1) := by decide +kernel
theorem dX5_alu_49 : decode cX5_alu 49 = .ok (.iload_n 2, 1) := by decide +kernel
theorem dX5_alu_50 : decode cX5_alu 50 = .ok (.bipush 15, 2) := by decide +kernel
theorem dX5_alu_52 : decode cX5_alu 52 = .ok (.iand, 1) := by decide +kernel
theorem dX5_alu_53 : decode cX5_alu 53 = .ok (.iadd, 1) := by decide +kernel
theorem dX5_alu_54 : decode cX5_alu 54 = .ok (.iload 4, 2) := by decide +kernel
theorem dX5_alu_56 : decode cX5_alu 56 = .ok (.iadd, 1) := by decide +kernel
theorem dX5_alu_57 : decode cX5_alu 57 = .ok (.bipush 15, 2) := by decide +kernel
theorem dX5_alu_59 : decode cX5_alu 59 = .ok (.if_icmp .le 7, 3) := by decide +kernel
theorem dX5_alu_62 : decode cX5_alu 62 = .ok (.iconst 1, 1) := by decide +kernel
theorem dX5_alu_63 : decode cX5_alu 63 = .ok (.goto 4, 3) := by decide +kernel
theorem dX5_alu_66 : decode cX5_alu 66 = .ok (.iconst 0, 1) := by decide +kernel
theorem dX5_alu_67 : decode cX5_alu 67 = .ok (.putfield 63, 3) := by decide +kernel
theorem dX5_alu_70 : decode cX5_alu 70 = .ok (.aload_n 0, 1) := by decide +kernel
theorem dX5_alu_71 : decode cX5_alu 71 = .ok (.iload 5, 2) := by decide +kernel
theorem dX5_alu_73 : decode cX5_alu 73 = .ok (.sipush 255, 3) := by decide +kernel
theorem dX5_alu_76 : decode cX5_alu 76 = .ok (.if_icmp .le 7, 3) := by decide +kernel
theorem dX5_alu_79 : decode cX5_alu 79 = .ok (.iconst 1, 1) := by decide +kernel
theorem dX5_alu_80 : decode cX5_alu 80 = .ok (.goto 4, 3) := by decide +kernel
theorem dX5_alu_83 : decode cX5_alu 83 = .ok (.iconst 0, 1) := by decide +kernel
theorem dX5_alu_84 : decode cX5_alu 84 = .ok (.putfield 66, 3) := by decide +kernel
theorem dX5_alu_87 : decode cX5_alu 87 = .ok (.goto 126, 3) := by decide +kernel
theorem dX5_alu_90 : decode cX5_alu 90 = .ok (.iload_n 1, 1) := by decide +kernel
theorem dX5_alu_91 : decode cX5_alu 91 = .ok (.iconst 2, 1) := by decide +kernel
theorem dX5_alu_92 : decode cX5_alu 92 = .ok (.if_icmp .eq 14, 3) := by decide +kernel
theorem dX5_alu_95 : decode cX5_alu 95 = .ok (.iload_n 1, 1) := by decide +kernel
theorem dX5_alu_96 : decode cX5_alu 96 = .ok (.iconst 3, 1) := by decide +kernel
theorem dX5_alu_97 : decode cX5_alu 97 = .ok (.if_icmp .eq 9, 3) := by decide +kernel
theorem dX5_alu_100 : decode cX5_alu 100 = .ok (.iload_n 1, 1) := by decide +kernel
theorem dX5_alu_101 : decode cX5_alu 101 = .ok (.bipush 7, 2) := by decide +kernel
theorem dX5_alu_103 : decode cX5_alu 103 = .ok (.if_icmp .ne 58, 3) := by decide +kernel
theorem dX5_alu_106 : decode cX5_alu 106 = .ok (.iload_n 3, 1) := by decide +kernel
theorem dX5_alu_107 : decode cX5_alu 107 = .ok (.iload_n 2, 1) := by decide +kernel
theorem dX5_alu_108 : decode cX5_alu 108 = .ok (.isub, 1) := by decide +kernel
theorem dX5_alu_109 : decode cX5_alu 109 = .ok (.iload 4, 2) := by decide +kernel
theorem dX5_alu_111 : decode cX5_alu 111 = .ok (.isub, 1) := by decide +kernel
theorem dX5_alu_112 : decode cX5_alu 112 = .ok (.istore 5, 2) := by decide +kernel
theorem dX5_alu_114 : decode cX5_alu 114 = .ok (.aload_n 0, 1) := by decide +kernel
theorem dX5_alu_115 : decode cX5_alu 115 = .ok (.iload_n 3, 1) := by decide +kernel
theorem dX5_alu_116 : decode cX5_alu 116 = .ok (.bipush 15, 2) := by decide +kernel
theorem dX5_alu_118 : decode cX5_alu 118 = .ok (.iand, 1) := by decide +kernel
theorem dX5_alu_119 : decode cX5_alu 119 = .ok (.iload_n 2, 1) := by decide +kernel
theorem dX5_alu_120 : decode cX5_alu 120 = .ok (.iconst (-1), 1) := by decide +kernel
theorem dX5_alu_121 : decode cX5_alu 121 = .ok (.ixor, 1) := by decide +kernel
theorem dX5_alu_122 : decode cX5_alu 122 = .ok (.bipush 15, 2) := by decide +kernel
theorem dX5_alu_124 : decode cX5_alu 124 = .ok (.iand, 1) := by decide +kernel
theorem dX5_alu_125 : decode cX5_alu 125 = .ok (.iadd, 1) := by decide +kernel
theorem dX5_alu_126 : decode cX5_alu 126 = .ok (.iconst 1, 1) := by decide +kernel
theorem dX5_alu_127 : decode cX5_alu 127 = .ok (.iadd, 1) := by decide +kernel
theorem dX5_alu_128 : decode cX5_alu 128 = .ok (.iload 4, 2) := by decide +kernel
theorem dX5_alu_130 : decode cX5_alu 130 = .ok (.isub, 1) := by decide +kernel
theorem dX5_alu_131 : decode cX5_alu 131 = .ok (.bipush 15, 2) := by decide +kernel
theorem dX5_alu_133 : decode cX5_alu 133 = .ok (.if_icmp .le 7, 3) := by decide +kernel
theorem dX5_alu_136 : decode cX5_alu 136 = .ok (.iconst 1, 1) := by decide +kernel
theorem dX5_alu_137 : decode cX5_alu 137 = .ok (.goto 4, 3) := by decide +kernel
theorem dX5_alu_140 : decode cX5_alu 140 = .ok (.iconst 0, 1) := by decide +kernel
theorem dX5_alu_141 : decode cX5_alu 141 = .ok (.putfield 63, 3) := by decide +kernel
theorem dX5_alu_144 : decode cX5_alu 144 = .ok (.aload_n 0, 1) := by decide +kernel
theorem dX5_alu_145 : decode cX5_alu 145 = .ok (.iload 5, 2) := by decide +kernel
theorem dX5_alu_147 : decode cX5_alu 147 = .ok (.ifCond .ge 7, 3) := by decide +kernel
theorem dX5_alu_150 : decode cX5_alu 150 = .ok (.iconst 1, 1) := by decide +kernel
theorem dX5_alu_151 : decode cX5_alu 151 = .ok (.goto 4, 3) := by decide +kernel
theorem dX5_alu_154 : decode cX5_alu 154 = .ok (.iconst 0, 1) := by decide +kernel
theorem dX5_alu_155 : decode cX5_alu 155 = .ok (.putfield 66, 3) := by decide +kernel
theorem dX5_alu_158 : decode cX5_alu 158 = .ok (.goto 55, 3) := by decide +kernel
theorem dX5_alu_161 : decode cX5_alu 161 = .ok (.iload_n 1, 1) := by decide +kernel
theorem dX5_alu_162 : decode cX5_alu 162 = .ok (.iconst 4, 1) := by decide +kernel
theorem dX5_alu_163 : decode cX5_alu 163 = .ok (.if_icmp .ne 9, 3) := by decide +kernel
theorem dX5_alu_166 : decode cX5_alu 166 = .ok (.iload_n 3, 1) := by decide +kernel
theorem dX5_alu_167 : decode cX5_alu 167 = .ok (.iload_n 2, 1) := by decide +kernel
theorem dX5_alu_168 : decode cX5_alu 168 = .ok (.iand, 1) := by decide +kernel
theorem dX5_alu_169 : decode cX5_alu 169 = .ok (.goto 17, 3) := by decide +kernel
theorem dX5_alu_172 : decode cX5_alu 172 = .ok (.iload_n 1, 1) := by decide +kernel
theorem dX5_alu_173 : decode cX5_alu 173 = .ok (.iconst 5, 1) := by decide +kernel
theorem dX5_alu_174 : decode cX5_alu 174 = .ok (.if_icmp .ne 9, 3) := by decide +kernel
theorem dX5_alu_177 : decode cX5_alu 177 = .ok (.iload_n 3, 1) := by decide +kernel
theorem dX5_alu_178 : decode cX5_alu 178 = .ok (.iload_n 2, 1) := by decide +kernel
theorem dX5_alu_179 : decode cX5_alu 179 = .ok (.ixor, 1) := by decide +kernel
theorem dX5_alu_180 : decode cX5_alu 180 = .ok (.goto 6, 3) := by decide +kernel
theorem dX5_alu_183 : decode cX5_alu 183 = .ok (.iload_n 3, 1) := by decide +kernel
theorem dX5_alu_184 : decode cX5_alu 184 = .ok (.iload_n 2, 1) := by decide +kernel
theorem dX5_alu_185 : decode cX5_alu 185 = .ok (.ior, 1) := by decide +kernel
theorem dX5_alu_186 : decode cX5_alu 186 = .ok (.istore 5, 2) := by decide +kernel
theorem dX5_alu_188 : decode cX5_alu 188 = .ok (.aload_n 0, 1) := by decide +kernel
theorem dX5_alu_189 : decode cX5_alu 189 = .ok (.iload_n 1, 1) := by decide +kernel
theorem dX5_alu_190 : decode cX5_alu 190 = .ok (.iconst 4, 1) := by decide +kernel
theorem dX5_alu_191 : decode cX5_alu 191 = .ok (.if_icmp .ne 13, 3) := by decide +kernel
theorem dX5_alu_194 : decode cX5_alu 194 = .ok (.iload_n 3, 1) := by decide +kernel
theorem dX5_alu_195 : decode cX5_alu 195 = .ok (.iload_n 2, 1) := by decide +kernel
theorem dX5_alu_196 : decode cX5_alu 196 = .ok (.ior, 1) := by decide +kernel
theorem dX5_alu_197 : decode cX5_alu 197 = .ok (.iconst 3, 1) := by decide +kernel
theorem dX5_alu_198 : decode cX5_alu 198 = .ok (.ishr, 1) := by decide +kernel
theorem dX5_alu_199 : decode cX5_alu 199 = .ok (.iconst 1, 1) := by decide +kernel
theorem dX5_alu_200 : decode cX5_alu 200 = .ok (.iand, 1) := by decide +kernel
theorem dX5_alu_201 : decode cX5_alu 201 = .ok (.goto 4, 3) := by decide +kernel
theorem dX5_alu_204 : decode cX5_alu 204 = .ok (.iconst 0, 1) := by decide +kernel
theorem dX5_alu_205 : decode cX5_alu 205 = .ok (.putfield 63, 3) := by decide +kernel
theorem dX5_alu_208 : decode cX5_alu 208 = .ok (.aload_n 0, 1) := by decide +kernel
theorem dX5_alu_209 : decode cX5_alu 209 = .ok (.iconst 0, 1) := by decide +kernel
theorem dX5_alu_210 : decode cX5_alu 210 = .ok (.putfield 66, 3) := by decide +kernel
theorem dX5_alu_213 : decode cX5_alu 213 = .ok (.aload_n 0, 1) := by decide +kernel
theorem dX5_alu_214 : decode cX5_alu 214 = .ok (.iload 5, 2) := by decide +kernel
theorem dX5_alu_216 : decode cX5_alu 216 = .ok (.sipush 255, 3) := by decide +kernel
theorem dX5_alu_219 : decode cX5_alu 219 = .ok (.iand, 1) := by decide +kernel
theorem dX5_alu_220 : decode cX5_alu 220 = .ok (.invokevirtual 69, 3) := by decide +kernel
theorem dX5_alu_223 : decode cX5_alu 223 = .ok (.iload_n 1, 1) := by decide +kernel
theorem dX5_alu_224 : decode cX5_alu 224 = .ok (.bipush 7, 2) := by decide +kernel
theorem dX5_alu_226 : decode cX5_alu 226 = .ok (.if_icmp .ge 16, 3) := by decide +kernel
theorem dX5_alu_229 : decode cX5_alu 229 = .ok (.aload_n 0, 1) := by decide +kernel
theorem dX5_alu_230 : decode cX5_alu 230 = .ok (.getfield 16, 3) := by decide +kernel
theorem dX5_alu_233 : decode cX5_alu 233 = .ok (.bipush 7, 2) := by decide +kernel
theorem dX5_alu_235 : decode cX5_alu 235 = .ok (.iload 5, 2) := by decide +kernel
theorem dX5_alu_237 : decode cX5_alu 237 = .ok (.sipush 255, 3) := by decide +kernel
theorem dX5_alu_240 : decode cX5_alu 240 = .ok (.iand, 1) := by decide +kernel
theorem dX5_alu_241 : decode cX5_alu 241 = .ok (.iastore, 1) := by decide +kernel
theorem dX5_alu_242 : decode cX5_alu 242 = .ok (.return_, 1) := by decide +kernel
set_option maxRecDepth 20000 in
theorem ggX5_count_X5_get : GoodIn wsX5_count wsX5_get := goodIn_r _ [6, 7, 8, 9, 10, 5, 11, 12, 13, 14, 15, 16, 17, 18, 34, 35, 36, 37, 38, 39, 40, 41, 42, 43, 44, 45, 46, 47, 48, 49, 50, 51, 52, 53, 54, 55, 56, 57] (by decide +kernel) (by decide +kernel)
set_option maxRecDepth 20000 in
theorem gX5_count_X5_get : GoodIn wsX5_count (wsV RX5 73 RX5 yX5_get wsX5_get) := goodIn_app (goodIn_of _ (by decide +kernel)) ggX5_count_X5_get
set_option maxRecDepth 20000 in
theorem ggX5_count_X5_set : GoodIn wsX5_count wsX5_set := goodIn_r _ [22, 7, 8, 9, 10, 5, 11, 23, 24, 25, 26, 17, 34, 35, 36, 37, 38, 39, 40, 41, 42, 43, 44, 45, 46, 47, 48, 49, 50, 51, 52, 53, 54, 55, 56, 57] (by decide +kernel) (by decide +kernel)
set_option maxRecDepth 20000 in
theorem gX5_count_X5_set : GoodIn wsX5_count (wsV RX5 76 RX5 yX5_set wsX5_set) := goodIn_app (goodIn_of _ (by decide +kernel)) ggX5_count_X5_set
set_option maxRecDepth 20000 in
theorem ggX5_count_X5_signs : GoodIn wsX5_count wsX5_signs := goodIn_r _ [30, 31, 32, 33, 34, 35, 36, 37, 38, 39, 40, 41, 42, 43, 44, 45, 46, 47, 48, 49, 50, 51, 52, 53, 54, 55, 56, 57] (by decide +kernel) (by decide +kernel)
set_option maxRecDepth 20000 in
theorem gX5_count_X5_signs : GoodIn wsX5_count (wsV RX5 69 RX5 yX5_signs wsX5_signs) := goodIn_app (goodIn_of _ (by decide +kernel)) ggX5_count_X5_signs
theorem dX5_count_0 : decode cX5_count 0 = .ok (.aload_n 0, 1) := by decide +kernel
theorem dX5_count_1 : decode cX5_count 1 = .ok (.iload_n 1, 1) := by decide +kernel
theorem dX5_count_2 : decode cX5_count 2 = .ok (.invokevirtual 73, 3) := by decide +kernel
theorem dX5_count_5 : decode cX5_count 5 = .ok (.iload_n 2, 1) := by decide +kernel
theorem dX5_count_6 : decode cX5_count 6 = .ok (.iadd, 1) := by decide +kernel
theorem dX5_count_7 : decode cX5_count 7 = .ok (.sipush 255, 3) := by decide +kernel
theorem dX5_count_10 : decode cX5_count 10 = .ok (.iand, 1) := by decide +kernel
theorem dX5_count_11 : decode cX5_count 11 = .ok (.istore_n 3, 1) := by decide +kernel
theorem dX5_count_12 : decode cX5_count 12 = .ok (.aload_n 0, 1) := by decide +kernel
theorem dX5_count_13 : decode cX5_count 13 = .ok (.iload_n 1, 1) := by decide +kernel
theorem dX5_count_14 : decode cX5_count 14 = .ok (.iload_n 3, 1) := by decide +kernel
theorem dX5_count_15 : decode cX5_count 15 = .ok (.invokevirtual 76, 3) := by decide +kernel
theorem dX5_count_18 : decode cX5_count 18 = .ok (.aload_n 0, 1) := by decide +kernel
theorem dX5_count_19 : decode cX5_count 19 = .ok (.iload_n 2, 1) := by decide +kernel
theorem dX5_count_20 : decode cX5_count 20 = .ok (.ifCond .le 18, 3) := by decide +kernel
theorem dX5_count_23 : decode cX5_count 23 = .ok (.iload_n 3, 1) := by decide +kernel
theorem dX5_count_24 : decode cX5_count 24 = .ok (.bipush 15, 2) := by decide +kernel
theorem dX5_count_26 : decode cX5_count 26 = .ok (.iand, 1) := by decide +kernel
theorem dX5_count_27 : decode cX5_count 27 = .ok (.ifCond .ne 7, 3) := by decide +kernel
theorem dX5_count_30 : decode cX5_count 30 = .ok (.iconst 1, 1) := by decide +kernel
theorem dX5_count_31 : decode cX5_count 31 = .ok (.goto 21, 3) := by decide +kernel
theorem dX5_count_34 : decode cX5_count 34 = .ok (.iconst 0, 1) := by decide +kernel
theorem dX5_count_35 : decode cX5_count 35 = .ok (.goto 17, 3) := by decide +kernel
theorem dX5_count_38 : decode cX5_count 38 = .ok (.iload_n 3, 1) := by decide +kernel
theorem dX5_count_39 : decode cX5_count 39 = .ok (.bipush 15, 2) := by decide +kernel
theorem dX5_count_41 : decode cX5_count 41 = .ok (.iand, 1) := by decide +kernel
theorem dX5_count_42 : decode cX5_count 42 = .ok (.bipush 15, 2) := by decide +kernel
theorem dX5_count_44 : decode cX5_count 44 = .ok (.if_icmp .ne 7, 3) := by decide +kernel
theorem dX5_count_47 : decode cX5_count 47 = .ok (.iconst 0, 1) := by decide +kernel
theorem dX5_count_48 : decode cX5_count 48 = .ok (.goto 4, 3) := by decide +kernel
theorem dX5_count_51 : decode cX5_count 51 = .ok (.iconst 1, 1) := by decide +kernel
theorem dX5_count_52 : decode cX5_count 52 = .ok (.putfield 63, 3) := by decide +kernel
theorem dX5_count_55 : decode cX5_count 55 = .ok (.aload_n 0, 1) := by decide +kernel
theorem dX5_count_56 : decode cX5_count 56 = .ok (.iload_n 3, 1) := by decide +kernel
theorem dX5_count_57 : decode cX5_count 57 = .ok (.invokevirtual 69, 3) := by decide +kernel
theorem dX5_count_60 : decode cX5_count 60 = .ok (.return_, 1) := by decide +kernel
set_option maxRecDepth 20000 in
theorem ggX5_adjust_X5_signs : GoodIn wsX5_adjust wsX5_signs := goodIn_r _ [8, 9, 10, 11, 12, 13, 14, 15, 16, 17, 18, 19, 20, 21, 22, 23, 24, 25, 26, 27, 28, 29, 30, 31, 32, 33, 34, 35] (by decide +kernel) (by decide +kernel)
set_option maxRecDepth 20000 in
theorem gX5_adjust_X5_signs : GoodIn wsX5_adjust (wsV RX5 69 RX5 yX5_signs wsX5_signs) := goodIn_app (goodIn_of _ (by decide +kernel)) ggX5_adjust_X5_signs
theorem dX5_adjust_0 : decode cX5_adjust 0 = .ok (.aload_n 0, 1) := by decide +kernel
theorem dX5_adjust_1 : decode cX5_adjust 1 = .ok (.getfield 16, 3) := by decide +kernel
theorem dX5_adjust_4 : decode cX5_adjust 4 = .ok (.bipush 7, 2) := by decide +kernel
theorem dX5_adjust_6 : decode cX5_adjust 6 = .ok (.iaload, 1) := by decide +kernel
theorem dX5_adjust_7 : decode cX5_adjust 7 = .ok (.istore_n 1, 1) := by decide +kernel
theorem dX5_adjust_8 : decode cX5_adjust 8 = .ok (.iload_n 1, 1) := by decide +kernel
theorem dX5_adjust_9 : decode cX5_adjust 9 = .ok (.bipush 15, 2) := by decide +kernel
theorem dX5_adjust_11 : decode cX5_adjust 11 = .ok (.iand, 1) := by decide +kernel
theorem dX5_adjust_12 : decode cX5_adjust 12 = .ok (.bipush 9, 2) := by decide +kernel
theorem dX5_adjust_14 : decode cX5_adjust 14 = .ok (.if_icmp .gt 11, 3) := by decide +kernel
theorem dX5_adjust_17 : decode cX5_adjust 17 = .ok (.aload_n 0, 1) := by decide +kernel
theorem dX5_adjust_18 : decode cX5_adjust 18 = .ok (.getfield 63, 3) := by decide +kernel
theorem dX5_adjust_21 : decode cX5_adjust 21 = .ok (.iconst 1, 1) := by decide +kernel
theorem dX5_adjust_22 : decode cX5_adjust 22 = .ok (.if_icmp .ne 8, 3) := by decide +kernel
theorem dX5_adjust_25 : decode cX5_adjust 25 = .ok (.bipush 6, 2) := by decide +kernel
theorem dX5_adjust_27 : decode cX5_adjust 27 = .ok (.goto 4, 3) := by decide +kernel
theorem dX5_adjust_30 : decode cX5_adjust 30 = .ok (.iconst 0, 1) := by decide +kernel
theorem dX5_adjust_31 : decode cX5_adjust 31 = .ok (.istore_n 2, 1) := by decide +kernel
theorem dX5_adjust_32 : decode cX5_adjust 32 = .ok (.iload_n 1, 1) := by decide +kernel
theorem dX5_adjust_33 : decode cX5_adjust 33 = .ok (.sipush 153, 3) := by decide +kernel
theorem dX5_adjust_36 : decode cX5_adjust 36 = .ok (.if_icmp .gt 11, 3) := by decide +kernel
theorem dX5_adjust_39 : decode cX5_adjust 39 = .ok (.aload_n 0, 1) := by decide +kernel
theorem dX5_adjust_40 : decode cX5_adjust 40 = .ok (.getfield 66, 3) := by decide +kernel
theorem dX5_adjust_43 : decode cX5_adjust 43 = .ok (.iconst 1, 1) := by decide +kernel
theorem dX5_adjust_44 : decode cX5_adjust 44 = .ok (.if_icmp .ne 7, 3) := by decide +kernel
theorem dX5_adjust_47 : decode cX5_adjust 47 = .ok (.iconst 1, 1) := by decide +kernel
theorem dX5_adjust_48 : decode cX5_adjust 48 = .ok (.goto 4, 3) := by decide +kernel
theorem dX5_adjust_51 : decode cX5_adjust 51 = .ok (.iconst 0, 1) := by decide +kernel
theorem dX5_adjust_52 : decode cX5_adjust 52 = .ok (.istore_n 3, 1) := by decide +kernel
theorem dX5_adjust_53 : decode cX5_adjust 53 = .ok (.aload_n 0, 1) := by decide +kernel
theorem dX5_adjust_54 : decode cX5_adjust 54 = .ok (.iload_n 1, 1) := by decide +kernel
theorem dX5_adjust_55 : decode cX5_adjust 55 = .ok (.bipush 15, 2) := by decide +kernel
theorem dX5_adjust_57 : decode cX5_adjust 57 = .ok (.iand, 1) := by decide +kernel
theorem dX5_adjust_58 : decode cX5_adjust 58 = .ok (.iload_n 2, 1) := by decide +kernel
theorem dX5_adjust_59 : decode cX5_adjust 59 = .ok (.iadd, 1) := by decide +kernel
theorem dX5_adjust_60 : decode cX5_adjust 60 = .ok (.bipush 15, 2) := by decide +kernel
theorem dX5_adjust_62 : decode cX5_adjust 62 = .ok (.if_icmp .le 7, 3) := by decide +kernel
theorem dX5_adjust_65 : decode cX5_adjust 65 = .ok (.iconst 1, 1) := by decide +kernel
theorem dX5_adjust_66 : decode cX5_adjust 66 = .ok (.goto 4, 3) := by decide +kernel
theorem dX5_adjust_69 : decode cX5_adjust 69 = .ok (.iconst 0, 1) := by decide +kernel
theorem dX5_adjust_70 : decode cX5_adjust 70 = .ok (.putfield 63, 3) := by decide +kernel
theorem dX5_adjust_73 : decode cX5_adjust 73 = .ok (.aload_n 0, 1) := by decide +kernel
theorem dX5_adjust_74 : decode cX5_adjust 74 = .ok (.iload_n 3, 1) := by decide +kernel
theorem dX5_adjust_75 : decode cX5_adjust 75 = .ok (.ifCond .eq 7, 3) := by decide +kernel
theorem dX5_adjust_78 : decode cX5_adjust 78 = .ok (.iconst 1, 1) := by decide +kernel
theorem dX5_adjust_79 : decode cX5_adjust 79 = .ok (.goto 4, 3) := by decide +kernel
theorem dX5_adjust_82 : decode cX5_adjust 82 = .ok (.iconst 0, 1) := by decide +kernel
theorem dX5_adjust_83 : decode cX5_adjust 83 = .ok (.putfield 66, 3) := by decide +kernel
theorem dX5_adjust_86 : decode cX5_adjust 86 = .ok (.aload_n 0, 1) := by decide +kernel
theorem dX5_adjust_87 : decode cX5_adjust 87 = .ok (.getfield 16, 3) := by decide +kernel
theorem dX5_adjust_90 : decode cX5_adjust 90 = .ok (.bipush 7, 2) := by decide +kernel
theorem dX5_adjust_92 : decode cX5_adjust 92 = .ok (.iload_n 1, 1) := by decide +kernel
theorem dX5_adjust_93 : decode cX5_adjust 93 = .ok (.iload_n 2, 1) := by decide +kernel
theorem dX5_adjust_94 : decode cX5_adjust 94 = .ok (.iadd, 1) := by decide +kernel
theorem dX5_adjust_95 : decode cX5_adjust 95 = .ok (.iload_n 3, 1) := by decide +kernel
theorem dX5_adjust_96 : decode cX5_adjust 96 = .ok (.ifCond .eq 8, 3) := by decide +kernel
theorem dX5_adjust_99 : decode cX5_adjust 99 = .ok (.bipush 96, 2) := by decide +kernel
theorem dX5_adjust_101 : decode cX5_adjust 101 = .ok (.goto 4, 3) := by decide +kernel
theorem dX5_adjust_104 : decode cX5_adjust 104 = .ok (.iconst 0, 1) := by decide +kernel
theorem dX5_adjust_105 : decode cX5_adjust 105 = .ok (.iadd, 1) := by decide +kernel
theorem dX5_adjust_106 : decode cX5_adjust 106 = .ok (.sipush 255, 3) := by decide +kernel
theorem dX5_adjust_109 : decode cX5_adjust 109 = .ok (.iand, 1) := by decide +kernel
theorem dX5_adjust_110 : decode cX5_adjust 110 = .ok (.iastore, 1) := by decide +kernel
theorem dX5_adjust_111 : decode cX5_adjust 111 = .ok (.aload_n 0, 1) := by decide +kernel
theorem dX5_adjust_112 : decode cX5_adjust 112 = .ok (.aload_n 0, 1) := by decide +kernel
theorem dX5_adjust_113 : decode cX5_adjust 113 = .ok (.getfield 16, 3) := by decide +kernel
theorem dX5_adjust_116 : decode cX5_adjust 116 = .ok (.bipush 7, 2) := by decide +kernel
theorem dX5_adjust_118 : decode cX5_adjust 118 = .ok (.iaload, 1) := by decide +kernel
theorem dX5_adjust_119 : decode cX5_adjust 119 = .ok (.invokevirtual 69, 3) := by decide +kernel
theorem dX5_adjust_122 : decode cX5_adjust 122 = .ok (.return_, 1) := by decide +kernel
set_option maxRecDepth 20000 in
theorem ggX5_turn_X5_adjust : GoodIn wsX5_turn wsX5_adjust := goodIn_r _ [7, 1, 8, 2, 9, 10, 11, 6, 12, 13, 14, 15, 16, 17, 18, 19, 20, 21, 22, 23, 24, 25, 26, 27, 28, 29, 30, 31, 32, 33, 34, 35, 36, 37, 38, 39] (by decide +kernel) (by decide +kernel)
set_option maxRecDepth 20000 in
theorem gX5_turn_X5_adjust : GoodIn wsX5_turn (wsV RX5 79 RX5 yX5_adjust wsX5_adjust) := goodIn_app (goodIn_of _ (by decide +kernel)) ggX5_turn_X5_adjust
theorem dX5_turn_0 : decode cX5_turn 0 = .ok (.aload_n 0, 1) := by decide +kernel
theorem dX5_turn_1 : decode cX5_turn 1 = .ok (.getfield 16, 3) := by decide +kernel
theorem dX5_turn_4 : decode cX5_turn 4 = .ok (.bipush 7, 2) := by decide +kernel
theorem dX5_turn_6 : decode cX5_turn 6 = .ok (.iaload, 1) := by decide +kernel
theorem dX5_turn_7 : decode cX5_turn 7 = .ok (.istore_n 2, 1) := by decide +kernel
theorem dX5_turn_8 : decode cX5_turn 8 = .ok (.iload_n 1, 1) := by decide +kernel
theorem dX5_turn_9 : decode cX5_turn 9 = .ok (.ifCond .eq 8, 3) := by decide +kernel
theorem dX5_turn_12 : decode cX5_turn 12 = .ok (.iload_n 1, 1) := by decide +kernel
theorem dX5_turn_13 : decode cX5_turn 13 = .ok (.iconst 2, 1) := by decide +kernel
theorem dX5_turn_14 : decode cX5_turn 14 = .ok (.if_icmp .ne 44, 3) := by decide +kernel
theorem dX5_turn_17 : decode cX5_turn 17 = .ok (.aload_n 0, 1) := by decide +kernel
theorem dX5_turn_18 : decode cX5_turn 18 = .ok (.getfield 16, 3) := by decide +kernel
theorem dX5_turn_21 : decode cX5_turn 21 = .ok (.bipush 7, 2) := by decide +kernel
theorem dX5_turn_23 : decode cX5_turn 23 = .ok (.iload_n 2, 1) := by decide +kernel
theorem dX5_turn_24 : decode cX5_turn 24 = .ok (.iconst 1, 1) := by decide +kernel
theorem dX5_turn_25 : decode cX5_turn 25 = .ok (.ishl, 1) := by decide +kernel
theorem dX5_turn_26 : decode cX5_turn 26 = .ok (.sipush 254, 3) := by decide +kernel
theorem dX5_turn_29 : decode cX5_turn 29 = .ok (.iand, 1) := by decide +kernel
theorem dX5_turn_30 : decode cX5_turn 30 = .ok (.iload_n 1, 1) := by decide +kernel
theorem dX5_turn_31 : decode cX5_turn 31 = .ok (.ifCond .ne 10, 3) := by decide +kernel
theorem dX5_turn_34 : decode cX5_turn 34 = .ok (.iload_n 2, 1) := by decide +kernel
theorem dX5_turn_35 : decode cX5_turn 35 = .ok (.bipush 7, 2) := by decide +kernel
theorem dX5_turn_37 : decode cX5_turn 37 = .ok (.ishr, 1) := by decide +kernel
theorem dX5_turn_38 : decode cX5_turn 38 = .ok (.goto 7, 3) := by decide +kernel
theorem dX5_turn_41 : decode cX5_turn 41 = .ok (.aload_n 0, 1) := by decide +kernel
theorem dX5_turn_42 : decode cX5_turn 42 = .ok (.getfield 66, 3) := by decide +kernel
theorem dX5_turn_45 : decode cX5_turn 45 = .ok (.ior, 1) := by decide +kernel
theorem dX5_turn_46 : decode cX5_turn 46 = .ok (.iastore, 1) := by decide +kernel
theorem dX5_turn_47 : decode cX5_turn 47 = .ok (.aload_n 0, 1) := by decide +kernel
theorem dX5_turn_48 : decode cX5_turn 48 = .ok (.iload_n 2, 1) := by decide +kernel
theorem dX5_turn_49 : decode cX5_turn 49 = .ok (.bipush 7, 2) := by decide +kernel
theorem dX5_turn_51 : decode cX5_turn 51 = .ok (.ishr, 1) := by decide +kernel
theorem dX5_turn_52 : decode cX5_turn 52 = .ok (.putfield 66, 3) := by decide +kernel
theorem dX5_turn_55 : decode cX5_turn 55 = .ok (.goto 106, 3) := by decide +kernel
theorem dX5_turn_58 : decode cX5_turn 58 = .ok (.iload_n 1, 1) := by decide +kernel
theorem dX5_turn_59 : decode cX5_turn 59 = .ok (.iconst 1, 1) := by decide +kernel
theorem dX5_turn_60 : decode cX5_turn 60 = .ok (.if_icmp .eq 8, 3) := by decide +kernel
theorem dX5_turn_63 : decode cX5_turn 63 = .ok (.iload_n 1, 1) := by decide +kernel
theorem dX5_turn_64 : decode cX5_turn 64 = .ok (.iconst 3, 1) := by decide +kernel
theorem dX5_turn_65 : decode cX5_turn 65 = .ok (.if_icmp .ne 42, 3) := by decide +kernel
theorem dX5_turn_68 : decode cX5_turn 68 = .ok (.aload_n 0, 1) := by decide +kernel
theorem dX5_turn_69 : decode cX5_turn 69 = .ok (.getfield 16, 3) := by decide +kernel
theorem dX5_turn_72 : decode cX5_turn 72 = .ok (.bipush 7, 2) := by decide +kernel
theorem dX5_turn_74 : decode cX5_turn 74 = .ok (.iload_n 2, 1) := by decide +kernel
theorem dX5_turn_75 : decode cX5_turn 75 = .ok (.iconst 1, 1) := by decide +kernel
theorem dX5_turn_76 : decode cX5_turn 76 = .ok (.ishr, 1) := by decide +kernel
theorem dX5_turn_77 : decode cX5_turn 77 = .ok (.iload_n 1, 1) := by decide +kernel
theorem dX5_turn_78 : decode cX5_turn 78 = .ok (.iconst 1, 1) := by decide +kernel
theorem dX5_turn_79 : decode cX5_turn 79 = .ok (.if_icmp .ne 9, 3) := by decide +kernel
theorem dX5_turn_82 : decode cX5_turn 82 = .ok (.iload_n 2, 1) := by decide +kernel
theorem dX5_turn_83 : decode cX5_turn 83 = .ok (.iconst 1, 1) := by decide +kernel
theorem dX5_turn_84 : decode cX5_turn 84 = .ok (.iand, 1) := by decide +kernel
theorem dX5_turn_85 : decode cX5_turn 85 = .ok (.goto 7, 3) := by decide +kernel
theorem dX5_turn_88 : decode cX5_turn 88 = .ok (.aload_n 0, 1) := by decide +kernel
theorem dX5_turn_89 : decode cX5_turn 89 = .ok (.getfield 66, 3) := by decide +kernel
theorem dX5_turn_92 : decode cX5_turn 92 = .ok (.bipush 7, 2) := by decide +kernel
theorem dX5_turn_94 : decode cX5_turn 94 = .ok (.ishl, 1) := by decide +kernel
theorem dX5_turn_95 : decode cX5_turn 95 = .ok (.ior, 1) := by decide +kernel
theorem dX5_turn_96 : decode cX5_turn 96 = .ok (.iastore, 1) := by decide +kernel
theorem dX5_turn_97 : decode cX5_turn 97 = .ok (.aload_n 0, 1) := by decide +kernel
theorem dX5_turn_98 : decode cX5_turn 98 = .ok (.iload_n 2, 1) := by decide +kernel
theorem dX5_turn_99 : decode cX5_turn 99 = .ok (.iconst 1, 1) := by decide +kernel
theorem dX5_turn_100 : decode cX5_turn 100 = .ok (.iand, 1) := by decide +kernel
theorem dX5_turn_101 : decode cX5_turn 101 = .ok (.putfield 66, 3) := by decide +kernel
theorem dX5_turn_104 : decode cX5_turn 104 = .ok (.goto 57, 3) := by decide +kernel
theorem dX5_turn_107 : decode cX5_turn 107 = .ok (.iload_n 1, 1) := by decide +kernel
theorem dX5_turn_108 : decode cX5_turn 108 = .ok (.iconst 4, 1) := by decide +kernel
theorem dX5_turn_109 : decode cX5_turn 109 = .ok (.if_icmp .ne 10, 3) := by decide +kernel
theorem dX5_turn_112 : decode cX5_turn 112 = .ok (.aload_n 0, 1) := by decide +kernel
theorem dX5_turn_113 : decode cX5_turn 113 = .ok (.invokevirtual 79, 3) := by decide +kernel
theorem dX5_turn_116 : decode cX5_turn 116 = .ok (.goto 45, 3) := by decide +kernel
theorem dX5_turn_119 : decode cX5_turn 119 = .ok (.iload_n 1, 1) := by decide +kernel
theorem dX5_turn_120 : decode cX5_turn 120 = .ok (.iconst 5, 1) := by decide +kernel
theorem dX5_turn_121 : decode cX5_turn 121 = .ok (.if_icmp .ne 20, 3) := by decide +kernel
theorem dX5_turn_124 : decode cX5_turn 124 = .ok (.aload_n 0, 1) := by decide +kernel
theorem dX5_turn_125 : decode cX5_turn 125 = .ok (.getfield 16, 3) := by decide +kernel
theorem dX5_turn_128 : decode cX5_turn 128 = .ok (.bipush 7, 2) := by decide +kernel
theorem dX5_turn_130 : decode cX5_turn 130 = .ok (.iload_n 2, 1) := by decide +kernel
theorem dX5_turn_131 : decode cX5_turn 131 = .ok (.iconst (-1), 1) := by decide +kernel
theorem dX5_turn_132 : decode cX5_turn 132 = .ok (.ixor, 1) := by decide +kernel
theorem dX5_turn_133 : decode cX5_turn 133 = .ok (.sipush 255, 3) := by decide +kernel
theorem dX5_turn_136 : decode cX5_turn 136 = .ok (.iand, 1) := by decide +kernel
theorem dX5_turn_137 : decode cX5_turn 137 = .ok (.iastore, 1) := by decide +kernel
theorem dX5_turn_138 : decode cX5_turn 138 = .ok (.goto 23, 3) := by decide +kernel
theorem dX5_turn_141 : decode cX5_turn 141 = .ok (.aload_n 0, 1) := by decide +kernel
theorem dX5_turn_142 : decode cX5_turn 142 = .ok (.iload_n 1, 1) := by decide +kernel
theorem dX5_turn_143 : decode cX5_turn 143 = .ok (.bipush 6, 2) := by decide +kernel
theorem dX5_turn_145 : decode cX5_turn 145 = .ok (.if_icmp .ne 7, 3) := by decide +kernel
theorem dX5_turn_148 : decode cX5_turn 148 = .ok (.iconst 1, 1) := by decide +kernel
theorem dX5_turn_149 : decode cX5_turn 149 = .ok (.goto 9, 3) := by decide +kernel
theorem dX5_turn_152 : decode cX5_turn 152 = .ok (.iconst 1, 1) := by decide +kernel
theorem dX5_turn_153 : decode cX5_turn 153 = .ok (.aload_n 0, 1) := by decide +kernel
theorem dX5_turn_154 : decode cX5_turn 154 = .ok (.getfield 66, 3) := by decide +kernel
theorem dX5_turn_157 : decode cX5_turn 157 = .ok (.isub, 1) := by decide +kernel
theorem dX5_turn_158 : decode cX5_turn 158 = .ok (.putfield 66, 3) := by decide +kernel
theorem dX5_turn_161 : decode cX5_turn 161 = .ok (.return_, 1) := by decide +kernel
theorem dX5_holds_0 : decode cX5_holds 0 = .ok (.iload_n 1, 1) := by decide +kernel
theorem dX5_holds_1 : decode cX5_holds 1 = .ok (.iconst 2, 1) := by decide +kernel
theorem dX5_holds_2 : decode cX5_holds 2 = .ok (.if_icmp .ge 10, 3) := by decide +kernel
theorem dX5_holds_5 : decode cX5_holds 5 = .ok (.aload_n 0, 1) := by decide +kernel
theorem dX5_holds_6 : decode cX5_holds 6 = .ok (.getfield 57, 3) := by decide +kernel
theorem dX5_holds_9 : decode cX5_holds 9 = .ok (.goto 32, 3) := by decide +kernel
theorem dX5_holds_12 : decode cX5_holds 12 = .ok (.iload_n 1, 1) := by decide +kernel
theorem dX5_holds_13 : decode cX5_holds 13 = .ok (.iconst 4, 1) := by decide +kernel
theorem dX5_holds_14 : decode cX5_holds 14 = .ok (.if_icmp .ge 10, 3) := by decide +kernel
theorem dX5_holds_17 : decode cX5_holds 17 = .ok (.aload_n 0, 1) := by decide +kernel
theorem dX5_holds_18 : decode cX5_holds 18 = .ok (.getfield 66, 3) := by decide +kernel
theorem dX5_holds_21 : decode cX5_holds 21 = .ok (.goto 20, 3) := by decide +kernel
theorem dX5_holds_24 : decode cX5_holds 24 = .ok (.iload_n 1, 1) := by decide +kernel
theorem dX5_holds_25 : decode cX5_holds 25 = .ok (.bipush 6, 2) := by decide +kernel
theorem dX5_holds_27 : decode cX5_holds 27 = .ok (.if_icmp .ge 10, 3) := by decide +kernel
theorem dX5_holds_30 : decode cX5_holds 30 = .ok (.aload_n 0, 1) := by decide +kernel
theorem dX5_holds_31 : decode cX5_holds 31 = .ok (.getfield 60, 3) := by decide +kernel
theorem dX5_holds_34 : decode cX5_holds 34 = .ok (.goto 7, 3) := by decide +kernel
theorem dX5_holds_37 : decode cX5_holds 37 = .ok (.aload_n 0, 1) := by decide +kernel
theorem dX5_holds_38 : decode cX5_holds 38 = .ok (.getfield 54, 3) := by decide +kernel
theorem dX5_holds_41 : decode cX5_holds 41 = .ok (.istore_n 2, 1) := by decide +kernel
theorem dX5_holds_42 : decode cX5_holds 42 = .ok (.iload_n 2, 1) := by decide +kernel
theorem dX5_holds_43 : decode cX5_holds 43 = .ok (.iload_n 1, 1) := by decide +kernel
theorem dX5_holds_44 : decode cX5_holds 44 = .ok (.iconst 1, 1) := by decide +kernel
theorem dX5_holds_45 : decode cX5_holds 45 = .ok (.iand, 1) := by decide +kernel
theorem dX5_holds_46 : decode cX5_holds 46 = .ok (.if_icmp .ne 7, 3) := by decide +kernel
theorem dX5_holds_49 : decode cX5_holds 49 = .ok (.iconst 1, 1) := by decide +kernel
theorem dX5_holds_50 : decode cX5_holds 50 = .ok (.goto 4, 3) := by decide +kernel
theorem dX5_holds_53 : decode cX5_holds 53 = .ok (.iconst 0, 1) := by decide +kernel
theorem dX5_holds_54 : decode cX5_holds 54 = .ok (.ireturn, 1) := by decide +kernel
set_option maxRecDepth 20000 in
theorem ggX5_one_X5_next : GoodIn wsX5_one wsX5_next := goodIn_r _ [6, 7, 8, 9, 10, 11, 5, 12, 13, 14, 135, 136, 137, 138, 139, 140, 141, 142, 143, 144, 145, 146, 147, 148, 149, 150, 151, 152, 153, 154, 155, 156, 157, 158] (by decide +kernel) (by decide +kernel)
set_option maxRecDepth 20000 in
theorem gX5_one_X5_next : GoodIn wsX5_one (wsV RX5 40 RX5 yX5_next wsX5_next) := goodIn_app (goodIn_of _ (by decide +kernel)) ggX5_one_X5_next
set_option maxRecDepth 20000 in
theorem ggX5_one_X5_get : GoodIn wsX5_one wsX5_get := goodIn_r _ [18, 19, 20, 21, 22, 5, 23, 9, 10, 11, 12, 8, 13, 14, 135, 136, 137, 138, 139, 140, 141, 142, 143, 144, 145, 146, 147, 148, 149, 150, 151, 152, 153, 154, 155, 156, 157, 158] (by decide +kernel) (by decide +kernel)
set_option maxRecDepth 20000 in
theorem gX5_one_X5_get : GoodIn wsX5_one (wsV RX5 73 RX5 yX5_get wsX5_get) := goodIn_app (goodIn_of _ (by decide +kernel)) ggX5_one_X5_get
set_option maxRecDepth 20000 in
theorem ggX5_one_X5_set : GoodIn wsX5_one wsX5_set := goodIn_r _ [27, 19, 20, 21, 22, 5, 23, 28, 29, 30, 31, 13, 135, 136, 137, 138, 139, 140, 141, 142, 143, 144, 145, 146, 147, 148, 149, 150, 151, 152, 153, 154, 155, 156, 157, 158] (by decide +kernel) (by decide +kernel)
set_option maxRecDepth 20000 in
theorem gX5_one_X5_set : GoodIn wsX5_one (wsV RX5 76 RX5 yX5_set wsX5_set) := goodIn_app (goodIn_of _ (by decide +kernel)) ggX5_one_X5_set
set_option maxRecDepth 20000 in
theorem ggX5_one_X5_alu : GoodIn wsX5_one wsX5_alu := goodIn_r _ [35, 19, 36, 37, 38, 39, 40, 5, 41, 42, 43, 44, 135, 136, 137, 138, 139, 140, 141, 142, 143, 144, 145, 146, 147, 148, 149, 150, 151, 152, 153, 154, 155, 156, 157, 158] (by decide +kernel) (by decide +kernel)
set_option maxRecDepth 20000 in
theorem gX5_one_X5_alu : GoodIn wsX5_one (wsV RX5 86 RX5 yX5_alu wsX5_alu) := goodIn_app (goodIn_of _ (by decide +kernel)) ggX5_one_X5_alu
set_option maxRecDepth 20000 in
theorem ggX5_one_X5_low : GoodIn wsX5_one wsX5_low := goodIn_r _ [48, 36, 8, 20, 21, 22, 5, 23, 19, 49, 50, 51, 52, 53, 54, 55, 56, 57, 58, 59, 60, 61, 2, 3, 4, 6, 7, 9, 10, 11, 12, 13, 14, 62, 63, 64, 65, 28, 29, 30, 31, 66, 67, 68, 69, 37, 15, 16, 17, 18, 24, 25, 26, 27, 38, 39, 40, 41, 42, 43, 44, 70, 71, 72, 73, 74, 75, 76, 77, 135, 136, 137, 138, 139, 140, 141, 142, 143, 144, 145, 146, 147, 148, 149, 150, 151, 152, 153, 154, 155, 156, 157, 158] (by decide +kernel) (by decide +kernel)
set_option maxRecDepth 20000 in
theorem gX5_one_X5_low : GoodIn wsX5_one (wsV RX5 89 RX5 yX5_low wsX5_low) := goodIn_app (goodIn_of _ (by decide +kernel)) ggX5_one_X5_low
set_option maxRecDepth 20000 in
theorem ggX5_one_X5_high : GoodIn wsX5_one wsX5_high := goodIn_r _ [81, 7, 19, 82, 83, 84, 5, 85, 43, 36, 44, 42, 86, 87, 88, 89, 53, 8, 9, 10, 11, 12, 13, 14, 90, 91, 92, 93, 94, 95, 96, 97, 37, 54, 55, 56, 57, 98, 99, 100, 101, 20, 21, 22, 23, 58, 59, 60, 61, 2, 3, 4, 6, 102, 103, 104, 105, 106, 107, 108, 109, 110, 111, 112, 113, 114, 115, 116, 117, 118, 119, 120, 121, 122, 28, 29, 30, 31, 49, 50, 51, 52, 123, 124, 125, 126, 127, 128, 129, 130, 131, 132, 133, 134, 32, 33, 34, 35, 38, 39, 40, 41, 135, 136, 137, 138, 139, 140, 141, 142, 143, 144, 145, 146, 147, 148, 149, 150, 151, 152, 153, 154, 155, 156, 157, 158] (by decide +kernel) (by decide +kernel)
set_option maxRecDepth 20000 in
theorem gX5_one_X5_high : GoodIn wsX5_one (wsV RX5 93 RX5 yX5_high wsX5_high) := goodIn_app (goodIn_of _ (by decide +kernel)) ggX5_one_X5_high
theorem dX5_one_0 : decode cX5_one 0 = .ok (.aload_n 0, 1) := by decide +kernel
theorem dX5_one_1 : decode cX5_one 1 = .ok (.invokevirtual 40, 3) := by decide +kernel
theorem dX5_one_4 : decode cX5_one 4 = .ok (.istore_n 1, 1) := by decide +kernel
theorem dX5_one_5 : decode cX5_one 5 = .ok (.iload_n 1, 1) := by decide +kernel
theorem dX5_one_6 : decode cX5_one 6 = .ok (.bipush 6, 2) := by decide +kernel
theorem dX5_one_8 : decode cX5_one 8 = .ok (.ishr, 1) := by decide +kernel
theorem dX5_one_9 : decode cX5_one 9 = .ok (.istore_n 2, 1) := by decide +kernel
theorem dX5_one_10 : decode cX5_one 10 = .ok (.iload_n 1, 1) := by decide +kernel
theorem dX5_one_11 : decode cX5_one 11 = .ok (.iconst 3, 1) := by decide +kernel
theorem dX5_one_12 : decode cX5_one 12 = .ok (.ishr, 1) := by decide +kernel
theorem dX5_one_13 : decode cX5_one 13 = .ok (.bipush 7, 2) := by decide +kernel
theorem dX5_one_15 : decode cX5_one 15 = .ok (.iand, 1) := by decide +kernel
theorem dX5_one_16 : decode cX5_one 16 = .ok (.istore_n 3, 1) := by decide +kernel
theorem dX5_one_17 : decode cX5_one 17 = .ok (.iload_n 1, 1) := by decide +kernel
theorem dX5_one_18 : decode cX5_one 18 = .ok (.bipush 7, 2) := by decide +kernel
theorem dX5_one_20 : decode cX5_one 20 = .ok (.iand, 1) := by decide +kernel
theorem dX5_one_21 : decode cX5_one 21 = .ok (.istore 4, 2) := by decide +kernel
theorem dX5_one_23 : decode cX5_one 23 = .ok (.iload_n 1, 1) := by decide +kernel
theorem dX5_one_24 : decode cX5_one 24 = .ok (.bipush 118, 2) := by decide +kernel
theorem dX5_one_26 : decode cX5_one 26 = .ok (.if_icmp .ne 11, 3) := by decide +kernel
theorem dX5_one_29 : decode cX5_one 29 = .ok (.aload_n 0, 1) := by decide +kernel
theorem dX5_one_30 : decode cX5_one 30 = .ok (.iconst 1, 1) := by decide +kernel
theorem dX5_one_31 : decode cX5_one 31 = .ok (.putfield 82, 3) := by decide +kernel
theorem dX5_one_34 : decode cX5_one 34 = .ok (.bipush 7, 2) := by decide +kernel
theorem dX5_one_36 : decode cX5_one 36 = .ok (.ireturn, 1) := by decide +kernel
theorem dX5_one_37 : decode cX5_one 37 = .ok (.iload_n 2, 1) := by decide +kernel
theorem dX5_one_38 : decode cX5_one 38 = .ok (.iconst 1, 1) := by decide +kernel
theorem dX5_one_39 : decode cX5_one 39 = .ok (.if_icmp .ne 34, 3) := by decide +kernel
theorem dX5_one_42 : decode cX5_one 42 = .ok (.aload_n 0, 1) := by decide +kernel
theorem dX5_one_43 : decode cX5_one 43 = .ok (.iload_n 3, 1) := by decide +kernel
theorem dX5_one_44 : decode cX5_one 44 = .ok (.aload_n 0, 1) := by decide +kernel
theorem dX5_one_45 : decode cX5_one 45 = .ok (.iload 4, 2) := by decide +kernel
theorem dX5_one_47 : decode cX5_one 47 = .ok (.invokevirtual 73, 3) := by decide +kernel
theorem dX5_one_50 : decode cX5_one 50 = .ok (.invokevirtual 76, 3) := by decide +kernel
theorem dX5_one_53 : decode cX5_one 53 = .ok (.iload_n 3, 1) := by decide +kernel
theorem dX5_one_54 : decode cX5_one 54 = .ok (.bipush 6, 2) := by decide +kernel
theorem dX5_one_56 : decode cX5_one 56 = .ok (.if_icmp .eq 10, 3) := by decide +kernel
theorem dX5_one_59 : decode cX5_one 59 = .ok (.iload 4, 2) := by decide +kernel
theorem dX5_one_61 : decode cX5_one 61 = .ok (.bipush 6, 2) := by decide +kernel
theorem dX5_one_63 : decode cX5_one 63 = .ok (.if_icmp .ne 8, 3) := by decide +kernel
theorem dX5_one_66 : decode cX5_one 66 = .ok (.bipush 7, 2) := by decide +kernel
theorem dX5_one_68 : decode cX5_one 68 = .ok (.goto 4, 3) := by decide +kernel
theorem dX5_one_71 : decode cX5_one 71 = .ok (.iconst 5, 1) := by decide +kernel
theorem dX5_one_72 : decode cX5_one 72 = .ok (.ireturn, 1) := by decide +kernel
theorem dX5_one_73 : decode cX5_one 73 = .ok (.iload_n 2, 1) := by decide +kernel
theorem dX5_one_74 : decode cX5_one 74 = .ok (.iconst 2, 1) := by decide +kernel
theorem dX5_one_75 : decode cX5_one 75 = .ok (.if_icmp .ne 28, 3) := by decide +kernel
theorem dX5_one_78 : decode cX5_one 78 = .ok (.aload_n 0, 1) := by decide +kernel
theorem dX5_one_79 : decode cX5_one 79 = .ok (.iload_n 3, 1) := by decide +kernel
theorem dX5_one_80 : decode cX5_one 80 = .ok (.aload_n 0, 1) := by decide +kernel
theorem dX5_one_81 : decode cX5_one 81 = .ok (.iload 4, 2) := by decide +kernel
theorem dX5_one_83 : decode cX5_one 83 = .ok (.invokevirtual 73, 3) := by decide +kernel
theorem dX5_one_86 : decode cX5_one 86 = .ok (.invokevirtual 86, 3) := by decide +kernel
theorem dX5_one_89 : decode cX5_one 89 = .ok (.iload 4, 2) := by decide +kernel
theorem dX5_one_91 : decode cX5_one 91 = .ok (.bipush 6, 2) := by decide +kernel
theorem dX5_one_93 : decode cX5_one 93 = .ok (.if_icmp .ne 8, 3) := by decide +kernel
theorem dX5_one_96 : decode cX5_one 96 = .ok (.bipush 7, 2) := by decide +kernel
theorem dX5_one_98 : decode cX5_one 98 = .ok (.goto 4, 3) := by decide +kernel
theorem dX5_one_101 : decode cX5_one 101 = .ok (.iconst 4, 1) := by decide +kernel
theorem dX5_one_102 : decode cX5_one 102 = .ok (.ireturn, 1) := by decide +kernel
theorem dX5_one_103 : decode cX5_one 103 = .ok (.iload_n 2, 1) := by decide +kernel
theorem dX5_one_104 : decode cX5_one 104 = .ok (.ifCond .ne 13, 3) := by decide +kernel
theorem dX5_one_107 : decode cX5_one 107 = .ok (.aload_n 0, 1) := by decide +kernel
theorem dX5_one_108 : decode cX5_one 108 = .ok (.iload_n 3, 1) := by decide +kernel
theorem dX5_one_109 : decode cX5_one 109 = .ok (.iload 4, 2) := by decide +kernel
theorem dX5_one_111 : decode cX5_one 111 = .ok (.invokevirtual 89, 3) := by decide +kernel
theorem dX5_one_114 : decode cX5_one 114 = .ok (.goto 10, 3) := by decide +kernel
theorem dX5_one_117 : decode cX5_one 117 = .ok (.aload_n 0, 1) := by decide +kernel
theorem dX5_one_118 : decode cX5_one 118 = .ok (.iload_n 3, 1) := by decide +kernel
theorem dX5_one_119 : decode cX5_one 119 = .ok (.iload 4, 2) := by decide +kernel
theorem dX5_one_121 : decode cX5_one 121 = .ok (.invokevirtual 93, 3) := by decide +kernel
theorem dX5_one_124 : decode cX5_one 124 = .ok (.ireturn, 1) := by decide +kernel
set_option maxRecDepth 20000 in
theorem ggX5_low_X5_hl : GoodIn wsX5_low wsX5_hl := goodIn_r _ [7, 8, 69, 70, 71, 72, 73, 74, 75, 76, 77, 78, 79, 80, 81, 82, 83, 84, 85, 86, 87, 88, 89, 90, 91, 92] (by decide +kernel) (by decide +kernel)
set_option maxRecDepth 20000 in
theorem gX5_low_X5_hl : GoodIn wsX5_low (wsV RX5 51 RX5 yX5_hl wsX5_hl) := goodIn_app (goodIn_of _ (by decide +kernel)) ggX5_low_X5_hl
set_option maxRecDepth 20000 in
theorem ggX5_low_X5_pair : GoodIn wsX5_low wsX5_pair := goodIn_r _ [12, 13, 8, 69, 70, 71, 72, 73, 74, 75, 76, 77, 78, 79, 80, 81, 82, 83, 84, 85, 86, 87, 88, 89, 90, 91, 92] (by decide +kernel) (by decide +kernel)
set_option maxRecDepth 20000 in
theorem gX5_low_X5_pair : GoodIn wsX5_low (wsV RX5 96 RX5 yX5_pair wsX5_pair) := goodIn_app (goodIn_of _ (by decide +kernel)) ggX5_low_X5_pair
set_option maxRecDepth 20000 in
theorem ggX5_low_X5_setPair : GoodIn wsX5_low wsX5_setPair := goodIn_r _ [17, 2, 13, 8, 69, 70, 71, 72, 73, 74, 75, 76, 77, 78, 79, 80, 81, 82, 83, 84, 85, 86, 87, 88, 89, 90, 91, 92] (by decide +kernel) (by decide +kernel)
set_option maxRecDepth 20000 in
theorem gX5_low_X5_setPair : GoodIn wsX5_low (wsV RX5 99 RX5 yX5_setPair wsX5_setPair) := goodIn_app (goodIn_of _ (by decide +kernel)) ggX5_low_X5_setPair
set_option maxRecDepth 20000 in
theorem ggX5_low_X5_nextTwo : GoodIn wsX5_low wsX5_nextTwo := goodIn_r _ [21, 22, 23, 24, 6, 25, 26, 2, 27, 28, 29, 30, 31, 32, 69, 70, 71, 72, 73, 74, 75, 76, 77, 78, 79, 80, 81, 82, 83, 84, 85, 86, 87, 88, 89, 90, 91, 92] (by decide +kernel) (by decide +kernel)
set_option maxRecDepth 20000 in
theorem gX5_low_X5_nextTwo : GoodIn wsX5_low (wsV RX5 102 RX5 yX5_nextTwo wsX5_nextTwo) := goodIn_app (goodIn_of _ (by decide +kernel)) ggX5_low_X5_nextTwo
set_option maxRecDepth 20000 in
theorem ggX5_low_X5_moved : GoodIn wsX5_low wsX5_moved := goodIn_r _ [36, 8, 2, 9, 10, 11, 6, 12, 13, 37, 38, 39, 40, 31, 27, 28, 29, 30, 32, 18, 19, 20, 21, 22, 23, 24, 25, 26, 69, 70, 71, 72, 73, 74, 75, 76, 77, 78, 79, 80, 81, 82, 83, 84, 85, 86, 87, 88, 89, 90, 91, 92] (by decide +kernel) (by decide +kernel)
set_option maxRecDepth 20000 in
theorem gX5_low_X5_moved : GoodIn wsX5_low (wsV RX5 105 RX5 yX5_moved wsX5_moved) := goodIn_app (goodIn_of _ (by decide +kernel)) ggX5_low_X5_moved
set_option maxRecDepth 20000 in
theorem ggX5_low_X5_count : GoodIn wsX5_low wsX5_count := goodIn_r _ [44, 45, 46, 47, 48, 6, 49, 8, 3, 4, 5, 7, 27, 28, 29, 30, 2, 31, 32, 50, 51, 52, 53, 37, 38, 39, 40, 54, 55, 56, 57, 58, 59, 60, 69, 70, 71, 72, 73, 74, 75, 76, 77, 78, 79, 80, 81, 82, 83, 84, 85, 86, 87, 88, 89, 90, 91, 92] (by decide +kernel) (by decide +kernel)
set_option maxRecDepth 20000 in
theorem gX5_low_X5_count : GoodIn wsX5_low (wsV RX5 108 RX5 yX5_count wsX5_count) := goodIn_app (goodIn_of _ (by decide +kernel)) ggX5_low_X5_count
set_option maxRecDepth 20000 in
theorem ggX5_low_X5_next : GoodIn wsX5_low wsX5_next := goodIn_r _ [25, 26, 2, 27, 28, 29, 6, 30, 31, 32, 69, 70, 71, 72, 73, 74, 75, 76, 77, 78, 79, 80, 81, 82, 83, 84, 85, 86, 87, 88, 89, 90, 91, 92] (by decide +kernel) (by decide +kernel)
set_option maxRecDepth 20000 in
theorem gX5_low_X5_next : GoodIn wsX5_low (wsV RX5 40 RX5 yX5_next wsX5_next) := goodIn_app (goodIn_of _ (by decide +kernel)) ggX5_low_X5_next
set_option maxRecDepth 20000 in
theorem ggX5_low_X5_set : GoodIn wsX5_low wsX5_set := goodIn_r _ [53, 8, 3, 4, 5, 6, 7, 37, 38, 39, 40, 31, 69, 70, 71, 72, 73, 74, 75, 76, 77, 78, 79, 80, 81, 82, 83, 84, 85, 86, 87, 88, 89, 90, 91, 92] (by decide +kernel) (by decide +kernel)
set_option maxRecDepth 20000 in
theorem gX5_low_X5_set : GoodIn wsX5_low (wsV RX5 76 RX5 yX5_set wsX5_set) := goodIn_app (goodIn_of _ (by decide +kernel)) ggX5_low_X5_set
set_option maxRecDepth 20000 in
theorem ggX5_low_X5_turn : GoodIn wsX5_low wsX5_turn := goodIn_r _ [64, 8, 1, 65, 66, 67, 6, 68, 45, 54, 55, 56, 57, 58, 59, 60, 69, 70, 71, 72, 73, 74, 75, 76, 77, 78, 79, 80, 81, 82, 83, 84, 85, 86, 87, 88, 89, 90, 91, 92] (by decide +kernel) (by decide +kernel)
set_option maxRecDepth 20000 in
theorem gX5_low_X5_turn : GoodIn wsX5_low (wsV RX5 111 RX5 yX5_turn wsX5_turn) := goodIn_app (goodIn_of _ (by decide +kernel)) ggX5_low_X5_turn
theorem dX5_low_0 : decode cX5_low 0 = .ok (.iload_n 1, 1) := by decide +kernel
theorem dX5_low_1 : decode cX5_low 1 = .ok (.iconst 1, 1) := by decide +kernel
theorem dX5_low_2 : decode cX5_low 2 = .ok (.ishr, 1) := by decide +kernel
theorem dX5_low_3 : decode cX5_low 3 = .ok (.istore_n 3, 1) := by decide +kernel
theorem dX5_low_4 : decode cX5_low 4 = .ok (.iload_n 1, 1) := by decide +kernel
theorem dX5_low_5 : decode cX5_low 5 = .ok (.iconst 1, 1) := by decide +kernel
theorem dX5_low_6 : decode cX5_low 6 = .ok (.iand, 1) := by decide +kernel
theorem dX5_low_7 : decode cX5_low 7 = .ok (.iconst 1, 1) := by decide +kernel
theorem dX5_low_8 : decode cX5_low 8 = .ok (.if_icmp .ne 7, 3) := by decide +kernel
theorem dX5_low_11 : decode cX5_low 11 = .ok (.iconst 1, 1) := by decide +kernel
theorem dX5_low_12 : decode cX5_low 12 = .ok (.goto 4, 3) := by decide +kernel
theorem dX5_low_15 : decode cX5_low 15 = .ok (.iconst 0, 1) := by decide +kernel
theorem dX5_low_16 : decode cX5_low 16 = .ok (.istore 4, 2) := by decide +kernel
theorem dX5_low_18 : decode cX5_low 18 = .ok (.iload_n 2, 1) := by decide +kernel
theorem dX5_low_19 : decode cX5_low 19 = .ok (.ifCond .ne 5, 3) := by decide +kernel
theorem dX5_low_22 : decode cX5_low 22 = .ok (.iconst 4, 1) := by decide +kernel
theorem dX5_low_23 : decode cX5_low 23 = .ok (.ireturn, 1) := by decide +kernel
theorem dX5_low_24 : decode cX5_low 24 = .ok (.iload_n 2, 1) := by decide +kernel
theorem dX5_low_25 : decode cX5_low 25 = .ok (.iconst 1, 1) := by decide +kernel
theorem dX5_low_26 : decode cX5_low 26 = .ok (.if_icmp .ne 54, 3) := by decide +kernel
theorem dX5_low_29 : decode cX5_low 29 = .ok (.iload 4, 2) := by decide +kernel
theorem dX5_low_31 : decode cX5_low 31 = .ok (.ifCond .eq 37, 3) := by decide +kernel
theorem dX5_low_34 : decode cX5_low 34 = .ok (.aload_n 0, 1) := by decide +kernel
theorem dX5_low_35 : decode cX5_low 35 = .ok (.invokevirtual 51, 3) := by decide +kernel
theorem dX5_low_38 : decode cX5_low 38 = .ok (.aload_n 0, 1) := by decide +kernel
theorem dX5_low_39 : decode cX5_low 39 = .ok (.iload_n 3, 1) := by decide +kernel
theorem dX5_low_40 : decode cX5_low 40 = .ok (.invokevirtual 96, 3) := by decide +kernel
theorem dX5_low_43 : decode cX5_low 43 = .ok (.iadd, 1) := by decide +kernel
theorem dX5_low_44 : decode cX5_low 44 = .ok (.istore 5, 2) := by decide +kernel
theorem dX5_low_46 : decode cX5_low 46 = .ok (.aload_n 0, 1) := by decide +kernel
theorem dX5_low_47 : decode cX5_low 47 = .ok (.iload 5, 2) := by decide +kernel
theorem dX5_low_49 : decode cX5_low 49 = .ok (.bipush 16, 2) := by decide +kernel
theorem dX5_low_51 : decode cX5_low 51 = .ok (.ishr, 1) := by decide +kernel
theorem dX5_low_52 : decode cX5_low 52 = .ok (.putfield 66, 3) := by decide +kernel
theorem dX5_low_55 : decode cX5_low 55 = .ok (.aload_n 0, 1) := by decide +kernel
theorem dX5_low_56 : decode cX5_low 56 = .ok (.iconst 2, 1) := by decide +kernel
theorem dX5_low_57 : decode cX5_low 57 = .ok (.iload 5, 2) := by decide +kernel
theorem dX5_low_59 : decode cX5_low 59 = .ok (.ldc 32, 2) := by decide +kernel
theorem dX5_low_61 : decode cX5_low 61 = .ok (.iand, 1) := by decide +kernel
theorem dX5_low_62 : decode cX5_low 62 = .ok (.invokevirtual 99, 3) := by decide +kernel
theorem dX5_low_65 : decode cX5_low 65 = .ok (.goto 12, 3) := by decide +kernel
theorem dX5_low_68 : decode cX5_low 68 = .ok (.aload_n 0, 1) := by decide +kernel
theorem dX5_low_69 : decode cX5_low 69 = .ok (.iload_n 3, 1) := by decide +kernel
theorem dX5_low_70 : decode cX5_low 70 = .ok (.aload_n 0, 1) := by decide +kernel
theorem dX5_low_71 : decode cX5_low 71 = .ok (.invokevirtual 102, 3) := by decide +kernel
theorem dX5_low_74 : decode cX5_low 74 = .ok (.invokevirtual 99, 3) := by decide +kernel
theorem dX5_low_77 : decode cX5_low 77 = .ok (.bipush 10, 2) := by decide +kernel
theorem dX5_low_79 : decode cX5_low 79 = .ok (.ireturn, 1) := by decide +kernel
theorem dX5_low_80 : decode cX5_low 80 = .ok (.iload_n 2, 1) := by decide +kernel
theorem dX5_low_81 : decode cX5_low 81 = .ok (.iconst 2, 1) := by decide +kernel
theorem dX5_low_82 : decode cX5_low 82 = .ok (.if_icmp .ne 9, 3) := by decide +kernel
theorem dX5_low_85 : decode cX5_low 85 = .ok (.aload_n 0, 1) := by decide +kernel
theorem dX5_low_86 : decode cX5_low 86 = .ok (.iload_n 1, 1) := by decide +kernel
theorem dX5_low_87 : decode cX5_low 87 = .ok (.invokevirtual 105, 3) := by decide +kernel
theorem dX5_low_90 : decode cX5_low 90 = .ok (.ireturn, 1) := by decide +kernel
theorem dX5_low_91 : decode cX5_low 91 = .ok (.iload_n 2, 1) := by decide +kernel
theorem dX5_low_92 : decode cX5_low 92 = .ok (.iconst 3, 1) := by decide +kernel
theorem dX5_low_93 : decode cX5_low 93 = .ok (.if_icmp .ne 29, 3) := by decide +kernel
theorem dX5_low_96 : decode cX5_low 96 = .ok (.aload_n 0, 1) := by decide +kernel
theorem dX5_low_97 : decode cX5_low 97 = .ok (.iload_n 3, 1) := by decide +kernel
theorem dX5_low_98 : decode cX5_low 98 = .ok (.aload_n 0, 1) := by decide +kernel
theorem dX5_low_99 : decode cX5_low 99 = .ok (.iload_n 3, 1) := by decide +kernel
theorem dX5_low_100 : decode cX5_low 100 = .ok (.invokevirtual 96, 3) := by decide +kernel
theorem dX5_low_103 : decode cX5_low 103 = .ok (.iload 4, 2) := by decide +kernel
theorem dX5_low_105 : decode cX5_low 105 = .ok (.ifCond .eq 7, 3) := by decide +kernel
theorem dX5_low_108 : decode cX5_low 108 = .ok (.iconst (-1), 1) := by decide +kernel
theorem dX5_low_109 : decode cX5_low 109 = .ok (.goto 4, 3) := by decide +kernel
theorem dX5_low_112 : decode cX5_low 112 = .ok (.iconst 1, 1) := by decide +kernel
theorem dX5_low_113 : decode cX5_low 113 = .ok (.iadd, 1) := by decide +kernel
theorem dX5_low_114 : decode cX5_low 114 = .ok (.ldc 32, 2) := by decide +kernel
theorem dX5_low_116 : decode cX5_low 116 = .ok (.iand, 1) := by decide +kernel
theorem dX5_low_117 : decode cX5_low 117 = .ok (.invokevirtual 99, 3) := by decide +kernel
theorem dX5_low_120 : decode cX5_low 120 = .ok (.iconst 5, 1) := by decide +kernel
theorem dX5_low_121 : decode cX5_low 121 = .ok (.ireturn, 1) := by decide +kernel
theorem dX5_low_122 : decode cX5_low 122 = .ok (.iload_n 2, 1) := by decide +kernel
theorem dX5_low_123 : decode cX5_low 123 = .ok (.bipush 6, 2) := by decide +kernel
theorem dX5_low_125 : decode cX5_low 125 = .ok (.if_icmp .ge 31, 3) := by decide +kernel
theorem dX5_low_128 : decode cX5_low 128 = .ok (.aload_n 0, 1) := by decide +kernel
theorem dX5_low_129 : decode cX5_low 129 = .ok (.iload_n 1, 1) := by decide +kernel
theorem dX5_low_130 : decode cX5_low 130 = .ok (.iload_n 2, 1) := by decide +kernel
theorem dX5_low_131 : decode cX5_low 131 = .ok (.iconst 4, 1) := by decide +kernel
theorem dX5_low_132 : decode cX5_low 132 = .ok (.if_icmp .ne 7, 3) := by decide +kernel
theorem dX5_low_135 : decode cX5_low 135 = .ok (.iconst 1, 1) := by decide +kernel
theorem dX5_low_136 : decode cX5_low 136 = .ok (.goto 4, 3) := by decide +kernel
theorem dX5_low_139 : decode cX5_low 139 = .ok (.iconst (-1), 1) := by decide +kernel
theorem dX5_low_140 : decode cX5_low 140 = .ok (.invokevirtual 108, 3) := by decide +kernel
theorem dX5_low_143 : decode cX5_low 143 = .ok (.iload_n 1, 1) := by decide +kernel
theorem dX5_low_144 : decode cX5_low 144 = .ok (.bipush 6, 2) := by decide +kernel
theorem dX5_low_146 : decode cX5_low 146 = .ok (.if_icmp .ne 8, 3) := by decide +kernel
theorem dX5_low_149 : decode cX5_low 149 = .ok (.bipush 10, 2) := by decide +kernel
theorem dX5_low_151 : decode cX5_low 151 = .ok (.goto 4, 3) := by decide +kernel
theorem dX5_low_154 : decode cX5_low 154 = .ok (.iconst 5, 1) := by decide +kernel
theorem dX5_low_155 : decode cX5_low 155 = .ok (.ireturn, 1) := by decide +kernel
theorem dX5_low_156 : decode cX5_low 156 = .ok (.iload_n 2, 1) := by decide +kernel
theorem dX5_low_157 : decode cX5_low 157 = .ok (.bipush 6, 2) := by decide +kernel
theorem dX5_low_159 : decode cX5_low 159 = .ok (.if_icmp .ne 26, 3) := by decide +kernel
theorem dX5_low_162 : decode cX5_low 162 = .ok (.aload_n 0, 1) := by decide +kernel
theorem dX5_low_163 : decode cX5_low 163 = .ok (.iload_n 1, 1) := by decide +kernel
theorem dX5_low_164 : decode cX5_low 164 = .ok (.aload_n 0, 1) := by decide +kernel
theorem dX5_low_165 : decode cX5_low 165 = .ok (.invokevirtual 40, 3) := by decide +kernel
theorem dX5_low_168 : decode cX5_low 168 = .ok (.invokevirtual 76, 3) := by decide +kernel
theorem dX5_low_171 : decode cX5_low 171 = .ok (.iload_n 1, 1) := by decide +kernel
theorem dX5_low_172 : decode cX5_low 172 = .ok (.bipush 6, 2) := by decide +kernel
theorem dX5_low_174 : decode cX5_low 174 = .ok (.if_icmp .ne 8, 3) := by decide +kernel
theorem dX5_low_177 : decode cX5_low 177 = .ok (.bipush 10, 2) := by decide +kernel
theorem dX5_low_179 : decode cX5_low 179 = .ok (.goto 5, 3) := by decide +kernel
theorem dX5_low_182 : decode cX5_low 182 = .ok (.bipush 7, 2) := by decide +kernel
theorem dX5_low_184 : decode cX5_low 184 = .ok (.ireturn, 1) := by decide +kernel
theorem dX5_low_185 : decode cX5_low 185 = .ok (.aload_n 0, 1) := by decide +kernel
theorem dX5_low_186 : decode cX5_low 186 = .ok (.iload_n 1, 1) := by decide +kernel
theorem dX5_low_187 : decode cX5_low 187 = .ok (.invokevirtual 111, 3) := by decide +kernel
theorem dX5_low_190 : decode cX5_low 190 = .ok (.iconst 4, 1) := by decide +kernel
theorem dX5_low_191 : decode cX5_low 191 = .ok (.ireturn, 1) := by decide +kernel
set_option maxRecDepth 20000 in
theorem ggX5_moved_X5_pair : GoodIn wsX5_moved wsX5_pair := goodIn_r _ [7, 8, 1, 28, 29, 30, 31, 32, 33, 34, 35, 36, 37, 38, 39, 40, 41, 42, 43, 44, 45, 46, 47, 48, 49, 50, 51] (by decide +kernel) (by decide +kernel)
set_option maxRecDepth 20000 in
theorem gX5_moved_X5_pair : GoodIn wsX5_moved (wsV RX5 96 RX5 yX5_pair wsX5_pair) := goodIn_app (goodIn_of _ (by decide +kernel)) ggX5_moved_X5_pair
set_option maxRecDepth 20000 in
theorem ggX5_moved_X5_write : GoodIn wsX5_moved wsX5_write := goodIn_r _ [12, 13, 28, 29, 30, 31, 32, 33, 34, 35, 36, 37, 38, 39, 40, 41, 42, 43, 44, 45, 46, 47, 48, 49, 50, 51] (by decide +kernel) (by decide +kernel)
set_option maxRecDepth 20000 in
theorem gX5_moved_X5_write : GoodIn wsX5_moved (wsV RX5 47 RX5 yX5_write wsX5_write) := goodIn_app (goodIn_of _ (by decide +kernel)) ggX5_moved_X5_write
set_option maxRecDepth 20000 in
theorem ggX5_moved_X5_read : GoodIn wsX5_moved wsX5_read := goodIn_r _ [17, 2, 13, 18, 28, 29, 30, 31, 32, 33, 34, 35, 36, 37, 38, 39, 40, 41, 42, 43, 44, 45, 46, 47, 48, 49, 50, 51] (by decide +kernel) (by decide +kernel)
set_option maxRecDepth 20000 in
theorem gX5_moved_X5_read : GoodIn wsX5_moved (wsV RX5 36 RX5 yX5_read wsX5_read) := goodIn_app (goodIn_of _ (by decide +kernel)) ggX5_moved_X5_read
set_option maxRecDepth 20000 in
theorem ggX5_moved_X5_nextTwo : GoodIn wsX5_moved wsX5_nextTwo := goodIn_r _ [22, 23, 24, 25, 6, 26, 27, 2, 14, 15, 16, 17, 13, 18, 28, 29, 30, 31, 32, 33, 34, 35, 36, 37, 38, 39, 40, 41, 42, 43, 44, 45, 46, 47, 48, 49, 50, 51] (by decide +kernel) (by decide +kernel)
set_option maxRecDepth 20000 in
theorem gX5_moved_X5_nextTwo : GoodIn wsX5_moved (wsV RX5 102 RX5 yX5_nextTwo wsX5_nextTwo) := goodIn_app (goodIn_of _ (by decide +kernel)) ggX5_moved_X5_nextTwo
theorem dX5_moved_0 : decode cX5_moved 0 = .ok (.iload_n 1, 1) := by decide +kernel
theorem dX5_moved_1 : decode cX5_moved 1 = .ok (.iconst 4, 1) := by decide +kernel
theorem dX5_moved_2 : decode cX5_moved 2 = .ok (.if_icmp .ge 47, 3) := by decide +kernel
theorem dX5_moved_5 : decode cX5_moved 5 = .ok (.aload_n 0, 1) := by decide +kernel
theorem dX5_moved_6 : decode cX5_moved 6 = .ok (.iload_n 1, 1) := by decide +kernel
theorem dX5_moved_7 : decode cX5_moved 7 = .ok (.iconst 1, 1) := by decide +kernel
theorem dX5_moved_8 : decode cX5_moved 8 = .ok (.ishr, 1) := by decide +kernel
theorem dX5_moved_9 : decode cX5_moved 9 = .ok (.invokevirtual 96, 3) := by decide +kernel
theorem dX5_moved_12 : decode cX5_moved 12 = .ok (.istore_n 2, 1) := by decide +kernel
theorem dX5_moved_13 : decode cX5_moved 13 = .ok (.iload_n 1, 1) := by decide +kernel
theorem dX5_moved_14 : decode cX5_moved 14 = .ok (.iconst 1, 1) := by decide +kernel
theorem dX5_moved_15 : decode cX5_moved 15 = .ok (.iand, 1) := by decide +kernel
theorem dX5_moved_16 : decode cX5_moved 16 = .ok (.ifCond .ne 18, 3) := by decide +kernel
theorem dX5_moved_19 : decode cX5_moved 19 = .ok (.aload_n 0, 1) := by decide +kernel
theorem dX5_moved_20 : decode cX5_moved 20 = .ok (.iload_n 2, 1) := by decide +kernel
theorem dX5_moved_21 : decode cX5_moved 21 = .ok (.aload_n 0, 1) := by decide +kernel
theorem dX5_moved_22 : decode cX5_moved 22 = .ok (.getfield 16, 3) := by decide +kernel
theorem dX5_moved_25 : decode cX5_moved 25 = .ok (.bipush 7, 2) := by decide +kernel
theorem dX5_moved_27 : decode cX5_moved 27 = .ok (.iaload, 1) := by decide +kernel
theorem dX5_moved_28 : decode cX5_moved 28 = .ok (.invokevirtual 47, 3) := by decide +kernel
theorem dX5_moved_31 : decode cX5_moved 31 = .ok (.goto 15, 3) := by decide +kernel
theorem dX5_moved_34 : decode cX5_moved 34 = .ok (.aload_n 0, 1) := by decide +kernel
theorem dX5_moved_35 : decode cX5_moved 35 = .ok (.getfield 16, 3) := by decide +kernel
theorem dX5_moved_38 : decode cX5_moved 38 = .ok (.bipush 7, 2) := by decide +kernel
theorem dX5_moved_40 : decode cX5_moved 40 = .ok (.aload_n 0, 1) := by decide +kernel
theorem dX5_moved_41 : decode cX5_moved 41 = .ok (.iload_n 2, 1) := by decide +kernel
theorem dX5_moved_42 : decode cX5_moved 42 = .ok (.invokevirtual 36, 3) := by decide +kernel
theorem dX5_moved_45 : decode cX5_moved 45 = .ok (.iastore, 1) := by decide +kernel
theorem dX5_moved_46 : decode cX5_moved 46 = .ok (.bipush 7, 2) := by decide +kernel
theorem dX5_moved_48 : decode cX5_moved 48 = .ok (.ireturn, 1) := by decide +kernel
theorem dX5_moved_49 : decode cX5_moved 49 = .ok (.aload_n 0, 1) := by decide +kernel
theorem dX5_moved_50 : decode cX5_moved 50 = .ok (.invokevirtual 102, 3) := by decide +kernel
theorem dX5_moved_53 : decode cX5_moved 53 = .ok (.istore_n 2, 1) := by decide +kernel
theorem dX5_moved_54 : decode cX5_moved 54 = .ok (.iload_n 1, 1) := by decide +kernel
theorem dX5_moved_55 : decode cX5_moved 55 = .ok (.iconst 4, 1) := by decide +kernel
theorem dX5_moved_56 : decode cX5_moved 56 = .ok (.if_icmp .ne 33, 3) := by decide +kernel
theorem dX5_moved_59 : decode cX5_moved 59 = .ok (.aload_n 0, 1) := by decide +kernel
theorem dX5_moved_60 : decode cX5_moved 60 = .ok (.iload_n 2, 1) := by decide +kernel
theorem dX5_moved_61 : decode cX5_moved 61 = .ok (.aload_n 0, 1) := by decide +kernel
theorem dX5_moved_62 : decode cX5_moved 62 = .ok (.getfield 16, 3) := by decide +kernel
theorem dX5_moved_65 : decode cX5_moved 65 = .ok (.iconst 5, 1) := by decide +kernel
theorem dX5_moved_66 : decode cX5_moved 66 = .ok (.iaload, 1) := by decide +kernel
theorem dX5_moved_67 : decode cX5_moved 67 = .ok (.invokevirtual 47, 3) := by decide +kernel
theorem dX5_moved_70 : decode cX5_moved 70 = .ok (.aload_n 0, 1) := by decide +kernel
theorem dX5_moved_71 : decode cX5_moved 71 = .ok (.iload_n 2, 1) := by decide +kernel
theorem dX5_moved_72 : decode cX5_moved 72 = .ok (.iconst 1, 1) := by decide +kernel
theorem dX5_moved_73 : decode cX5_moved 73 = .ok (.iadd, 1) := by decide +kernel
theorem dX5_moved_74 : decode cX5_moved 74 = .ok (.ldc 32, 2) := by decide +kernel
theorem dX5_moved_76 : decode cX5_moved 76 = .ok (.iand, 1) := by decide +kernel
theorem dX5_moved_77 : decode cX5_moved 77 = .ok (.aload_n 0, 1) := by decide +kernel
theorem dX5_moved_78 : decode cX5_moved 78 = .ok (.getfield 16, 3) := by decide +kernel
theorem dX5_moved_81 : decode cX5_moved 81 = .ok (.iconst 4, 1) := by decide +kernel
theorem dX5_moved_82 : decode cX5_moved 82 = .ok (.iaload, 1) := by decide +kernel
theorem dX5_moved_83 : decode cX5_moved 83 = .ok (.invokevirtual 47, 3) := by decide +kernel
theorem dX5_moved_86 : decode cX5_moved 86 = .ok (.goto 71, 3) := by decide +kernel
theorem dX5_moved_89 : decode cX5_moved 89 = .ok (.iload_n 1, 1) := by decide +kernel
theorem dX5_moved_90 : decode cX5_moved 90 = .ok (.iconst 5, 1) := by decide +kernel
theorem dX5_moved_91 : decode cX5_moved 91 = .ok (.if_icmp .ne 33, 3) := by decide +kernel
theorem dX5_moved_94 : decode cX5_moved 94 = .ok (.aload_n 0, 1) := by decide +kernel
theorem dX5_moved_95 : decode cX5_moved 95 = .ok (.getfield 16, 3) := by decide +kernel
theorem dX5_moved_98 : decode cX5_moved 98 = .ok (.iconst 5, 1) := by decide +kernel
theorem dX5_moved_99 : decode cX5_moved 99 = .ok (.aload_n 0, 1) := by decide +kernel
theorem dX5_moved_100 : decode cX5_moved 100 = .ok (.iload_n 2, 1) := by decide +kernel
theorem dX5_moved_101 : decode cX5_moved 101 = .ok (.invokevirtual 36, 3) := by decide +kernel
theorem dX5_moved_104 : decode cX5_moved 104 = .ok (.iastore, 1) := by decide +kernel
theorem dX5_moved_105 : decode cX5_moved 105 = .ok (.aload_n 0, 1) := by decide +kernel
theorem dX5_moved_106 : decode cX5_moved 106 = .ok (.getfield 16, 3) := by decide +kernel
theorem dX5_moved_109 : decode cX5_moved 109 = .ok (.iconst 4, 1) := by decide +kernel
theorem dX5_moved_110 : decode cX5_moved 110 = .ok (.aload_n 0, 1) := by decide +kernel
theorem dX5_moved_111 : decode cX5_moved 111 = .ok (.iload_n 2, 1) := by decide +kernel
theorem dX5_moved_112 : decode cX5_moved 112 = .ok (.iconst 1, 1) := by decide +kernel
theorem dX5_moved_113 : decode cX5_moved 113 = .ok (.iadd, 1) := by decide +kernel
theorem dX5_moved_114 : decode cX5_moved 114 = .ok (.ldc 32, 2) := by decide +kernel
theorem dX5_moved_116 : decode cX5_moved 116 = .ok (.iand, 1) := by decide +kernel
theorem dX5_moved_117 : decode cX5_moved 117 = .ok (.invokevirtual 36, 3) := by decide +kernel
theorem dX5_moved_120 : decode cX5_moved 120 = .ok (.iastore, 1) := by decide +kernel
theorem dX5_moved_121 : decode cX5_moved 121 = .ok (.goto 36, 3) := by decide +kernel
theorem dX5_moved_124 : decode cX5_moved 124 = .ok (.iload_n 1, 1) := by decide +kernel
theorem dX5_moved_125 : decode cX5_moved 125 = .ok (.bipush 6, 2) := by decide +kernel
theorem dX5_moved_127 : decode cX5_moved 127 = .ok (.if_icmp .ne 18, 3) := by decide +kernel
theorem dX5_moved_130 : decode cX5_moved 130 = .ok (.aload_n 0, 1) := by decide +kernel
theorem dX5_moved_131 : decode cX5_moved 131 = .ok (.iload_n 2, 1) := by decide +kernel
theorem dX5_moved_132 : decode cX5_moved 132 = .ok (.aload_n 0, 1) := by decide +kernel
theorem dX5_moved_133 : decode cX5_moved 133 = .ok (.getfield 16, 3) := by decide +kernel
theorem dX5_moved_136 : decode cX5_moved 136 = .ok (.bipush 7, 2) := by decide +kernel
theorem dX5_moved_138 : decode cX5_moved 138 = .ok (.iaload, 1) := by decide +kernel
theorem dX5_moved_139 : decode cX5_moved 139 = .ok (.invokevirtual 47, 3) := by decide +kernel
theorem dX5_moved_142 : decode cX5_moved 142 = .ok (.goto 15, 3) := by decide +kernel
theorem dX5_moved_145 : decode cX5_moved 145 = .ok (.aload_n 0, 1) := by decide +kernel
theorem dX5_moved_146 : decode cX5_moved 146 = .ok (.getfield 16, 3) := by decide +kernel
theorem dX5_moved_149 : decode cX5_moved 149 = .ok (.bipush 7, 2) := by decide +kernel
theorem dX5_moved_151 : decode cX5_moved 151 = .ok (.aload_n 0, 1) := by decide +kernel
theorem dX5_moved_152 : decode cX5_moved 152 = .ok (.iload_n 2, 1) := by decide +kernel
theorem dX5_moved_153 : decode cX5_moved 153 = .ok (.invokevirtual 36, 3) := by decide +kernel
theorem dX5_moved_156 : decode cX5_moved 156 = .ok (.iastore, 1) := by decide +kernel
theorem dX5_moved_157 : decode cX5_moved 157 = .ok (.iload_n 1, 1) := by decide +kernel
theorem dX5_moved_158 : decode cX5_moved 158 = .ok (.bipush 6, 2) := by decide +kernel
theorem dX5_moved_160 : decode cX5_moved 160 = .ok (.if_icmp .ge 8, 3) := by decide +kernel
theorem dX5_moved_163 : decode cX5_moved 163 = .ok (.bipush 16, 2) := by decide +kernel
theorem dX5_moved_165 : decode cX5_moved 165 = .ok (.goto 5, 3) := by decide +kernel
theorem dX5_moved_168 : decode cX5_moved 168 = .ok (.bipush 13, 2) := by decide +kernel
theorem dX5_moved_170 : decode cX5_moved 170 = .ok (.ireturn, 1) := by decide +kernel
set_option maxRecDepth 20000 in
theorem ggX5_high_X5_holds : GoodIn wsX5_high wsX5_holds := goodIn_r _ [7, 8, 9, 10, 11, 102, 103, 104, 105, 106, 107, 108, 109, 110, 111, 112, 113, 114, 115, 116, 117, 118, 119, 120, 121, 122, 123, 124, 125] (by decide +kernel) (by decide +kernel)
set_option maxRecDepth 20000 in
theorem gX5_high_X5_holds : GoodIn wsX5_high (wsV RX5 114 RX5 yX5_holds wsX5_holds) := goodIn_app (goodIn_of _ (by decide +kernel)) ggX5_high_X5_holds
set_option maxRecDepth 20000 in
theorem ggX5_high_X5_pop : GoodIn wsX5_high wsX5_pop := goodIn_r _ [15, 16, 17, 18, 19, 20, 6, 21, 22, 23, 102, 103, 104, 105, 106, 107, 108, 109, 110, 111, 112, 113, 114, 115, 116, 117, 118, 119, 120, 121, 122, 123, 124, 125] (by decide +kernel) (by decide +kernel)
set_option maxRecDepth 20000 in
theorem gX5_high_X5_pop : GoodIn wsX5_high (wsV RX5 118 RX5 yX5_pop wsX5_pop) := goodIn_app (goodIn_of _ (by decide +kernel)) ggX5_high_X5_pop
set_option maxRecDepth 20000 in
theorem ggX5_high_X5_popped : GoodIn wsX5_high wsX5_popped := goodIn_r _ [27, 2, 12, 13, 14, 6, 15, 16, 17, 18, 19, 20, 21, 22, 23, 28, 29, 30, 31, 11, 8, 32, 10, 9, 33, 34, 35, 36, 102, 103, 104, 105, 106, 107, 108, 109, 110, 111, 112, 113, 114, 115, 116, 117, 118, 119, 120, 121, 122, 123, 124, 125] (by decide +kernel) (by decide +kernel)
set_option maxRecDepth 20000 in
theorem gX5_high_X5_popped : GoodIn wsX5_high (wsV RX5 121 RX5 yX5_popped wsX5_popped) := goodIn_app (goodIn_of _ (by decide +kernel)) ggX5_high_X5_popped
set_option maxRecDepth 20000 in
theorem ggX5_high_X5_odd : GoodIn wsX5_high wsX5_odd := goodIn_r _ [40, 1, 16, 12, 13, 14, 6, 15, 17, 18, 19, 20, 21, 22, 23, 41, 42, 43, 44, 2, 102, 103, 104, 105, 106, 107, 108, 109, 110, 111, 112, 113, 114, 115, 116, 117, 118, 119, 120, 121, 122, 123, 124, 125] (by decide +kernel) (by decide +kernel)
set_option maxRecDepth 20000 in
theorem gX5_high_X5_odd : GoodIn wsX5_high (wsV RX5 124 RX5 yX5_odd wsX5_odd) := goodIn_app (goodIn_of _ (by decide +kernel)) ggX5_high_X5_odd
set_option maxRecDepth 20000 in
theorem ggX5_high_X5_nextTwo : GoodIn wsX5_high wsX5_nextTwo := goodIn_r _ [48, 49, 50, 51, 6, 52, 1, 17, 18, 19, 20, 21, 22, 23, 102, 103, 104, 105, 106, 107, 108, 109, 110, 111, 112, 113, 114, 115, 116, 117, 118, 119, 120, 121, 122, 123, 124, 125] (by decide +kernel) (by decide +kernel)
set_option maxRecDepth 20000 in
theorem gX5_high_X5_nextTwo : GoodIn wsX5_high (wsV RX5 102 RX5 yX5_nextTwo wsX5_nextTwo) := goodIn_app (goodIn_of _ (by decide +kernel)) ggX5_high_X5_nextTwo
set_option maxRecDepth 20000 in
theorem ggX5_high_X5_single : GoodIn wsX5_high wsX5_single := goodIn_r _ [56, 1, 2, 16, 17, 57, 58, 59, 45, 46, 47, 6, 48, 49, 50, 51, 52, 18, 19, 20, 21, 22, 23, 60, 61, 62, 63, 64, 65, 66, 67, 68, 69, 70, 71, 72, 73, 74, 75, 76, 77, 33, 34, 35, 36, 41, 42, 43, 44, 78, 79, 80, 81, 102, 103, 104, 105, 106, 107, 108, 109, 110, 111, 112, 113, 114, 115, 116, 117, 118, 119, 120, 121, 122, 123, 124, 125] (by decide +kernel) (by decide +kernel)
set_option maxRecDepth 20000 in
theorem gX5_high_X5_single : GoodIn wsX5_high (wsV RX5 127 RX5 yX5_single wsX5_single) := goodIn_app (goodIn_of _ (by decide +kernel)) ggX5_high_X5_single
set_option maxRecDepth 20000 in
theorem ggX5_high_X5_call : GoodIn wsX5_high wsX5_call := goodIn_r _ [85, 1, 86, 87, 88, 6, 89, 16, 17, 74, 75, 76, 77, 22, 102, 103, 104, 105, 106, 107, 108, 109, 110, 111, 112, 113, 114, 115, 116, 117, 118, 119, 120, 121, 122, 123, 124, 125] (by decide +kernel) (by decide +kernel)
set_option maxRecDepth 20000 in
theorem gX5_high_X5_call : GoodIn wsX5_high (wsV RX5 130 RX5 yX5_call wsX5_call) := goodIn_app (goodIn_of _ (by decide +kernel)) ggX5_high_X5_call
set_option maxRecDepth 20000 in
theorem ggX5_high_X5_flags : GoodIn wsX5_high wsX5_flags := goodIn_r _ [93, 11, 8, 32, 10, 9, 102, 103, 104, 105, 106, 107, 108, 109, 110, 111, 112, 113, 114, 115, 116, 117, 118, 119, 120, 121, 122, 123, 124, 125] (by decide +kernel) (by decide +kernel)
set_option maxRecDepth 20000 in
theorem gX5_high_X5_flags : GoodIn wsX5_high (wsV RX5 133 RX5 yX5_flags wsX5_flags) := goodIn_app (goodIn_of _ (by decide +kernel)) ggX5_high_X5_flags
set_option maxRecDepth 20000 in
theorem ggX5_high_X5_pair : GoodIn wsX5_high wsX5_pair := goodIn_r _ [81, 16, 2, 102, 103, 104, 105, 106, 107, 108, 109, 110, 111, 112, 113, 114, 115, 116, 117, 118, 119, 120, 121, 122, 123, 124, 125] (by decide +kernel) (by decide +kernel)
set_option maxRecDepth 20000 in
theorem gX5_high_X5_pair : GoodIn wsX5_high (wsV RX5 96 RX5 yX5_pair wsX5_pair) := goodIn_app (goodIn_of _ (by decide +kernel)) ggX5_high_X5_pair
set_option maxRecDepth 20000 in
theorem ggX5_high_X5_push : GoodIn wsX5_high wsX5_push := goodIn_r _ [89, 16, 17, 74, 75, 76, 6, 77, 22, 102, 103, 104, 105, 106, 107, 108, 109, 110, 111, 112, 113, 114, 115, 116, 117, 118, 119, 120, 121, 122, 123, 124, 125] (by decide +kernel) (by decide +kernel)
set_option maxRecDepth 20000 in
theorem gX5_high_X5_push : GoodIn wsX5_high (wsV RX5 136 RX5 yX5_push wsX5_push) := goodIn_app (goodIn_of _ (by decide +kernel)) ggX5_high_X5_push
set_option maxRecDepth 20000 in
theorem ggX5_high_X5_next : GoodIn wsX5_high wsX5_next := goodIn_r _ [52, 1, 17, 18, 19, 20, 6, 21, 22, 23, 102, 103, 104, 105, 106, 107, 108, 109, 110, 111, 112, 113, 114, 115, 116, 117, 118, 119, 120, 121, 122, 123, 124, 125] (by decide +kernel) (by decide +kernel)
set_option maxRecDepth 20000 in
theorem gX5_high_X5_next : GoodIn wsX5_high (wsV RX5 40 RX5 yX5_next wsX5_next) := goodIn_app (goodIn_of _ (by decide +kernel)) ggX5_high_X5_next
set_option maxRecDepth 20000 in
theorem ggX5_high_X5_alu : GoodIn wsX5_high wsX5_alu := goodIn_r _ [97, 2, 9, 32, 98, 99, 100, 6, 101, 11, 8, 10, 102, 103, 104, 105, 106, 107, 108, 109, 110, 111, 112, 113, 114, 115, 116, 117, 118, 119, 120, 121, 122, 123, 124, 125] (by decide +kernel) (by decide +kernel)
set_option maxRecDepth 20000 in
theorem gX5_high_X5_alu : GoodIn wsX5_high (wsV RX5 86 RX5 yX5_alu wsX5_alu) := goodIn_app (goodIn_of _ (by decide +kernel)) ggX5_high_X5_alu
theorem dX5_high_0 : decode cX5_high 0 = .ok (.iload_n 2, 1) := by decide +kernel
theorem dX5_high_1 : decode cX5_high 1 = .ok (.ifCond .ne 24, 3) := by decide +kernel
theorem dX5_high_4 : decode cX5_high 4 = .ok (.aload_n 0, 1) := by decide +kernel
theorem dX5_high_5 : decode cX5_high 5 = .ok (.iload_n 1, 1) := by decide +kernel
theorem dX5_high_6 : decode cX5_high 6 = .ok (.invokevirtual 114, 3) := by decide +kernel
theorem dX5_high_9 : decode cX5_high 9 = .ok (.ifCond .ne 5, 3) := by decide +kernel
theorem dX5_high_12 : decode cX5_high 12 = .ok (.iconst 5, 1) := by decide +kernel
theorem dX5_high_13 : decode cX5_high 13 = .ok (.ireturn, 1) := by decide +kernel
theorem dX5_high_14 : decode cX5_high 14 = .ok (.aload_n 0, 1) := by decide +kernel
theorem dX5_high_15 : decode cX5_high 15 = .ok (.aload_n 0, 1) := by decide +kernel
theorem dX5_high_16 : decode cX5_high 16 = .ok (.invokevirtual 118, 3) := by decide +kernel
theorem dX5_high_19 : decode cX5_high 19 = .ok (.putfield 33, 3) := by decide +kernel
theorem dX5_high_22 : decode cX5_high 22 = .ok (.bipush 11, 2) := by decide +kernel
theorem dX5_high_24 : decode cX5_high 24 = .ok (.ireturn, 1) := by decide +kernel
theorem dX5_high_25 : decode cX5_high 25 = .ok (.iload_n 2, 1) := by decide +kernel
theorem dX5_high_26 : decode cX5_high 26 = .ok (.iconst 1, 1) := by decide +kernel
theorem dX5_high_27 : decode cX5_high 27 = .ok (.if_icmp .ne 25, 3) := by decide +kernel
theorem dX5_high_30 : decode cX5_high 30 = .ok (.iload_n 1, 1) := by decide +kernel
theorem dX5_high_31 : decode cX5_high 31 = .ok (.iconst 1, 1) := by decide +kernel
theorem dX5_high_32 : decode cX5_high 32 = .ok (.iand, 1) := by decide +kernel
theorem dX5_high_33 : decode cX5_high 33 = .ok (.ifCond .ne 13, 3) := by decide +kernel
theorem dX5_high_36 : decode cX5_high 36 = .ok (.aload_n 0, 1) := by decide +kernel
theorem dX5_high_37 : decode cX5_high 37 = .ok (.iload_n 1, 1) := by decide +kernel
theorem dX5_high_38 : decode cX5_high 38 = .ok (.iconst 1, 1) := by decide +kernel
theorem dX5_high_39 : decode cX5_high 39 = .ok (.ishr, 1) := by decide +kernel
theorem dX5_high_40 : decode cX5_high 40 = .ok (.invokevirtual 121, 3) := by decide +kernel
theorem dX5_high_43 : decode cX5_high 43 = .ok (.goto 8, 3) := by decide +kernel
theorem dX5_high_46 : decode cX5_high 46 = .ok (.aload_n 0, 1) := by decide +kernel
theorem dX5_high_47 : decode cX5_high 47 = .ok (.iload_n 1, 1) := by decide +kernel
theorem dX5_high_48 : decode cX5_high 48 = .ok (.invokevirtual 124, 3) := by decide +kernel
theorem dX5_high_51 : decode cX5_high 51 = .ok (.ireturn, 1) := by decide +kernel
theorem dX5_high_52 : decode cX5_high 52 = .ok (.iload_n 2, 1) := by decide +kernel
theorem dX5_high_53 : decode cX5_high 53 = .ok (.iconst 2, 1) := by decide +kernel
theorem dX5_high_54 : decode cX5_high 54 = .ok (.if_icmp .ne 31, 3) := by decide +kernel
theorem dX5_high_57 : decode cX5_high 57 = .ok (.aload_n 0, 1) := by decide +kernel
theorem dX5_high_58 : decode cX5_high 58 = .ok (.invokevirtual 102, 3) := by decide +kernel
theorem dX5_high_61 : decode cX5_high 61 = .ok (.istore_n 3, 1) := by decide +kernel
theorem dX5_high_62 : decode cX5_high 62 = .ok (.aload_n 0, 1) := by decide +kernel
theorem dX5_high_63 : decode cX5_high 63 = .ok (.aload_n 0, 1) := by decide +kernel
theorem dX5_high_64 : decode cX5_high 64 = .ok (.iload_n 1, 1) := by decide +kernel
theorem dX5_high_65 : decode cX5_high 65 = .ok (.invokevirtual 114, 3) := by decide +kernel
theorem dX5_high_68 : decode cX5_high 68 = .ok (.ifCond .eq 7, 3) := by decide +kernel
theorem dX5_high_71 : decode cX5_high 71 = .ok (.iload_n 3, 1) := by decide +kernel
theorem dX5_high_72 : decode cX5_high 72 = .ok (.goto 7, 3) := by decide +kernel
theorem dX5_high_75 : decode cX5_high 75 = .ok (.aload_n 0, 1) := by decide +kernel
theorem dX5_high_76 : decode cX5_high 76 = .ok (.getfield 33, 3) := by decide +kernel
theorem dX5_high_79 : decode cX5_high 79 = .ok (.putfield 33, 3) := by decide +kernel
theorem dX5_high_82 : decode cX5_high 82 = .ok (.bipush 10, 2) := by decide +kernel
theorem dX5_high_84 : decode cX5_high 84 = .ok (.ireturn, 1) := by decide +kernel
theorem dX5_high_85 : decode cX5_high 85 = .ok (.iload_n 2, 1) := by decide +kernel
theorem dX5_high_86 : decode cX5_high 86 = .ok (.iconst 3, 1) := by decide +kernel
theorem dX5_high_87 : decode cX5_high 87 = .ok (.if_icmp .ne 9, 3) := by decide +kernel
theorem dX5_high_90 : decode cX5_high 90 = .ok (.aload_n 0, 1) := by decide +kernel
theorem dX5_high_91 : decode cX5_high 91 = .ok (.iload_n 1, 1) := by decide +kernel
theorem dX5_high_92 : decode cX5_high 92 = .ok (.invokevirtual 127, 3) := by decide +kernel
theorem dX5_high_95 : decode cX5_high 95 = .ok (.ireturn, 1) := by decide +kernel
theorem dX5_high_96 : decode cX5_high 96 = .ok (.iload_n 2, 1) := by decide +kernel
theorem dX5_high_97 : decode cX5_high 97 = .ok (.iconst 4, 1) := by decide +kernel
theorem dX5_high_98 : decode cX5_high 98 = .ok (.if_icmp .ne 27, 3) := by decide +kernel
theorem dX5_high_101 : decode cX5_high 101 = .ok (.aload_n 0, 1) := by decide +kernel
theorem dX5_high_102 : decode cX5_high 102 = .ok (.invokevirtual 102, 3) := by decide +kernel
theorem dX5_high_105 : decode cX5_high 105 = .ok (.istore_n 3, 1) := by decide +kernel
theorem dX5_high_106 : decode cX5_high 106 = .ok (.aload_n 0, 1) := by decide +kernel
theorem dX5_high_107 : decode cX5_high 107 = .ok (.iload_n 1, 1) := by decide +kernel
theorem dX5_high_108 : decode cX5_high 108 = .ok (.invokevirtual 114, 3) := by decide +kernel
theorem dX5_high_111 : decode cX5_high 111 = .ok (.ifCond .eq 11, 3) := by decide +kernel
theorem dX5_high_114 : decode cX5_high 114 = .ok (.aload_n 0, 1) := by decide +kernel
theorem dX5_high_115 : decode cX5_high 115 = .ok (.iload_n 3, 1) := by decide +kernel
theorem dX5_high_116 : decode cX5_high 116 = .ok (.invokevirtual 130, 3) := by decide +kernel
theorem dX5_high_119 : decode cX5_high 119 = .ok (.goto 5, 3) := by decide +kernel
theorem dX5_high_122 : decode cX5_high 122 = .ok (.bipush 11, 2) := by decide +kernel
theorem dX5_high_124 : decode cX5_high 124 = .ok (.ireturn, 1) := by decide +kernel
theorem dX5_high_125 : decode cX5_high 125 = .ok (.iload_n 2, 1) := by decide +kernel
theorem dX5_high_126 : decode cX5_high 126 = .ok (.iconst 5, 1) := by decide +kernel
theorem dX5_high_127 : decode cX5_high 127 = .ok (.if_icmp .ne 57, 3) := by decide +kernel
theorem dX5_high_130 : decode cX5_high 130 = .ok (.iload_n 1, 1) := by decide +kernel
theorem dX5_high_131 : decode cX5_high 131 = .ok (.iconst 1, 1) := by decide +kernel
theorem dX5_high_132 : decode cX5_high 132 = .ok (.iand, 1) := by decide +kernel
theorem dX5_high_133 : decode cX5_high 133 = .ok (.iconst 1, 1) := by decide +kernel
theorem dX5_high_134 : decode cX5_high 134 = .ok (.if_icmp .ne 12, 3) := by decide +kernel
theorem dX5_high_137 : decode cX5_high 137 = .ok (.aload_n 0, 1) := by decide +kernel
theorem dX5_high_138 : decode cX5_high 138 = .ok (.aload_n 0, 1) := by decide +kernel
theorem dX5_high_139 : decode cX5_high 139 = .ok (.invokevirtual 102, 3) := by decide +kernel
theorem dX5_high_142 : decode cX5_high 142 = .ok (.invokevirtual 130, 3) := by decide +kernel
theorem dX5_high_145 : decode cX5_high 145 = .ok (.ireturn, 1) := by decide +kernel
theorem dX5_high_146 : decode cX5_high 146 = .ok (.aload_n 0, 1) := by decide +kernel
theorem dX5_high_147 : decode cX5_high 147 = .ok (.iload_n 1, 1) := by decide +kernel
theorem dX5_high_148 : decode cX5_high 148 = .ok (.bipush 6, 2) := by decide +kernel
theorem dX5_high_150 : decode cX5_high 150 = .ok (.if_icmp .ne 21, 3) := by decide +kernel
theorem dX5_high_153 : decode cX5_high 153 = .ok (.aload_n 0, 1) := by decide +kernel
theorem dX5_high_154 : decode cX5_high 154 = .ok (.getfield 16, 3) := by decide +kernel
theorem dX5_high_157 : decode cX5_high 157 = .ok (.bipush 7, 2) := by decide +kernel
theorem dX5_high_159 : decode cX5_high 159 = .ok (.iaload, 1) := by decide +kernel
theorem dX5_high_160 : decode cX5_high 160 = .ok (.bipush 8, 2) := by decide +kernel
theorem dX5_high_162 : decode cX5_high 162 = .ok (.ishl, 1) := by decide +kernel
theorem dX5_high_163 : decode cX5_high 163 = .ok (.aload_n 0, 1) := by decide +kernel
theorem dX5_high_164 : decode cX5_high 164 = .ok (.invokevirtual 133, 3) := by decide +kernel
theorem dX5_high_167 : decode cX5_high 167 = .ok (.ior, 1) := by decide +kernel
theorem dX5_high_168 : decode cX5_high 168 = .ok (.goto 10, 3) := by decide +kernel
theorem dX5_high_171 : decode cX5_high 171 = .ok (.aload_n 0, 1) := by decide +kernel
theorem dX5_high_172 : decode cX5_high 172 = .ok (.iload_n 1, 1) := by decide +kernel
theorem dX5_high_173 : decode cX5_high 173 = .ok (.iconst 1, 1) := by decide +kernel
theorem dX5_high_174 : decode cX5_high 174 = .ok (.ishr, 1) := by decide +kernel
theorem dX5_high_175 : decode cX5_high 175 = .ok (.invokevirtual 96, 3) := by decide +kernel
theorem dX5_high_178 : decode cX5_high 178 = .ok (.invokevirtual 136, 3) := by decide +kernel
theorem dX5_high_181 : decode cX5_high 181 = .ok (.bipush 11, 2) := by decide +kernel
theorem dX5_high_183 : decode cX5_high 183 = .ok (.ireturn, 1) := by decide +kernel
theorem dX5_high_184 : decode cX5_high 184 = .ok (.iload_n 2, 1) := by decide +kernel
theorem dX5_high_185 : decode cX5_high 185 = .ok (.bipush 6, 2) := by decide +kernel
theorem dX5_high_187 : decode cX5_high 187 = .ok (.if_icmp .ne 15, 3) := by decide +kernel
theorem dX5_high_190 : decode cX5_high 190 = .ok (.aload_n 0, 1) := by decide +kernel
theorem dX5_high_191 : decode cX5_high 191 = .ok (.iload_n 1, 1) := by decide +kernel
theorem dX5_high_192 : decode cX5_high 192 = .ok (.aload_n 0, 1) := by decide +kernel
theorem dX5_high_193 : decode cX5_high 193 = .ok (.invokevirtual 40, 3) := by decide +kernel
theorem dX5_high_196 : decode cX5_high 196 = .ok (.invokevirtual 86, 3) := by decide +kernel
theorem dX5_high_199 : decode cX5_high 199 = .ok (.bipush 7, 2) := by decide +kernel
theorem dX5_high_201 : decode cX5_high 201 = .ok (.ireturn, 1) := by decide +kernel
theorem dX5_high_202 : decode cX5_high 202 = .ok (.aload_n 0, 1) := by decide +kernel
theorem dX5_high_203 : decode cX5_high 203 = .ok (.aload_n 0, 1) := by decide +kernel
theorem dX5_high_204 : decode cX5_high 204 = .ok (.getfield 33, 3) := by decide +kernel
theorem dX5_high_207 : decode cX5_high 207 = .ok (.invokevirtual 136, 3) := by decide +kernel
theorem dX5_high_210 : decode cX5_high 210 = .ok (.aload_n 0, 1) := by decide +kernel
theorem dX5_high_211 : decode cX5_high 211 = .ok (.bipush 8, 2) := by decide +kernel
theorem dX5_high_213 : decode cX5_high 213 = .ok (.iload_n 1, 1) := by decide +kernel
theorem dX5_high_214 : decode cX5_high 214 = .ok (.imul, 1) := by decide +kernel
theorem dX5_high_215 : decode cX5_high 215 = .ok (.putfield 33, 3) := by decide +kernel
theorem dX5_high_218 : decode cX5_high 218 = .ok (.bipush 11, 2) := by decide +kernel
theorem dX5_high_220 : decode cX5_high 220 = .ok (.ireturn, 1) := by decide +kernel
set_option maxRecDepth 20000 in
theorem ggX5_call_X5_push : GoodIn wsX5_call wsX5_push := goodIn_r _ [6, 7, 8, 9, 10, 11, 5, 12, 13, 14, 15, 16, 17, 18, 19, 20, 21, 22, 23, 24, 25, 26, 27, 28, 29, 30, 31, 32, 33, 34, 35, 36, 37] (by decide +kernel) (by decide +kernel)
set_option maxRecDepth 20000 in
theorem gX5_call_X5_push : GoodIn wsX5_call (wsV RX5 136 RX5 yX5_push wsX5_push) := goodIn_app (goodIn_of _ (by decide +kernel)) ggX5_call_X5_push
theorem dX5_call_0 : decode cX5_call 0 = .ok (.aload_n 0, 1) := by decide +kernel
theorem dX5_call_1 : decode cX5_call 1 = .ok (.aload_n 0, 1) := by decide +kernel
theorem dX5_call_2 : decode cX5_call 2 = .ok (.getfield 33, 3) := by decide +kernel
theorem dX5_call_5 : decode cX5_call 5 = .ok (.invokevirtual 136, 3) := by decide +kernel
theorem dX5_call_8 : decode cX5_call 8 = .ok (.aload_n 0, 1) := by decide +kernel
theorem dX5_call_9 : decode cX5_call 9 = .ok (.iload_n 1, 1) := by decide +kernel
theorem dX5_call_10 : decode cX5_call 10 = .ok (.putfield 33, 3) := by decide +kernel
theorem dX5_call_13 : decode cX5_call 13 = .ok (.bipush 17, 2) := by decide +kernel
theorem dX5_call_15 : decode cX5_call 15 = .ok (.ireturn, 1) := by decide +kernel
set_option maxRecDepth 20000 in
theorem ggX5_popped_X5_pop : GoodIn wsX5_popped wsX5_pop := goodIn_r _ [6, 7, 8, 9, 10, 11, 5, 12, 13, 14, 28, 29, 30, 31, 32, 33, 34, 35, 36, 37, 38, 39, 40, 41, 42, 43, 44, 45, 46, 47, 48, 49, 50, 51] (by decide +kernel) (by decide +kernel)
set_option maxRecDepth 20000 in
theorem gX5_popped_X5_pop : GoodIn wsX5_popped (wsV RX5 118 RX5 yX5_pop wsX5_pop) := goodIn_app (goodIn_of _ (by decide +kernel)) ggX5_popped_X5_pop
set_option maxRecDepth 20000 in
theorem ggX5_popped_X5_setFlags : GoodIn wsX5_popped wsX5_setFlags := goodIn_r _ [18, 19, 20, 21, 22, 23, 28, 29, 30, 31, 32, 33, 34, 35, 36, 37, 38, 39, 40, 41, 42, 43, 44, 45, 46, 47, 48, 49, 50, 51] (by decide +kernel) (by decide +kernel)
set_option maxRecDepth 20000 in
theorem gX5_popped_X5_setFlags : GoodIn wsX5_popped (wsV RX5 139 RX5 yX5_setFlags wsX5_setFlags) := goodIn_app (goodIn_of _ (by decide +kernel)) ggX5_popped_X5_setFlags
set_option maxRecDepth 20000 in
theorem ggX5_popped_X5_setPair : GoodIn wsX5_popped wsX5_setPair := goodIn_r _ [27, 8, 7, 1, 28, 29, 30, 31, 32, 33, 34, 35, 36, 37, 38, 39, 40, 41, 42, 43, 44, 45, 46, 47, 48, 49, 50, 51] (by decide +kernel) (by decide +kernel)
set_option maxRecDepth 20000 in
theorem gX5_popped_X5_setPair : GoodIn wsX5_popped (wsV RX5 99 RX5 yX5_setPair wsX5_setPair) := goodIn_app (goodIn_of _ (by decide +kernel)) ggX5_popped_X5_setPair
theorem dX5_popped_0 : decode cX5_popped 0 = .ok (.aload_n 0, 1) := by decide +kernel
theorem dX5_popped_1 : decode cX5_popped 1 = .ok (.invokevirtual 118, 3) := by decide +kernel
theorem dX5_popped_4 : decode cX5_popped 4 = .ok (.istore_n 2, 1) := by decide +kernel
theorem dX5_popped_5 : decode cX5_popped 5 = .ok (.iload_n 1, 1) := by decide +kernel
theorem dX5_popped_6 : decode cX5_popped 6 = .ok (.iconst 3, 1) := by decide +kernel
theorem dX5_popped_7 : decode cX5_popped 7 = .ok (.if_icmp .ne 22, 3) := by decide +kernel
theorem dX5_popped_10 : decode cX5_popped 10 = .ok (.aload_n 0, 1) := by decide +kernel
theorem dX5_popped_11 : decode cX5_popped 11 = .ok (.getfield 16, 3) := by decide +kernel
theorem dX5_popped_14 : decode cX5_popped 14 = .ok (.bipush 7, 2) := by decide +kernel
theorem dX5_popped_16 : decode cX5_popped 16 = .ok (.iload_n 2, 1) := by decide +kernel
theorem dX5_popped_17 : decode cX5_popped 17 = .ok (.bipush 8, 2) := by decide +kernel
theorem dX5_popped_19 : decode cX5_popped 19 = .ok (.ishr, 1) := by decide +kernel
theorem dX5_popped_20 : decode cX5_popped 20 = .ok (.iastore, 1) := by decide +kernel
theorem dX5_popped_21 : decode cX5_popped 21 = .ok (.aload_n 0, 1) := by decide +kernel
theorem dX5_popped_22 : decode cX5_popped 22 = .ok (.iload_n 2, 1) := by decide +kernel
theorem dX5_popped_23 : decode cX5_popped 23 = .ok (.invokevirtual 139, 3) := by decide +kernel
theorem dX5_popped_26 : decode cX5_popped 26 = .ok (.goto 9, 3) := by decide +kernel
theorem dX5_popped_29 : decode cX5_popped 29 = .ok (.aload_n 0, 1) := by decide +kernel
theorem dX5_popped_30 : decode cX5_popped 30 = .ok (.iload_n 1, 1) := by decide +kernel
theorem dX5_popped_31 : decode cX5_popped 31 = .ok (.iload_n 2, 1) := by decide +kernel
theorem dX5_popped_32 : decode cX5_popped 32 = .ok (.invokevirtual 99, 3) := by decide +kernel
theorem dX5_popped_35 : decode cX5_popped 35 = .ok (.bipush 10, 2) := by decide +kernel
theorem dX5_popped_37 : decode cX5_popped 37 = .ok (.ireturn, 1) := by decide +kernel
set_option maxRecDepth 20000 in
theorem ggX5_odd_X5_pop : GoodIn wsX5_odd wsX5_pop := goodIn_r _ [7, 2, 8, 9, 10, 11, 6, 12, 13, 14, 20, 21, 22, 23, 24, 25, 26, 27, 28, 29, 30, 31, 32, 33, 34, 35, 36, 37, 38, 39, 40, 41, 42, 43] (by decide +kernel) (by decide +kernel)
set_option maxRecDepth 20000 in
theorem gX5_odd_X5_pop : GoodIn wsX5_odd (wsV RX5 118 RX5 yX5_pop wsX5_pop) := goodIn_app (goodIn_of _ (by decide +kernel)) ggX5_odd_X5_pop
set_option maxRecDepth 20000 in
theorem ggX5_odd_X5_hl : GoodIn wsX5_odd wsX5_hl := goodIn_r _ [18, 19, 20, 21, 22, 23, 24, 25, 26, 27, 28, 29, 30, 31, 32, 33, 34, 35, 36, 37, 38, 39, 40, 41, 42, 43] (by decide +kernel) (by decide +kernel)
set_option maxRecDepth 20000 in
theorem gX5_odd_X5_hl : GoodIn wsX5_odd (wsV RX5 51 RX5 yX5_hl wsX5_hl) := goodIn_app (goodIn_of _ (by decide +kernel)) ggX5_odd_X5_hl
theorem dX5_odd_0 : decode cX5_odd 0 = .ok (.iload_n 1, 1) := by decide +kernel
theorem dX5_odd_1 : decode cX5_odd 1 = .ok (.iconst 4, 1) := by decide +kernel
theorem dX5_odd_2 : decode cX5_odd 2 = .ok (.if_icmp .ge 14, 3) := by decide +kernel
theorem dX5_odd_5 : decode cX5_odd 5 = .ok (.aload_n 0, 1) := by decide +kernel
theorem dX5_odd_6 : decode cX5_odd 6 = .ok (.aload_n 0, 1) := by decide +kernel
theorem dX5_odd_7 : decode cX5_odd 7 = .ok (.invokevirtual 118, 3) := by decide +kernel
theorem dX5_odd_10 : decode cX5_odd 10 = .ok (.putfield 33, 3) := by decide +kernel
theorem dX5_odd_13 : decode cX5_odd 13 = .ok (.bipush 10, 2) := by decide +kernel
theorem dX5_odd_15 : decode cX5_odd 15 = .ok (.ireturn, 1) := by decide +kernel
theorem dX5_odd_16 : decode cX5_odd 16 = .ok (.iload_n 1, 1) := by decide +kernel
theorem dX5_odd_17 : decode cX5_odd 17 = .ok (.iconst 5, 1) := by decide +kernel
theorem dX5_odd_18 : decode cX5_odd 18 = .ok (.if_icmp .ne 14, 3) := by decide +kernel
theorem dX5_odd_21 : decode cX5_odd 21 = .ok (.aload_n 0, 1) := by decide +kernel
theorem dX5_odd_22 : decode cX5_odd 22 = .ok (.aload_n 0, 1) := by decide +kernel
theorem dX5_odd_23 : decode cX5_odd 23 = .ok (.invokevirtual 51, 3) := by decide +kernel
theorem dX5_odd_26 : decode cX5_odd 26 = .ok (.putfield 33, 3) := by decide +kernel
theorem dX5_odd_29 : decode cX5_odd 29 = .ok (.goto 11, 3) := by decide +kernel
theorem dX5_odd_32 : decode cX5_odd 32 = .ok (.aload_n 0, 1) := by decide +kernel
theorem dX5_odd_33 : decode cX5_odd 33 = .ok (.aload_n 0, 1) := by decide +kernel
theorem dX5_odd_34 : decode cX5_odd 34 = .ok (.invokevirtual 51, 3) := by decide +kernel
theorem dX5_odd_37 : decode cX5_odd 37 = .ok (.putfield 44, 3) := by decide +kernel
theorem dX5_odd_40 : decode cX5_odd 40 = .ok (.iconst 5, 1) := by decide +kernel
theorem dX5_odd_41 : decode cX5_odd 41 = .ok (.ireturn, 1) := by decide +kernel
set_option maxRecDepth 20000 in
theorem ggX5_single_X5_nextTwo : GoodIn wsX5_single wsX5_nextTwo := goodIn_r _ [12, 13, 14, 15, 11, 16, 1, 4, 17, 18, 19, 20, 21, 22, 53, 54, 55, 56, 57, 58, 59, 60, 61, 62, 63, 64, 65, 66, 67, 68, 69, 70, 71, 72, 73, 74, 75, 76] (by decide +kernel) (by decide +kernel)
set_option maxRecDepth 20000 in
theorem gX5_single_X5_nextTwo : GoodIn wsX5_single (wsV RX5 102 RX5 yX5_nextTwo wsX5_nextTwo) := goodIn_app (goodIn_of _ (by decide +kernel)) ggX5_single_X5_nextTwo
set_option maxRecDepth 20000 in
theorem ggX5_single_X5_next : GoodIn wsX5_single wsX5_next := goodIn_r _ [16, 1, 4, 17, 18, 19, 11, 20, 21, 22, 53, 54, 55, 56, 57, 58, 59, 60, 61, 62, 63, 64, 65, 66, 67, 68, 69, 70, 71, 72, 73, 74, 75, 76] (by decide +kernel) (by decide +kernel)
set_option maxRecDepth 20000 in
theorem gX5_single_X5_next : GoodIn wsX5_single (wsV RX5 40 RX5 yX5_next wsX5_next) := goodIn_app (goodIn_of _ (by decide +kernel)) ggX5_single_X5_next
set_option maxRecDepth 20000 in
theorem ggX5_single_X5_out : GoodIn wsX5_single wsX5_out := goodIn_r _ [26, 27, 28, 29, 30, 31, 53, 54, 55, 56, 57, 58, 59, 60, 61, 62, 63, 64, 65, 66, 67, 68, 69, 70, 71, 72, 73, 74, 75, 76] (by decide +kernel) (by decide +kernel)
set_option maxRecDepth 20000 in
theorem gX5_single_X5_out : GoodIn wsX5_single (wsV RX5 142 RX5 yX5_out wsX5_out) := goodIn_app (goodIn_of _ (by decide +kernel)) ggX5_single_X5_out
set_option maxRecDepth 20000 in
theorem ggX5_single_X5_in : GoodIn wsX5_single wsX5_in := goodIn_r _ [35, 36, 30, 27, 53, 54, 55, 56, 57, 58, 59, 60, 61, 62, 63, 64, 65, 66, 67, 68, 69, 70, 71, 72, 73, 74, 75, 76] (by decide +kernel) (by decide +kernel)
set_option maxRecDepth 20000 in
theorem gX5_single_X5_in : GoodIn wsX5_single (wsV RX5 145 RX5 yX5_in wsX5_in) := goodIn_app (goodIn_of _ (by decide +kernel)) ggX5_single_X5_in
set_option maxRecDepth 20000 in
theorem ggX5_single_X5_read : GoodIn wsX5_single wsX5_read := goodIn_r _ [20, 4, 21, 22, 53, 54, 55, 56, 57, 58, 59, 60, 61, 62, 63, 64, 65, 66, 67, 68, 69, 70, 71, 72, 73, 74, 75, 76] (by decide +kernel) (by decide +kernel)
set_option maxRecDepth 20000 in
theorem gX5_single_X5_read : GoodIn wsX5_single (wsV RX5 36 RX5 yX5_read wsX5_read) := goodIn_app (goodIn_of _ (by decide +kernel)) ggX5_single_X5_read
set_option maxRecDepth 20000 in
theorem ggX5_single_X5_write : GoodIn wsX5_single wsX5_write := goodIn_r _ [40, 21, 53, 54, 55, 56, 57, 58, 59, 60, 61, 62, 63, 64, 65, 66, 67, 68, 69, 70, 71, 72, 73, 74, 75, 76] (by decide +kernel) (by decide +kernel)
set_option maxRecDepth 20000 in
theorem gX5_single_X5_write : GoodIn wsX5_single (wsV RX5 47 RX5 yX5_write wsX5_write) := goodIn_app (goodIn_of _ (by decide +kernel)) ggX5_single_X5_write
set_option maxRecDepth 20000 in
theorem ggX5_single_X5_setPair : GoodIn wsX5_single wsX5_setPair := goodIn_r _ [44, 4, 3, 2, 53, 54, 55, 56, 57, 58, 59, 60, 61, 62, 63, 64, 65, 66, 67, 68, 69, 70, 71, 72, 73, 74, 75, 76] (by decide +kernel) (by decide +kernel)
set_option maxRecDepth 20000 in
theorem gX5_single_X5_setPair : GoodIn wsX5_single (wsV RX5 99 RX5 yX5_setPair wsX5_setPair) := goodIn_app (goodIn_of _ (by decide +kernel)) ggX5_single_X5_setPair
set_option maxRecDepth 20000 in
theorem ggX5_single_X5_hl : GoodIn wsX5_single wsX5_hl := goodIn_r _ [48, 2, 53, 54, 55, 56, 57, 58, 59, 60, 61, 62, 63, 64, 65, 66, 67, 68, 69, 70, 71, 72, 73, 74, 75, 76] (by decide +kernel) (by decide +kernel)
set_option maxRecDepth 20000 in
theorem gX5_single_X5_hl : GoodIn wsX5_single (wsV RX5 51 RX5 yX5_hl wsX5_hl) := goodIn_app (goodIn_of _ (by decide +kernel)) ggX5_single_X5_hl
set_option maxRecDepth 20000 in
theorem ggX5_single_X5_pair : GoodIn wsX5_single wsX5_pair := goodIn_r _ [52, 3, 2, 53, 54, 55, 56, 57, 58, 59, 60, 61, 62, 63, 64, 65, 66, 67, 68, 69, 70, 71, 72, 73, 74, 75, 76] (by decide +kernel) (by decide +kernel)
set_option maxRecDepth 20000 in
theorem gX5_single_X5_pair : GoodIn wsX5_single (wsV RX5 96 RX5 yX5_pair wsX5_pair) := goodIn_app (goodIn_of _ (by decide +kernel)) ggX5_single_X5_pair
theorem dX5_single_0 : decode cX5_single 0 = .ok (.iload_n 1, 1) := by decide +kernel
theorem dX5_single_1 : decode cX5_single 1 = .ok (.iconst 2, 1) := by decide +kernel
theorem dX5_single_2 : decode cX5_single 2 = .ok (.if_icmp .ge 14, 3) := by decide +kernel
theorem dX5_single_5 : decode cX5_single 5 = .ok (.aload_n 0, 1) := by decide +kernel
theorem dX5_single_6 : decode cX5_single 6 = .ok (.aload_n 0, 1) := by decide +kernel
theorem dX5_single_7 : decode cX5_single 7 = .ok (.invokevirtual 102, 3) := by decide +kernel
theorem dX5_single_10 : decode cX5_single 10 = .ok (.putfield 33, 3) := by decide +kernel
theorem dX5_single_13 : decode cX5_single 13 = .ok (.bipush 10, 2) := by decide +kernel
theorem dX5_single_15 : decode cX5_single 15 = .ok (.ireturn, 1) := by decide +kernel
theorem dX5_single_16 : decode cX5_single 16 = .ok (.iload_n 1, 1) := by decide +kernel
theorem dX5_single_17 : decode cX5_single 17 = .ok (.iconst 2, 1) := by decide +kernel
theorem dX5_single_18 : decode cX5_single 18 = .ok (.if_icmp .ne 21, 3) := by decide +kernel
theorem dX5_single_21 : decode cX5_single 21 = .ok (.aload_n 0, 1) := by decide +kernel
theorem dX5_single_22 : decode cX5_single 22 = .ok (.aload_n 0, 1) := by decide +kernel
theorem dX5_single_23 : decode cX5_single 23 = .ok (.invokevirtual 40, 3) := by decide +kernel
theorem dX5_single_26 : decode cX5_single 26 = .ok (.aload_n 0, 1) := by decide +kernel
theorem dX5_single_27 : decode cX5_single 27 = .ok (.getfield 16, 3) := by decide +kernel
theorem dX5_single_30 : decode cX5_single 30 = .ok (.bipush 7, 2) := by decide +kernel
theorem dX5_single_32 : decode cX5_single 32 = .ok (.iaload, 1) := by decide +kernel
theorem dX5_single_33 : decode cX5_single 33 = .ok (.invokevirtual 142, 3) := by decide +kernel
theorem dX5_single_36 : decode cX5_single 36 = .ok (.bipush 10, 2) := by decide +kernel
theorem dX5_single_38 : decode cX5_single 38 = .ok (.ireturn, 1) := by decide +kernel
theorem dX5_single_39 : decode cX5_single 39 = .ok (.iload_n 1, 1) := by decide +kernel
theorem dX5_single_40 : decode cX5_single 40 = .ok (.iconst 3, 1) := by decide +kernel
theorem dX5_single_41 : decode cX5_single 41 = .ok (.if_icmp .ne 21, 3) := by decide +kernel
theorem dX5_single_44 : decode cX5_single 44 = .ok (.aload_n 0, 1) := by decide +kernel
theorem dX5_single_45 : decode cX5_single 45 = .ok (.getfield 16, 3) := by decide +kernel
theorem dX5_single_48 : decode cX5_single 48 = .ok (.bipush 7, 2) := by decide +kernel
theorem dX5_single_50 : decode cX5_single 50 = .ok (.aload_n 0, 1) := by decide +kernel
theorem dX5_single_51 : decode cX5_single 51 = .ok (.aload_n 0, 1) := by decide +kernel
theorem dX5_single_52 : decode cX5_single 52 = .ok (.invokevirtual 40, 3) := by decide +kernel
theorem dX5_single_55 : decode cX5_single 55 = .ok (.invokevirtual 145, 3) := by decide +kernel
theorem dX5_single_58 : decode cX5_single 58 = .ok (.iastore, 1) := by decide +kernel
theorem dX5_single_59 : decode cX5_single 59 = .ok (.bipush 10, 2) := by decide +kernel
theorem dX5_single_61 : decode cX5_single 61 = .ok (.ireturn, 1) := by decide +kernel
theorem dX5_single_62 : decode cX5_single 62 = .ok (.iload_n 1, 1) := by decide +kernel
theorem dX5_single_63 : decode cX5_single 63 = .ok (.iconst 4, 1) := by decide +kernel
theorem dX5_single_64 : decode cX5_single 64 = .ok (.if_icmp .ne 71, 3) := by decide +kernel
theorem dX5_single_67 : decode cX5_single 67 = .ok (.aload_n 0, 1) := by decide +kernel
theorem dX5_single_68 : decode cX5_single 68 = .ok (.aload_n 0, 1) := by decide +kernel
theorem dX5_single_69 : decode cX5_single 69 = .ok (.getfield 44, 3) := by decide +kernel
theorem dX5_single_72 : decode cX5_single 72 = .ok (.invokevirtual 36, 3) := by decide +kernel
theorem dX5_single_75 : decode cX5_single 75 = .ok (.aload_n 0, 1) := by decide +kernel
theorem dX5_single_76 : decode cX5_single 76 = .ok (.aload_n 0, 1) := by decide +kernel
theorem dX5_single_77 : decode cX5_single 77 = .ok (.getfield 44, 3) := by decide +kernel
theorem dX5_single_80 : decode cX5_single 80 = .ok (.iconst 1, 1) := by decide +kernel
theorem dX5_single_81 : decode cX5_single 81 = .ok (.iadd, 1) := by decide +kernel
theorem dX5_single_82 : decode cX5_single 82 = .ok (.ldc 32, 2) := by decide +kernel
theorem dX5_single_84 : decode cX5_single 84 = .ok (.iand, 1) := by decide +kernel
theorem dX5_single_85 : decode cX5_single 85 = .ok (.invokevirtual 36, 3) := by decide +kernel
theorem dX5_single_88 : decode cX5_single 88 = .ok (.bipush 8, 2) := by decide +kernel
theorem dX5_single_90 : decode cX5_single 90 = .ok (.ishl, 1) := by decide +kernel
theorem dX5_single_91 : decode cX5_single 91 = .ok (.ior, 1) := by decide +kernel
theorem dX5_single_92 : decode cX5_single 92 = .ok (.istore_n 2, 1) := by decide +kernel
theorem dX5_single_93 : decode cX5_single 93 = .ok (.aload_n 0, 1) := by decide +kernel
theorem dX5_single_94 : decode cX5_single 94 = .ok (.aload_n 0, 1) := by decide +kernel
theorem dX5_single_95 : decode cX5_single 95 = .ok (.getfield 44, 3) := by decide +kernel
theorem dX5_single_98 : decode cX5_single 98 = .ok (.aload_n 0, 1) := by decide +kernel
theorem dX5_single_99 : decode cX5_single 99 = .ok (.getfield 16, 3) := by decide +kernel
theorem dX5_single_102 : decode cX5_single 102 = .ok (.iconst 5, 1) := by decide +kernel
theorem dX5_single_103 : decode cX5_single 103 = .ok (.iaload, 1) := by decide +kernel
theorem dX5_single_104 : decode cX5_single 104 = .ok (.invokevirtual 47, 3) := by decide +kernel
theorem dX5_single_107 : decode cX5_single 107 = .ok (.aload_n 0, 1) := by decide +kernel
theorem dX5_single_108 : decode cX5_single 108 = .ok (.aload_n 0, 1) := by decide +kernel
theorem dX5_single_109 : decode cX5_single 109 = .ok (.getfield 44, 3) := by decide +kernel
theorem dX5_single_112 : decode cX5_single 112 = .ok (.iconst 1, 1) := by decide +kernel
theorem dX5_single_113 : decode cX5_single 113 = .ok (.iadd, 1) := by decide +kernel
theorem dX5_single_114 : decode cX5_single 114 = .ok (.ldc 32, 2) := by decide +kernel
theorem dX5_single_116 : decode cX5_single 116 = .ok (.iand, 1) := by decide +kernel
theorem dX5_single_117 : decode cX5_single 117 = .ok (.aload_n 0, 1) := by decide +kernel
theorem dX5_single_118 : decode cX5_single 118 = .ok (.getfield 16, 3) := by decide +kernel
theorem dX5_single_121 : decode cX5_single 121 = .ok (.iconst 4, 1) := by decide +kernel
theorem dX5_single_122 : decode cX5_single 122 = .ok (.iaload, 1) := by decide +kernel
theorem dX5_single_123 : decode cX5_single 123 = .ok (.invokevirtual 47, 3) := by decide +kernel
theorem dX5_single_126 : decode cX5_single 126 = .ok (.aload_n 0, 1) := by decide +kernel
theorem dX5_single_127 : decode cX5_single 127 = .ok (.iconst 2, 1) := by decide +kernel
theorem dX5_single_128 : decode cX5_single 128 = .ok (.iload_n 2, 1) := by decide +kernel
theorem dX5_single_129 : decode cX5_single 129 = .ok (.invokevirtual 99, 3) := by decide +kernel
theorem dX5_single_132 : decode cX5_single 132 = .ok (.bipush 18, 2) := by decide +kernel
theorem dX5_single_134 : decode cX5_single 134 = .ok (.ireturn, 1) := by decide +kernel
theorem dX5_single_135 : decode cX5_single 135 = .ok (.iload_n 1, 1) := by decide +kernel
theorem dX5_single_136 : decode cX5_single 136 = .ok (.iconst 5, 1) := by decide +kernel
theorem dX5_single_137 : decode cX5_single 137 = .ok (.if_icmp .ne 26, 3) := by decide +kernel
theorem dX5_single_140 : decode cX5_single 140 = .ok (.aload_n 0, 1) := by decide +kernel
theorem dX5_single_141 : decode cX5_single 141 = .ok (.invokevirtual 51, 3) := by decide +kernel
theorem dX5_single_144 : decode cX5_single 144 = .ok (.istore_n 2, 1) := by decide +kernel
theorem dX5_single_145 : decode cX5_single 145 = .ok (.aload_n 0, 1) := by decide +kernel
theorem dX5_single_146 : decode cX5_single 146 = .ok (.iconst 2, 1) := by decide +kernel
theorem dX5_single_147 : decode cX5_single 147 = .ok (.aload_n 0, 1) := by decide +kernel
theorem dX5_single_148 : decode cX5_single 148 = .ok (.iconst 1, 1) := by decide +kernel
theorem dX5_single_149 : decode cX5_single 149 = .ok (.invokevirtual 96, 3) := by decide +kernel
theorem dX5_single_152 : decode cX5_single 152 = .ok (.invokevirtual 99, 3) := by decide +kernel
theorem dX5_single_155 : decode cX5_single 155 = .ok (.aload_n 0, 1) := by decide +kernel
theorem dX5_single_156 : decode cX5_single 156 = .ok (.iconst 1, 1) := by decide +kernel
theorem dX5_single_157 : decode cX5_single 157 = .ok (.iload_n 2, 1) := by decide +kernel
theorem dX5_single_158 : decode cX5_single 158 = .ok (.invokevirtual 99, 3) := by decide +kernel
theorem dX5_single_161 : decode cX5_single 161 = .ok (.iconst 4, 1) := by decide +kernel
theorem dX5_single_162 : decode cX5_single 162 = .ok (.ireturn, 1) := by decide +kernel
theorem dX5_single_163 : decode cX5_single 163 = .ok (.iload_n 1, 1) := by decide +kernel
theorem dX5_single_164 : decode cX5_single 164 = .ok (.bipush 6, 2) := by decide +kernel
theorem dX5_single_166 : decode cX5_single 166 = .ok (.if_icmp .ne 16, 3) := by decide +kernel
theorem dX5_single_169 : decode cX5_single 169 = .ok (.aload_n 0, 1) := by decide +kernel
theorem dX5_single_170 : decode cX5_single 170 = .ok (.iconst 0, 1) := by decide +kernel
theorem dX5_single_171 : decode cX5_single 171 = .ok (.putfield 148, 3) := by decide +kernel
theorem dX5_single_174 : decode cX5_single 174 = .ok (.aload_n 0, 1) := by decide +kernel
theorem dX5_single_175 : decode cX5_single 175 = .ok (.iconst 0, 1) := by decide +kernel
theorem dX5_single_176 : decode cX5_single 176 = .ok (.putfield 151, 3) := by decide +kernel
theorem dX5_single_179 : decode cX5_single 179 = .ok (.goto 22, 3) := by decide +kernel
theorem dX5_single_182 : decode cX5_single 182 = .ok (.aload_n 0, 1) := by decide +kernel
theorem dX5_single_183 : decode cX5_single 183 = .ok (.getfield 148, 3) := by decide +kernel
theorem dX5_single_186 : decode cX5_single 186 = .ok (.ifCond .ne 15, 3) := by decide +kernel
theorem dX5_single_189 : decode cX5_single 189 = .ok (.aload_n 0, 1) := by decide +kernel
theorem dX5_single_190 : decode cX5_single 190 = .ok (.getfield 151, 3) := by decide +kernel
theorem dX5_single_193 : decode cX5_single 193 = .ok (.ifCond .ne 8, 3) := by decide +kernel
theorem dX5_single_196 : decode cX5_single 196 = .ok (.aload_n 0, 1) := by decide +kernel
theorem dX5_single_197 : decode cX5_single 197 = .ok (.iconst 1, 1) := by decide +kernel
theorem dX5_single_198 : decode cX5_single 198 = .ok (.putfield 154, 3) := by decide +kernel
theorem dX5_single_201 : decode cX5_single 201 = .ok (.iconst 4, 1) := by decide +kernel
theorem dX5_single_202 : decode cX5_single 202 = .ok (.ireturn, 1) := by decide +kernel
theorem dX5_in_0 : decode cX5_in 0 = .ok (.iload_n 1, 1) := by decide +kernel
theorem dX5_in_1 : decode cX5_in 1 = .ok (.iconst 3, 1) := by decide +kernel
theorem dX5_in_2 : decode cX5_in 2 = .ok (.if_icmp .ge 12, 3) := by decide +kernel
theorem dX5_in_5 : decode cX5_in 5 = .ok (.aload_n 0, 1) := by decide +kernel
theorem dX5_in_6 : decode cX5_in 6 = .ok (.getfield 19, 3) := by decide +kernel
theorem dX5_in_9 : decode cX5_in 9 = .ok (.iload_n 1, 1) := by decide +kernel
theorem dX5_in_10 : decode cX5_in 10 = .ok (.iaload, 1) := by decide +kernel
theorem dX5_in_11 : decode cX5_in 11 = .ok (.goto 28, 3) := by decide +kernel
theorem dX5_in_14 : decode cX5_in 14 = .ok (.iload_n 1, 1) := by decide +kernel
theorem dX5_in_15 : decode cX5_in 15 = .ok (.iconst 3, 1) := by decide +kernel
theorem dX5_in_16 : decode cX5_in 16 = .ok (.if_icmp .ne 22, 3) := by decide +kernel
theorem dX5_in_19 : decode cX5_in 19 = .ok (.aload_n 0, 1) := by decide +kernel
theorem dX5_in_20 : decode cX5_in 20 = .ok (.getfield 157, 3) := by decide +kernel
theorem dX5_in_23 : decode cX5_in 23 = .ok (.aload_n 0, 1) := by decide +kernel
theorem dX5_in_24 : decode cX5_in 24 = .ok (.getfield 160, 3) := by decide +kernel
theorem dX5_in_27 : decode cX5_in 27 = .ok (.ishl, 1) := by decide +kernel
theorem dX5_in_28 : decode cX5_in 28 = .ok (.bipush 8, 2) := by decide +kernel
theorem dX5_in_30 : decode cX5_in 30 = .ok (.ishr, 1) := by decide +kernel
theorem dX5_in_31 : decode cX5_in 31 = .ok (.sipush 255, 3) := by decide +kernel
theorem dX5_in_34 : decode cX5_in 34 = .ok (.iand, 1) := by decide +kernel
theorem dX5_in_35 : decode cX5_in 35 = .ok (.goto 4, 3) := by decide +kernel
theorem dX5_in_38 : decode cX5_in 38 = .ok (.iconst 0, 1) := by decide +kernel
theorem dX5_in_39 : decode cX5_in 39 = .ok (.ireturn, 1) := by decide +kernel
theorem dX5_out_0 : decode cX5_out 0 = .ok (.iload_n 1, 1) := by decide +kernel
theorem dX5_out_1 : decode cX5_out 1 = .ok (.iconst 2, 1) := by decide +kernel
theorem dX5_out_2 : decode cX5_out 2 = .ok (.if_icmp .ne 14, 3) := by decide +kernel
theorem dX5_out_5 : decode cX5_out 5 = .ok (.aload_n 0, 1) := by decide +kernel
theorem dX5_out_6 : decode cX5_out 6 = .ok (.iload_n 2, 1) := by decide +kernel
theorem dX5_out_7 : decode cX5_out 7 = .ok (.bipush 7, 2) := by decide +kernel
theorem dX5_out_9 : decode cX5_out 9 = .ok (.iand, 1) := by decide +kernel
theorem dX5_out_10 : decode cX5_out 10 = .ok (.putfield 160, 3) := by decide +kernel
theorem dX5_out_13 : decode cX5_out 13 = .ok (.goto 118, 3) := by decide +kernel
theorem dX5_out_16 : decode cX5_out 16 = .ok (.iload_n 1, 1) := by decide +kernel
theorem dX5_out_17 : decode cX5_out 17 = .ok (.iconst 3, 1) := by decide +kernel
theorem dX5_out_18 : decode cX5_out 18 = .ok (.if_icmp .eq 8, 3) := by decide +kernel
theorem dX5_out_21 : decode cX5_out 21 = .ok (.iload_n 1, 1) := by decide +kernel
theorem dX5_out_22 : decode cX5_out 22 = .ok (.iconst 5, 1) := by decide +kernel
theorem dX5_out_23 : decode cX5_out 23 = .ok (.if_icmp .ne 73, 3) := by decide +kernel
theorem dX5_out_26 : decode cX5_out 26 = .ok (.iload_n 1, 1) := by decide +kernel
theorem dX5_out_27 : decode cX5_out 27 = .ok (.iconst 3, 1) := by decide +kernel
theorem dX5_out_28 : decode cX5_out 28 = .ok (.if_icmp .ne 7, 3) := by decide +kernel
theorem dX5_out_31 : decode cX5_out 31 = .ok (.iconst 0, 1) := by decide +kernel
theorem dX5_out_32 : decode cX5_out 32 = .ok (.goto 4, 3) := by decide +kernel
theorem dX5_out_35 : decode cX5_out 35 = .ok (.iconst 1, 1) := by decide +kernel
theorem dX5_out_36 : decode cX5_out 36 = .ok (.istore_n 3, 1) := by decide +kernel
theorem dX5_out_37 : decode cX5_out 37 = .ok (.iconst 0, 1) := by decide +kernel
theorem dX5_out_38 : decode cX5_out 38 = .ok (.istore 4, 2) := by decide +kernel
theorem dX5_out_40 : decode cX5_out 40 = .ok (.iload 4, 2) := by decide +kernel
theorem dX5_out_42 : decode cX5_out 42 = .ok (.bipush 8, 2) := by decide +kernel
theorem dX5_out_44 : decode cX5_out 44 = .ok (.if_icmp .ge 42, 3) := by decide +kernel
theorem dX5_out_47 : decode cX5_out 47 = .ok (.aload_n 0, 1) := by decide +kernel
theorem dX5_out_48 : decode cX5_out 48 = .ok (.getfield 25, 3) := by decide +kernel
theorem dX5_out_51 : decode cX5_out 51 = .ok (.bipush 8, 2) := by decide +kernel
theorem dX5_out_53 : decode cX5_out 53 = .ok (.iload_n 3, 1) := by decide +kernel
theorem dX5_out_54 : decode cX5_out 54 = .ok (.imul, 1) := by decide +kernel
theorem dX5_out_55 : decode cX5_out 55 = .ok (.iload 4, 2) := by decide +kernel
theorem dX5_out_57 : decode cX5_out 57 = .ok (.iadd, 1) := by decide +kernel
theorem dX5_out_58 : decode cX5_out 58 = .ok (.dup2, 1) := by decide +kernel
theorem dX5_out_59 : decode cX5_out 59 = .ok (.iaload, 1) := by decide +kernel
theorem dX5_out_60 : decode cX5_out 60 = .ok (.iload_n 2, 1) := by decide +kernel
theorem dX5_out_61 : decode cX5_out 61 = .ok (.iload 4, 2) := by decide +kernel
theorem dX5_out_63 : decode cX5_out 63 = .ok (.ishr, 1) := by decide +kernel
theorem dX5_out_64 : decode cX5_out 64 = .ok (.aload_n 0, 1) := by decide +kernel
theorem dX5_out_65 : decode cX5_out 65 = .ok (.getfield 22, 3) := by decide +kernel
theorem dX5_out_68 : decode cX5_out 68 = .ok (.iload_n 3, 1) := by decide +kernel
theorem dX5_out_69 : decode cX5_out 69 = .ok (.iaload, 1) := by decide +kernel
theorem dX5_out_70 : decode cX5_out 70 = .ok (.iconst (-1), 1) := by decide +kernel
theorem dX5_out_71 : decode cX5_out 71 = .ok (.ixor, 1) := by decide +kernel
theorem dX5_out_72 : decode cX5_out 72 = .ok (.iload 4, 2) := by decide +kernel
theorem dX5_out_74 : decode cX5_out 74 = .ok (.ishr, 1) := by decide +kernel
theorem dX5_out_75 : decode cX5_out 75 = .ok (.iand, 1) := by decide +kernel
theorem dX5_out_76 : decode cX5_out 76 = .ok (.iconst 1, 1) := by decide +kernel
theorem dX5_out_77 : decode cX5_out 77 = .ok (.iand, 1) := by decide +kernel
theorem dX5_out_78 : decode cX5_out 78 = .ok (.iadd, 1) := by decide +kernel
theorem dX5_out_79 : decode cX5_out 79 = .ok (.iastore, 1) := by decide +kernel
theorem dX5_out_80 : decode cX5_out 80 = .ok (.iinc 4 1, 3) := by decide +kernel
theorem dX5_out_83 : decode cX5_out 83 = .ok (.goto (-43), 3) := by decide +kernel
theorem dX5_out_86 : decode cX5_out 86 = .ok (.aload_n 0, 1) := by decide +kernel
theorem dX5_out_87 : decode cX5_out 87 = .ok (.getfield 22, 3) := by decide +kernel
theorem dX5_out_90 : decode cX5_out 90 = .ok (.iload_n 3, 1) := by decide +kernel
theorem dX5_out_91 : decode cX5_out 91 = .ok (.iload_n 2, 1) := by decide +kernel
theorem dX5_out_92 : decode cX5_out 92 = .ok (.iastore, 1) := by decide +kernel
theorem dX5_out_93 : decode cX5_out 93 = .ok (.goto 38, 3) := by decide +kernel
theorem dX5_out_96 : decode cX5_out 96 = .ok (.iload_n 1, 1) := by decide +kernel
theorem dX5_out_97 : decode cX5_out 97 = .ok (.iconst 4, 1) := by decide +kernel
theorem dX5_out_98 : decode cX5_out 98 = .ok (.if_icmp .ne 22, 3) := by decide +kernel
theorem dX5_out_101 : decode cX5_out 101 = .ok (.aload_n 0, 1) := by decide +kernel
theorem dX5_out_102 : decode cX5_out 102 = .ok (.iload_n 2, 1) := by decide +kernel
theorem dX5_out_103 : decode cX5_out 103 = .ok (.bipush 8, 2) := by decide +kernel
theorem dX5_out_105 : decode cX5_out 105 = .ok (.ishl, 1) := by decide +kernel
theorem dX5_out_106 : decode cX5_out 106 = .ok (.aload_n 0, 1) := by decide +kernel
theorem dX5_out_107 : decode cX5_out 107 = .ok (.getfield 157, 3) := by decide +kernel
theorem dX5_out_110 : decode cX5_out 110 = .ok (.bipush 8, 2) := by decide +kernel
theorem dX5_out_112 : decode cX5_out 112 = .ok (.ishr, 1) := by decide +kernel
theorem dX5_out_113 : decode cX5_out 113 = .ok (.ior, 1) := by decide +kernel
theorem dX5_out_114 : decode cX5_out 114 = .ok (.putfield 157, 3) := by decide +kernel
theorem dX5_out_117 : decode cX5_out 117 = .ok (.goto 14, 3) := by decide +kernel
theorem dX5_out_120 : decode cX5_out 120 = .ok (.iload_n 1, 1) := by decide +kernel
theorem dX5_out_121 : decode cX5_out 121 = .ok (.bipush 6, 2) := by decide +kernel
theorem dX5_out_123 : decode cX5_out 123 = .ok (.if_icmp .ne 8, 3) := by decide +kernel
theorem dX5_out_126 : decode cX5_out 126 = .ok (.aload_n 0, 1) := by decide +kernel
theorem dX5_out_127 : decode cX5_out 127 = .ok (.iconst 0, 1) := by decide +kernel
theorem dX5_out_128 : decode cX5_out 128 = .ok (.putfield 163, 3) := by decide +kernel
theorem dX5_out_131 : decode cX5_out 131 = .ok (.return_, 1) := by decide +kernel
set_option maxRecDepth 20000 in
theorem ggX5_clear_X5_setFlags : GoodIn wsX5_clear wsX5_setFlags := goodIn_r _ [17, 18, 19, 20, 21, 22, 23, 24, 25, 26, 27, 28, 29, 30, 31, 32, 33, 34, 35, 36, 37, 38, 39, 40, 41, 42, 43, 44, 45, 46] (by decide +kernel) (by decide +kernel)
set_option maxRecDepth 20000 in
theorem gX5_clear_X5_setFlags : GoodIn wsX5_clear (wsV RX5 139 RX5 yX5_setFlags wsX5_setFlags) := goodIn_app (goodIn_of _ (by decide +kernel)) ggX5_clear_X5_setFlags
theorem dX5_clear_0 : decode cX5_clear 0 = .ok (.iconst 0, 1) := by decide +kernel
theorem dX5_clear_1 : decode cX5_clear 1 = .ok (.istore_n 1, 1) := by decide +kernel
theorem dX5_clear_2 : decode cX5_clear 2 = .ok (.iload_n 1, 1) := by decide +kernel
theorem dX5_clear_3 : decode cX5_clear 3 = .ok (.bipush 8, 2) := by decide +kernel
theorem dX5_clear_5 : decode cX5_clear 5 = .ok (.if_icmp .ge 16, 3) := by decide +kernel
theorem dX5_clear_8 : decode cX5_clear 8 = .ok (.aload_n 0, 1) := by decide +kernel
theorem dX5_clear_9 : decode cX5_clear 9 = .ok (.getfield 16, 3) := by decide +kernel
theorem dX5_clear_12 : decode cX5_clear 12 = .ok (.iload_n 1, 1) := by decide +kernel
theorem dX5_clear_13 : decode cX5_clear 13 = .ok (.iconst 0, 1) := by decide +kernel
theorem dX5_clear_14 : decode cX5_clear 14 = .ok (.iastore, 1) := by decide +kernel
theorem dX5_clear_15 : decode cX5_clear 15 = .ok (.iinc 1 1, 3) := by decide +kernel
theorem dX5_clear_18 : decode cX5_clear 18 = .ok (.goto (-16), 3) := by decide +kernel
theorem dX5_clear_21 : decode cX5_clear 21 = .ok (.aload_n 0, 1) := by decide +kernel
theorem dX5_clear_22 : decode cX5_clear 22 = .ok (.iconst 0, 1) := by decide +kernel
theorem dX5_clear_23 : decode cX5_clear 23 = .ok (.putfield 44, 3) := by decide +kernel
theorem dX5_clear_26 : decode cX5_clear 26 = .ok (.aload_n 0, 1) := by decide +kernel
theorem dX5_clear_27 : decode cX5_clear 27 = .ok (.iconst 0, 1) := by decide +kernel
theorem dX5_clear_28 : decode cX5_clear 28 = .ok (.putfield 33, 3) := by decide +kernel
theorem dX5_clear_31 : decode cX5_clear 31 = .ok (.aload_n 0, 1) := by decide +kernel
theorem dX5_clear_32 : decode cX5_clear 32 = .ok (.iconst 0, 1) := by decide +kernel
theorem dX5_clear_33 : decode cX5_clear 33 = .ok (.invokevirtual 139, 3) := by decide +kernel
theorem dX5_clear_36 : decode cX5_clear 36 = .ok (.aload_n 0, 1) := by decide +kernel
theorem dX5_clear_37 : decode cX5_clear 37 = .ok (.iconst 0, 1) := by decide +kernel
theorem dX5_clear_38 : decode cX5_clear 38 = .ok (.putfield 157, 3) := by decide +kernel
theorem dX5_clear_41 : decode cX5_clear 41 = .ok (.aload_n 0, 1) := by decide +kernel
theorem dX5_clear_42 : decode cX5_clear 42 = .ok (.iconst 0, 1) := by decide +kernel
theorem dX5_clear_43 : decode cX5_clear 43 = .ok (.putfield 160, 3) := by decide +kernel
theorem dX5_clear_46 : decode cX5_clear 46 = .ok (.aload_n 0, 1) := by decide +kernel
theorem dX5_clear_47 : decode cX5_clear 47 = .ok (.getfield 22, 3) := by decide +kernel
theorem dX5_clear_50 : decode cX5_clear 50 = .ok (.iconst 0, 1) := by decide +kernel
theorem dX5_clear_51 : decode cX5_clear 51 = .ok (.iconst 0, 1) := by decide +kernel
theorem dX5_clear_52 : decode cX5_clear 52 = .ok (.iastore, 1) := by decide +kernel
theorem dX5_clear_53 : decode cX5_clear 53 = .ok (.aload_n 0, 1) := by decide +kernel
theorem dX5_clear_54 : decode cX5_clear 54 = .ok (.getfield 22, 3) := by decide +kernel
theorem dX5_clear_57 : decode cX5_clear 57 = .ok (.iconst 1, 1) := by decide +kernel
theorem dX5_clear_58 : decode cX5_clear 58 = .ok (.iconst 0, 1) := by decide +kernel
theorem dX5_clear_59 : decode cX5_clear 59 = .ok (.iastore, 1) := by decide +kernel
theorem dX5_clear_60 : decode cX5_clear 60 = .ok (.aload_n 0, 1) := by decide +kernel
theorem dX5_clear_61 : decode cX5_clear 61 = .ok (.iconst 0, 1) := by decide +kernel
theorem dX5_clear_62 : decode cX5_clear 62 = .ok (.putfield 148, 3) := by decide +kernel
theorem dX5_clear_65 : decode cX5_clear 65 = .ok (.aload_n 0, 1) := by decide +kernel
theorem dX5_clear_66 : decode cX5_clear 66 = .ok (.iconst 0, 1) := by decide +kernel
theorem dX5_clear_67 : decode cX5_clear 67 = .ok (.putfield 154, 3) := by decide +kernel
theorem dX5_clear_70 : decode cX5_clear 70 = .ok (.aload_n 0, 1) := by decide +kernel
theorem dX5_clear_71 : decode cX5_clear 71 = .ok (.iconst 0, 1) := by decide +kernel
theorem dX5_clear_72 : decode cX5_clear 72 = .ok (.putfield 151, 3) := by decide +kernel
theorem dX5_clear_75 : decode cX5_clear 75 = .ok (.aload_n 0, 1) := by decide +kernel
theorem dX5_clear_76 : decode cX5_clear 76 = .ok (.iconst 0, 1) := by decide +kernel
theorem dX5_clear_77 : decode cX5_clear 77 = .ok (.putfield 82, 3) := by decide +kernel
theorem dX5_clear_80 : decode cX5_clear 80 = .ok (.aload_n 0, 1) := by decide +kernel
theorem dX5_clear_81 : decode cX5_clear 81 = .ok (.iconst 0, 1) := by decide +kernel
theorem dX5_clear_82 : decode cX5_clear 82 = .ok (.putfield 166, 3) := by decide +kernel
theorem dX5_clear_85 : decode cX5_clear 85 = .ok (.aload_n 0, 1) := by decide +kernel
theorem dX5_clear_86 : decode cX5_clear 86 = .ok (.iconst 0, 1) := by decide +kernel
theorem dX5_clear_87 : decode cX5_clear 87 = .ok (.putfield 163, 3) := by decide +kernel
theorem dX5_clear_90 : decode cX5_clear 90 = .ok (.return_, 1) := by decide +kernel
set_option maxRecDepth 20000 in
theorem ggX5_worked_X5_push : GoodIn wsX5_worked wsX5_push := goodIn_r _ [11, 12, 13, 14, 15, 16, 10, 17, 18, 140, 141, 142, 143, 144, 145, 146, 147, 148, 149, 150, 151, 152, 153, 154, 155, 156, 157, 158, 159, 160, 161, 162, 163] (by decide +kernel) (by decide +kernel)
set_option maxRecDepth 20000 in
theorem gX5_worked_X5_push : GoodIn wsX5_worked (wsV RX5 136 RX5 yX5_push wsX5_push) := goodIn_app (goodIn_of _ (by decide +kernel)) ggX5_worked_X5_push
set_option maxRecDepth 20000 in
theorem ggX5_worked_X5_one : GoodIn wsX5_worked wsX5_one := goodIn_r _ [22, 3, 23, 24, 25, 10, 26, 4, 13, 27, 28, 29, 30, 18, 31, 32, 33, 34, 35, 36, 37, 38, 39, 40, 41, 42, 43, 44, 14, 15, 16, 17, 45, 46, 47, 48, 49, 50, 51, 52, 53, 54, 55, 56, 57, 58, 59, 60, 61, 62, 63, 64, 65, 12, 66, 67, 68, 69, 70, 71, 72, 73, 74, 75, 76, 77, 78, 79, 80, 81, 82, 83, 84, 85, 86, 87, 88, 89, 90, 91, 92, 93, 94, 95, 96, 97, 98, 99, 100, 101, 102, 103, 104, 105, 106, 107, 108, 109, 110, 111, 112, 113, 114, 115, 116, 117, 1, 6, 5, 118, 119, 120, 121, 122, 123, 124, 125, 126, 127, 128, 129, 130, 131, 132, 133, 134, 135, 7, 8, 9, 11, 136, 137, 138, 139, 140, 141, 142, 143, 144, 145, 146, 147, 148, 149, 150, 151, 152, 153, 154, 155, 156, 157, 158, 159, 160, 161, 162, 163] (by decide +kernel) (by decide +kernel)
set_option maxRecDepth 20000 in
theorem gX5_worked_X5_one : GoodIn wsX5_worked (wsV RX5 169 RX5 yX5_one wsX5_one) := goodIn_app (goodIn_of _ (by decide +kernel)) ggX5_worked_X5_one
theorem dX5_worked_0 : decode cX5_worked 0 = .ok (.aload_n 0, 1) := by decide +kernel
theorem dX5_worked_1 : decode cX5_worked 1 = .ok (.getfield 148, 3) := by decide +kernel
theorem dX5_worked_4 : decode cX5_worked 4 = .ok (.ifCond .eq 47, 3) := by decide +kernel
theorem dX5_worked_7 : decode cX5_worked 7 = .ok (.aload_n 0, 1) := by decide +kernel
theorem dX5_worked_8 : decode cX5_worked 8 = .ok (.getfield 166, 3) := by decide +kernel
theorem dX5_worked_11 : decode cX5_worked 11 = .ok (.ifCond .le 40, 3) := by decide +kernel
theorem dX5_worked_14 : decode cX5_worked 14 = .ok (.aload_n 0, 1) := by decide +kernel
theorem dX5_worked_15 : decode cX5_worked 15 = .ok (.iconst 0, 1) := by decide +kernel
theorem dX5_worked_16 : decode cX5_worked 16 = .ok (.putfield 148, 3) := by decide +kernel
theorem dX5_worked_19 : decode cX5_worked 19 = .ok (.aload_n 0, 1) := by decide +kernel
theorem dX5_worked_20 : decode cX5_worked 20 = .ok (.iconst 0, 1) := by decide +kernel
theorem dX5_worked_21 : decode cX5_worked 21 = .ok (.putfield 82, 3) := by decide +kernel
theorem dX5_worked_24 : decode cX5_worked 24 = .ok (.aload_n 0, 1) := by decide +kernel
theorem dX5_worked_25 : decode cX5_worked 25 = .ok (.aload_n 0, 1) := by decide +kernel
theorem dX5_worked_26 : decode cX5_worked 26 = .ok (.getfield 33, 3) := by decide +kernel
theorem dX5_worked_29 : decode cX5_worked 29 = .ok (.invokevirtual 136, 3) := by decide +kernel
theorem dX5_worked_32 : decode cX5_worked 32 = .ok (.aload_n 0, 1) := by decide +kernel
theorem dX5_worked_33 : decode cX5_worked 33 = .ok (.bipush 8, 2) := by decide +kernel
theorem dX5_worked_35 : decode cX5_worked 35 = .ok (.aload_n 0, 1) := by decide +kernel
theorem dX5_worked_36 : decode cX5_worked 36 = .ok (.getfield 166, 3) := by decide +kernel
theorem dX5_worked_39 : decode cX5_worked 39 = .ok (.imul, 1) := by decide +kernel
theorem dX5_worked_40 : decode cX5_worked 40 = .ok (.putfield 33, 3) := by decide +kernel
theorem dX5_worked_43 : decode cX5_worked 43 = .ok (.aload_n 0, 1) := by decide +kernel
theorem dX5_worked_44 : decode cX5_worked 44 = .ok (.iconst 0, 1) := by decide +kernel
theorem dX5_worked_45 : decode cX5_worked 45 = .ok (.putfield 166, 3) := by decide +kernel
theorem dX5_worked_48 : decode cX5_worked 48 = .ok (.bipush 11, 2) := by decide +kernel
theorem dX5_worked_50 : decode cX5_worked 50 = .ok (.ireturn, 1) := by decide +kernel
theorem dX5_worked_51 : decode cX5_worked 51 = .ok (.aload_n 0, 1) := by decide +kernel
theorem dX5_worked_52 : decode cX5_worked 52 = .ok (.getfield 82, 3) := by decide +kernel
theorem dX5_worked_55 : decode cX5_worked 55 = .ok (.ifCond .eq 5, 3) := by decide +kernel
theorem dX5_worked_58 : decode cX5_worked 58 = .ok (.iconst 1, 1) := by decide +kernel
theorem dX5_worked_59 : decode cX5_worked 59 = .ok (.ireturn, 1) := by decide +kernel
theorem dX5_worked_60 : decode cX5_worked 60 = .ok (.aload_n 0, 1) := by decide +kernel
theorem dX5_worked_61 : decode cX5_worked 61 = .ok (.aload_n 0, 1) := by decide +kernel
theorem dX5_worked_62 : decode cX5_worked 62 = .ok (.getfield 154, 3) := by decide +kernel
theorem dX5_worked_65 : decode cX5_worked 65 = .ok (.putfield 151, 3) := by decide +kernel
theorem dX5_worked_68 : decode cX5_worked 68 = .ok (.aload_n 0, 1) := by decide +kernel
theorem dX5_worked_69 : decode cX5_worked 69 = .ok (.iconst 0, 1) := by decide +kernel
theorem dX5_worked_70 : decode cX5_worked 70 = .ok (.putfield 154, 3) := by decide +kernel
theorem dX5_worked_73 : decode cX5_worked 73 = .ok (.aload_n 0, 1) := by decide +kernel
theorem dX5_worked_74 : decode cX5_worked 74 = .ok (.invokevirtual 169, 3) := by decide +kernel
theorem dX5_worked_77 : decode cX5_worked 77 = .ok (.istore_n 1, 1) := by decide +kernel
theorem dX5_worked_78 : decode cX5_worked 78 = .ok (.aload_n 0, 1) := by decide +kernel
theorem dX5_worked_79 : decode cX5_worked 79 = .ok (.aload_n 0, 1) := by decide +kernel
theorem dX5_worked_80 : decode cX5_worked 80 = .ok (.getfield 148, 3) := by decide +kernel
theorem dX5_worked_83 : decode cX5_worked 83 = .ok (.ifCond .ne 10, 3) := by decide +kernel
theorem dX5_worked_86 : decode cX5_worked 86 = .ok (.aload_n 0, 1) := by decide +kernel
theorem dX5_worked_87 : decode cX5_worked 87 = .ok (.getfield 151, 3) := by decide +kernel
theorem dX5_worked_90 : decode cX5_worked 90 = .ok (.ifCond .eq 7, 3) := by decide +kernel
theorem dX5_worked_93 : decode cX5_worked 93 = .ok (.iconst 1, 1) := by decide +kernel
theorem dX5_worked_94 : decode cX5_worked 94 = .ok (.goto 4, 3) := by decide +kernel
theorem dX5_worked_97 : decode cX5_worked 97 = .ok (.iconst 0, 1) := by decide +kernel
theorem dX5_worked_98 : decode cX5_worked 98 = .ok (.putfield 148, 3) := by decide +kernel
theorem dX5_worked_101 : decode cX5_worked 101 = .ok (.iload_n 1, 1) := by decide +kernel
theorem dX5_worked_102 : decode cX5_worked 102 = .ok (.ireturn, 1) := by decide +kernel
set_option maxRecDepth 20000 in
theorem ggX5_step_X5_worked : GoodIn wsX5_step wsX5_worked := goodIn_r _ [11, 12, 3, 13, 14, 15, 16, 17, 18, 19, 10, 20, 21, 22, 23, 24, 25, 26, 27, 28, 29, 30, 31, 32, 33, 34, 35, 36, 37, 38, 39, 40, 41, 42, 43, 44, 45, 46, 47, 48, 49, 50, 51, 52, 53, 54, 55, 56, 57, 58, 59, 60, 61, 62, 63, 64, 65, 66, 67, 68, 69, 70, 71, 72, 73, 74, 75, 76, 77, 78, 79, 80, 81, 82, 83, 84, 85, 86, 87, 88, 89, 90, 91, 92, 93, 94, 95, 96, 97, 98, 99, 100, 101, 102, 103, 104, 105, 106, 107, 108, 109, 110, 111, 112, 113, 114, 115, 116, 117, 118, 119, 120, 121, 122, 123, 124, 125, 126, 127, 128, 129, 130, 131, 132, 133, 134, 6, 135, 136, 137, 138, 139, 140, 141, 142, 143, 144, 145, 146, 147, 152, 153, 154, 155, 156, 157, 158, 159, 160, 161, 162, 163, 164, 165, 166, 167, 168, 169, 170, 171, 172, 173, 174, 175] (by decide +kernel) (by decide +kernel)
set_option maxRecDepth 20000 in
theorem gX5_step_X5_worked : GoodIn wsX5_step (wsV RX5 172 RX5 yX5_worked wsX5_worked) := goodIn_app (goodIn_of _ (by decide +kernel)) ggX5_step_X5_worked
set_option maxRecDepth 20000 in
theorem ggX5_step_X5_clear : GoodIn wsX5_step wsX5_clear := goodIn_r _ [151, 45, 21, 14, 134, 131, 133, 12, 15, 16, 13, 3, 6, 115, 116, 117, 10, 118, 64, 65, 59, 66, 58, 152, 153, 154, 155, 156, 157, 158, 159, 160, 161, 162, 163, 164, 165, 166, 167, 168, 169, 170, 171, 172, 173, 174, 175] (by decide +kernel) (by decide +kernel)
set_option maxRecDepth 20000 in
theorem gX5_step_X5_clear : GoodIn wsX5_step (wsV RX5 182 RX5 yX5_clear wsX5_clear) := goodIn_app (goodIn_of _ (by decide +kernel)) ggX5_step_X5_clear
theorem dX5_step_0 : decode cX5_step 0 = .ok (.aload_n 0, 1) := by decide +kernel
theorem dX5_step_1 : decode cX5_step 1 = .ok (.iconst 0, 1) := by decide +kernel
theorem dX5_step_2 : decode cX5_step 2 = .ok (.putfield 28, 3) := by decide +kernel
theorem dX5_step_5 : decode cX5_step 5 = .ok (.aload_n 0, 1) := by decide +kernel
theorem dX5_step_6 : decode cX5_step 6 = .ok (.invokevirtual 172, 3) := by decide +kernel
theorem dX5_step_9 : decode cX5_step 9 = .ok (.istore_n 1, 1) := by decide +kernel
theorem dX5_step_10 : decode cX5_step 10 = .ok (.aload_n 0, 1) := by decide +kernel
theorem dX5_step_11 : decode cX5_step 11 = .ok (.getfield 175, 3) := by decide +kernel
theorem dX5_step_14 : decode cX5_step 14 = .ok (.istore_n 2, 1) := by decide +kernel
theorem dX5_step_15 : decode cX5_step 15 = .ok (.aload_n 0, 1) := by decide +kernel
theorem dX5_step_16 : decode cX5_step 16 = .ok (.dup, 1) := by decide +kernel
theorem dX5_step_17 : decode cX5_step 17 = .ok (.getfield 175, 3) := by decide +kernel
theorem dX5_step_20 : decode cX5_step 20 = .ok (.iload_n 1, 1) := by decide +kernel
theorem dX5_step_21 : decode cX5_step 21 = .ok (.iadd, 1) := by decide +kernel
theorem dX5_step_22 : decode cX5_step 22 = .ok (.putfield 175, 3) := by decide +kernel
theorem dX5_step_25 : decode cX5_step 25 = .ok (.iload_n 2, 1) := by decide +kernel
theorem dX5_step_26 : decode cX5_step 26 = .ok (.sipush 16667, 3) := by decide +kernel
theorem dX5_step_29 : decode cX5_step 29 = .ok (.if_icmp .ge 18, 3) := by decide +kernel
theorem dX5_step_32 : decode cX5_step 32 = .ok (.aload_n 0, 1) := by decide +kernel
theorem dX5_step_33 : decode cX5_step 33 = .ok (.getfield 175, 3) := by decide +kernel
theorem dX5_step_36 : decode cX5_step 36 = .ok (.sipush 16667, 3) := by decide +kernel
theorem dX5_step_39 : decode cX5_step 39 = .ok (.if_icmp .lt 8, 3) := by decide +kernel
theorem dX5_step_42 : decode cX5_step 42 = .ok (.aload_n 0, 1) := by decide +kernel
theorem dX5_step_43 : decode cX5_step 43 = .ok (.iconst 1, 1) := by decide +kernel
theorem dX5_step_44 : decode cX5_step 44 = .ok (.putfield 166, 3) := by decide +kernel
theorem dX5_step_47 : decode cX5_step 47 = .ok (.aload_n 0, 1) := by decide +kernel
theorem dX5_step_48 : decode cX5_step 48 = .ok (.getfield 175, 3) := by decide +kernel
theorem dX5_step_51 : decode cX5_step 51 = .ok (.ldc 178, 2) := by decide +kernel
theorem dX5_step_53 : decode cX5_step 53 = .ok (.if_icmp .lt 52, 3) := by decide +kernel
theorem dX5_step_56 : decode cX5_step 56 = .ok (.aload_n 0, 1) := by decide +kernel
theorem dX5_step_57 : decode cX5_step 57 = .ok (.dup, 1) := by decide +kernel
theorem dX5_step_58 : decode cX5_step 58 = .ok (.getfield 175, 3) := by decide +kernel
theorem dX5_step_61 : decode cX5_step 61 = .ok (.ldc 178, 2) := by decide +kernel
theorem dX5_step_63 : decode cX5_step 63 = .ok (.isub, 1) := by decide +kernel
theorem dX5_step_64 : decode cX5_step 64 = .ok (.putfield 175, 3) := by decide +kernel
theorem dX5_step_67 : decode cX5_step 67 = .ok (.aload_n 0, 1) := by decide +kernel
theorem dX5_step_68 : decode cX5_step 68 = .ok (.dup, 1) := by decide +kernel
theorem dX5_step_69 : decode cX5_step 69 = .ok (.getfield 179, 3) := by decide +kernel
theorem dX5_step_72 : decode cX5_step 72 = .ok (.iconst 1, 1) := by decide +kernel
theorem dX5_step_73 : decode cX5_step 73 = .ok (.iadd, 1) := by decide +kernel
theorem dX5_step_74 : decode cX5_step 74 = .ok (.putfield 179, 3) := by decide +kernel
theorem dX5_step_77 : decode cX5_step 77 = .ok (.aload_n 0, 1) := by decide +kernel
theorem dX5_step_78 : decode cX5_step 78 = .ok (.dup, 1) := by decide +kernel
theorem dX5_step_79 : decode cX5_step 79 = .ok (.getfield 163, 3) := by decide +kernel
theorem dX5_step_82 : decode cX5_step 82 = .ok (.iconst 1, 1) := by decide +kernel
theorem dX5_step_83 : decode cX5_step 83 = .ok (.iadd, 1) := by decide +kernel
theorem dX5_step_84 : decode cX5_step 84 = .ok (.putfield 163, 3) := by decide +kernel
theorem dX5_step_87 : decode cX5_step 87 = .ok (.aload_n 0, 1) := by decide +kernel
theorem dX5_step_88 : decode cX5_step 88 = .ok (.iconst 2, 1) := by decide +kernel
theorem dX5_step_89 : decode cX5_step 89 = .ok (.putfield 166, 3) := by decide +kernel
theorem dX5_step_92 : decode cX5_step 92 = .ok (.aload_n 0, 1) := by decide +kernel
theorem dX5_step_93 : decode cX5_step 93 = .ok (.getfield 163, 3) := by decide +kernel
theorem dX5_step_96 : decode cX5_step 96 = .ok (.bipush 16, 2) := by decide +kernel
theorem dX5_step_98 : decode cX5_step 98 = .ok (.if_icmp .ne 7, 3) := by decide +kernel
theorem dX5_step_101 : decode cX5_step 101 = .ok (.aload_n 0, 1) := by decide +kernel
theorem dX5_step_102 : decode cX5_step 102 = .ok (.invokevirtual 182, 3) := by decide +kernel
theorem dX5_step_105 : decode cX5_step 105 = .ok (.iload_n 1, 1) := by decide +kernel
theorem dX5_step_106 : decode cX5_step 106 = .ok (.ireturn, 1) := by decide +kernel
set_option maxRecDepth 20000 in
theorem ggX5_run_X5_step : GoodIn wsX5_run wsX5_step := goodIn_r _ [7, 2, 8, 9, 10, 11, 12, 13, 14, 15, 6, 16, 17, 18, 19, 20, 21, 22, 23, 24, 25, 26, 27, 28, 29, 30, 31, 32, 33, 34, 35, 36, 37, 38, 39, 40, 41, 42, 43, 44, 45, 46, 47, 48, 49, 50, 51, 52, 53, 54, 55, 56, 57, 58, 59, 60, 61, 62, 63, 64, 65, 66, 67, 68, 69, 70, 71, 72, 73, 74, 75, 76, 77, 78, 79, 80, 81, 82, 83, 84, 85, 86, 87, 88, 89, 90, 91, 92, 93, 94, 95, 96, 97, 98, 99, 100, 101, 102, 103, 104, 105, 106, 107, 108, 109, 110, 111, 112, 113, 114, 115, 116, 117, 118, 119, 120, 121, 122, 123, 124, 125, 126, 127, 128, 129, 130, 131, 132, 133, 134, 135, 136, 137, 138, 139, 140, 141, 142, 143, 144, 145, 146, 147, 148, 149, 150, 151, 152, 153, 154, 155, 156, 157, 158, 159, 160, 161, 162, 163, 164, 165, 166, 167, 168, 169, 170, 171, 172, 173, 174, 175, 176, 177, 178, 179, 180] (by decide +kernel) (by decide +kernel)
set_option maxRecDepth 20000 in
theorem gX5_run_X5_step : GoodIn wsX5_run (wsV RX5 186 RX5 yX5_step wsX5_step) := goodIn_app (goodIn_of _ (by decide +kernel)) ggX5_run_X5_step
theorem dX5_run_0 : decode cX5_run 0 = .ok (.aload_n 0, 1) := by decide +kernel
theorem dX5_run_1 : decode cX5_run 1 = .ok (.iload_n 1, 1) := by decide +kernel
theorem dX5_run_2 : decode cX5_run 2 = .ok (.iconst 1, 1) := by decide +kernel
theorem dX5_run_3 : decode cX5_run 3 = .ok (.if_icmp .lt 9, 3) := by decide +kernel
theorem dX5_run_6 : decode cX5_run 6 = .ok (.iload_n 1, 1) := by decide +kernel
theorem dX5_run_7 : decode cX5_run 7 = .ok (.ldc 185, 2) := by decide +kernel
theorem dX5_run_9 : decode cX5_run 9 = .ok (.if_icmp .le 7, 3) := by decide +kernel
theorem dX5_run_12 : decode cX5_run 12 = .ok (.iconst 1, 1) := by decide +kernel
theorem dX5_run_13 : decode cX5_run 13 = .ok (.goto 4, 3) := by decide +kernel
theorem dX5_run_16 : decode cX5_run 16 = .ok (.iconst 0, 1) := by decide +kernel
theorem dX5_run_17 : decode cX5_run 17 = .ok (.putfield 28, 3) := by decide +kernel
theorem dX5_run_20 : decode cX5_run 20 = .ok (.aload_n 0, 1) := by decide +kernel
theorem dX5_run_21 : decode cX5_run 21 = .ok (.getfield 28, 3) := by decide +kernel
theorem dX5_run_24 : decode cX5_run 24 = .ok (.ifCond .le 5, 3) := by decide +kernel
theorem dX5_run_27 : decode cX5_run 27 = .ok (.iconst 0, 1) := by decide +kernel
theorem dX5_run_28 : decode cX5_run 28 = .ok (.ireturn, 1) := by decide +kernel
theorem dX5_run_29 : decode cX5_run 29 = .ok (.iconst 0, 1) := by decide +kernel
theorem dX5_run_30 : decode cX5_run 30 = .ok (.istore_n 2, 1) := by decide +kernel
theorem dX5_run_31 : decode cX5_run 31 = .ok (.iload_n 2, 1) := by decide +kernel
theorem dX5_run_32 : decode cX5_run 32 = .ok (.iload_n 1, 1) := by decide +kernel
theorem dX5_run_33 : decode cX5_run 33 = .ok (.if_icmp .ge 13, 3) := by decide +kernel
theorem dX5_run_36 : decode cX5_run 36 = .ok (.iload_n 2, 1) := by decide +kernel
theorem dX5_run_37 : decode cX5_run 37 = .ok (.aload_n 0, 1) := by decide +kernel
theorem dX5_run_38 : decode cX5_run 38 = .ok (.invokevirtual 186, 3) := by decide +kernel
theorem dX5_run_41 : decode cX5_run 41 = .ok (.iadd, 1) := by decide +kernel
theorem dX5_run_42 : decode cX5_run 42 = .ok (.istore_n 2, 1) := by decide +kernel
theorem dX5_run_43 : decode cX5_run 43 = .ok (.goto (-12), 3) := by decide +kernel
theorem dX5_run_46 : decode cX5_run 46 = .ok (.iload_n 2, 1) := by decide +kernel
theorem dX5_run_47 : decode cX5_run 47 = .ok (.ireturn, 1) := by decide +kernel
set_option maxRecDepth 20000 in
theorem ggX5_reset_X5_clear : GoodIn wsX5_reset wsX5_clear := goodIn_r _ [7, 8, 9, 10, 11, 12, 13, 14, 15, 16, 17, 18, 19, 20, 21, 22, 6, 23, 24, 25, 26, 27, 28, 29, 30, 31, 32, 33, 34, 35, 36, 37, 38, 39, 40, 41, 42, 43, 44, 45, 46, 47, 48, 49, 50, 51, 52] (by decide +kernel) (by decide +kernel)
set_option maxRecDepth 20000 in
theorem gX5_reset_X5_clear : GoodIn wsX5_reset (wsV RX5 182 RX5 yX5_clear wsX5_clear) := goodIn_app (goodIn_of _ (by decide +kernel)) ggX5_reset_X5_clear
theorem dX5_reset_0 : decode cX5_reset 0 = .ok (.aload_n 0, 1) := by decide +kernel
theorem dX5_reset_1 : decode cX5_reset 1 = .ok (.iconst 0, 1) := by decide +kernel
theorem dX5_reset_2 : decode cX5_reset 2 = .ok (.putfield 28, 3) := by decide +kernel
theorem dX5_reset_5 : decode cX5_reset 5 = .ok (.aload_n 0, 1) := by decide +kernel
theorem dX5_reset_6 : decode cX5_reset 6 = .ok (.invokevirtual 182, 3) := by decide +kernel
theorem dX5_reset_9 : decode cX5_reset 9 = .ok (.aload_n 0, 1) := by decide +kernel
theorem dX5_reset_10 : decode cX5_reset 10 = .ok (.iconst 0, 1) := by decide +kernel
theorem dX5_reset_11 : decode cX5_reset 11 = .ok (.putfield 175, 3) := by decide +kernel
theorem dX5_reset_14 : decode cX5_reset 14 = .ok (.return_, 1) := by decide +kernel
theorem dX5_load_0 : decode cX5_load 0 = .ok (.aload_n 0, 1) := by decide +kernel
theorem dX5_load_1 : decode cX5_load 1 = .ok (.iload_n 3, 1) := by decide +kernel
theorem dX5_load_2 : decode cX5_load 2 = .ok (.iconst 1, 1) := by decide +kernel
theorem dX5_load_3 : decode cX5_load 3 = .ok (.if_icmp .lt 21, 3) := by decide +kernel
theorem dX5_load_6 : decode cX5_load 6 = .ok (.iload_n 3, 1) := by decide +kernel
theorem dX5_load_7 : decode cX5_load 7 = .ok (.iconst 4, 1) := by decide +kernel
theorem dX5_load_8 : decode cX5_load 8 = .ok (.if_icmp .gt 16, 3) := by decide +kernel
theorem dX5_load_11 : decode cX5_load 11 = .ok (.iload_n 1, 1) := by decide +kernel
theorem dX5_load_12 : decode cX5_load 12 = .ok (.ifCond .lt 12, 3) := by decide +kernel
theorem dX5_load_15 : decode cX5_load 15 = .ok (.iload_n 1, 1) := by decide +kernel
theorem dX5_load_16 : decode cX5_load 16 = .ok (.sipush 2048, 3) := by decide +kernel
theorem dX5_load_19 : decode cX5_load 19 = .ok (.iload_n 3, 1) := by decide +kernel
theorem dX5_load_20 : decode cX5_load 20 = .ok (.isub, 1) := by decide +kernel
theorem dX5_load_21 : decode cX5_load 21 = .ok (.if_icmp .le 7, 3) := by decide +kernel
theorem dX5_load_24 : decode cX5_load 24 = .ok (.iconst 1, 1) := by decide +kernel
theorem dX5_load_25 : decode cX5_load 25 = .ok (.goto 4, 3) := by decide +kernel
theorem dX5_load_28 : decode cX5_load 28 = .ok (.iconst 0, 1) := by decide +kernel
theorem dX5_load_29 : decode cX5_load 29 = .ok (.putfield 28, 3) := by decide +kernel
theorem dX5_load_32 : decode cX5_load 32 = .ok (.aload_n 0, 1) := by decide +kernel
theorem dX5_load_33 : decode cX5_load 33 = .ok (.getfield 28, 3) := by decide +kernel
theorem dX5_load_36 : decode cX5_load 36 = .ok (.ifCond .le 5, 3) := by decide +kernel
theorem dX5_load_39 : decode cX5_load 39 = .ok (.iconst 0, 1) := by decide +kernel
theorem dX5_load_40 : decode cX5_load 40 = .ok (.ireturn, 1) := by decide +kernel
theorem dX5_load_41 : decode cX5_load 41 = .ok (.iconst 0, 1) := by decide +kernel
theorem dX5_load_42 : decode cX5_load 42 = .ok (.istore 4, 2) := by decide +kernel
theorem dX5_load_44 : decode cX5_load 44 = .ok (.iload 4, 2) := by decide +kernel
theorem dX5_load_46 : decode cX5_load 46 = .ok (.iload_n 3, 1) := by decide +kernel
theorem dX5_load_47 : decode cX5_load 47 = .ok (.if_icmp .ge 33, 3) := by decide +kernel
theorem dX5_load_50 : decode cX5_load 50 = .ok (.aload_n 0, 1) := by decide +kernel
theorem dX5_load_51 : decode cX5_load 51 = .ok (.getfield 7, 3) := by decide +kernel
theorem dX5_load_54 : decode cX5_load 54 = .ok (.iload_n 1, 1) := by decide +kernel
theorem dX5_load_55 : decode cX5_load 55 = .ok (.iload 4, 2) := by decide +kernel
theorem dX5_load_57 : decode cX5_load 57 = .ok (.iadd, 1) := by decide +kernel
theorem dX5_load_58 : decode cX5_load 58 = .ok (.iload_n 2, 1) := by decide +kernel
theorem dX5_load_59 : decode cX5_load 59 = .ok (.bipush 8, 2) := by decide +kernel
theorem dX5_load_61 : decode cX5_load 61 = .ok (.iload_n 3, 1) := by decide +kernel
theorem dX5_load_62 : decode cX5_load 62 = .ok (.iconst 1, 1) := by decide +kernel
theorem dX5_load_63 : decode cX5_load 63 = .ok (.isub, 1) := by decide +kernel
theorem dX5_load_64 : decode cX5_load 64 = .ok (.iload 4, 2) := by decide +kernel
theorem dX5_load_66 : decode cX5_load 66 = .ok (.isub, 1) := by decide +kernel
theorem dX5_load_67 : decode cX5_load 67 = .ok (.imul, 1) := by decide +kernel
theorem dX5_load_68 : decode cX5_load 68 = .ok (.ishr, 1) := by decide +kernel
theorem dX5_load_69 : decode cX5_load 69 = .ok (.sipush 255, 3) := by decide +kernel
theorem dX5_load_72 : decode cX5_load 72 = .ok (.iand, 1) := by decide +kernel
theorem dX5_load_73 : decode cX5_load 73 = .ok (.iastore, 1) := by decide +kernel
theorem dX5_load_74 : decode cX5_load 74 = .ok (.iinc 4 1, 3) := by decide +kernel
theorem dX5_load_77 : decode cX5_load 77 = .ok (.goto (-33), 3) := by decide +kernel
theorem dX5_load_80 : decode cX5_load 80 = .ok (.iload_n 1, 1) := by decide +kernel
theorem dX5_load_81 : decode cX5_load 81 = .ok (.iload_n 3, 1) := by decide +kernel
theorem dX5_load_82 : decode cX5_load 82 = .ok (.iadd, 1) := by decide +kernel
theorem dX5_load_83 : decode cX5_load 83 = .ok (.ireturn, 1) := by decide +kernel
theorem dX5_input_0 : decode cX5_input 0 = .ok (.aload_n 0, 1) := by decide +kernel
theorem dX5_input_1 : decode cX5_input 1 = .ok (.iload_n 1, 1) := by decide +kernel
theorem dX5_input_2 : decode cX5_input 2 = .ok (.ifCond .lt 8, 3) := by decide +kernel
theorem dX5_input_5 : decode cX5_input 5 = .ok (.iload_n 1, 1) := by decide +kernel
theorem dX5_input_6 : decode cX5_input 6 = .ok (.iconst 2, 1) := by decide +kernel
theorem dX5_input_7 : decode cX5_input 7 = .ok (.if_icmp .le 7, 3) := by decide +kernel
theorem dX5_input_10 : decode cX5_input 10 = .ok (.iconst 1, 1) := by decide +kernel
theorem dX5_input_11 : decode cX5_input 11 = .ok (.goto 4, 3) := by decide +kernel
theorem dX5_input_14 : decode cX5_input 14 = .ok (.iconst 0, 1) := by decide +kernel
theorem dX5_input_15 : decode cX5_input 15 = .ok (.putfield 28, 3) := by decide +kernel
theorem dX5_input_18 : decode cX5_input 18 = .ok (.aload_n 0, 1) := by decide +kernel
theorem dX5_input_19 : decode cX5_input 19 = .ok (.getfield 28, 3) := by decide +kernel
theorem dX5_input_22 : decode cX5_input 22 = .ok (.ifCond .ne 14, 3) := by decide +kernel
theorem dX5_input_25 : decode cX5_input 25 = .ok (.aload_n 0, 1) := by decide +kernel
theorem dX5_input_26 : decode cX5_input 26 = .ok (.getfield 19, 3) := by decide +kernel
theorem dX5_input_29 : decode cX5_input 29 = .ok (.iload_n 1, 1) := by decide +kernel
theorem dX5_input_30 : decode cX5_input 30 = .ok (.iload_n 2, 1) := by decide +kernel
theorem dX5_input_31 : decode cX5_input 31 = .ok (.sipush 255, 3) := by decide +kernel
theorem dX5_input_34 : decode cX5_input 34 = .ok (.iand, 1) := by decide +kernel
theorem dX5_input_35 : decode cX5_input 35 = .ok (.iastore, 1) := by decide +kernel
theorem dX5_input_36 : decode cX5_input 36 = .ok (.return_, 1) := by decide +kernel
set_option maxRecDepth 20000 in
theorem ggX5_register_X5_flags : GoodIn wsX5_register wsX5_flags := goodIn_r _ [11, 12, 13, 14, 15, 16, 17, 18, 19, 20, 21, 22, 23, 24, 25, 26, 27, 28, 29, 30, 31, 32, 33, 34, 35, 36, 37, 38, 39, 40] (by decide +kernel) (by decide +kernel)
set_option maxRecDepth 20000 in
theorem gX5_register_X5_flags : GoodIn wsX5_register (wsV RX5 133 RX5 yX5_flags wsX5_flags) := goodIn_app (goodIn_of _ (by decide +kernel)) ggX5_register_X5_flags
theorem dX5_register_0 : decode cX5_register 0 = .ok (.aload_n 0, 1) := by decide +kernel
theorem dX5_register_1 : decode cX5_register 1 = .ok (.iload_n 1, 1) := by decide +kernel
theorem dX5_register_2 : decode cX5_register 2 = .ok (.ifCond .lt 9, 3) := by decide +kernel
theorem dX5_register_5 : decode cX5_register 5 = .ok (.iload_n 1, 1) := by decide +kernel
theorem dX5_register_6 : decode cX5_register 6 = .ok (.bipush 11, 2) := by decide +kernel
theorem dX5_register_8 : decode cX5_register 8 = .ok (.if_icmp .le 7, 3) := by decide +kernel
theorem dX5_register_11 : decode cX5_register 11 = .ok (.iconst 1, 1) := by decide +kernel
theorem dX5_register_12 : decode cX5_register 12 = .ok (.goto 4, 3) := by decide +kernel
theorem dX5_register_15 : decode cX5_register 15 = .ok (.iconst 0, 1) := by decide +kernel
theorem dX5_register_16 : decode cX5_register 16 = .ok (.putfield 28, 3) := by decide +kernel
theorem dX5_register_19 : decode cX5_register 19 = .ok (.aload_n 0, 1) := by decide +kernel
theorem dX5_register_20 : decode cX5_register 20 = .ok (.getfield 28, 3) := by decide +kernel
theorem dX5_register_23 : decode cX5_register 23 = .ok (.ifCond .le 5, 3) := by decide +kernel
theorem dX5_register_26 : decode cX5_register 26 = .ok (.iconst 0, 1) := by decide +kernel
theorem dX5_register_27 : decode cX5_register 27 = .ok (.ireturn, 1) := by decide +kernel
theorem dX5_register_28 : decode cX5_register 28 = .ok (.iload_n 1, 1) := by decide +kernel
theorem dX5_register_29 : decode cX5_register 29 = .ok (.bipush 6, 2) := by decide +kernel
theorem dX5_register_31 : decode cX5_register 31 = .ok (.if_icmp .ne 8, 3) := by decide +kernel
theorem dX5_register_34 : decode cX5_register 34 = .ok (.aload_n 0, 1) := by decide +kernel
theorem dX5_register_35 : decode cX5_register 35 = .ok (.invokevirtual 133, 3) := by decide +kernel
theorem dX5_register_38 : decode cX5_register 38 = .ok (.ireturn, 1) := by decide +kernel
theorem dX5_register_39 : decode cX5_register 39 = .ok (.iload_n 1, 1) := by decide +kernel
theorem dX5_register_40 : decode cX5_register 40 = .ok (.bipush 8, 2) := by decide +kernel
theorem dX5_register_42 : decode cX5_register 42 = .ok (.if_icmp .ge 10, 3) := by decide +kernel
theorem dX5_register_45 : decode cX5_register 45 = .ok (.aload_n 0, 1) := by decide +kernel
theorem dX5_register_46 : decode cX5_register 46 = .ok (.getfield 16, 3) := by decide +kernel
theorem dX5_register_49 : decode cX5_register 49 = .ok (.iload_n 1, 1) := by decide +kernel
theorem dX5_register_50 : decode cX5_register 50 = .ok (.iaload, 1) := by decide +kernel
theorem dX5_register_51 : decode cX5_register 51 = .ok (.ireturn, 1) := by decide +kernel
theorem dX5_register_52 : decode cX5_register 52 = .ok (.iload_n 1, 1) := by decide +kernel
theorem dX5_register_53 : decode cX5_register 53 = .ok (.bipush 8, 2) := by decide +kernel
theorem dX5_register_55 : decode cX5_register 55 = .ok (.if_icmp .ne 10, 3) := by decide +kernel
theorem dX5_register_58 : decode cX5_register 58 = .ok (.aload_n 0, 1) := by decide +kernel
theorem dX5_register_59 : decode cX5_register 59 = .ok (.getfield 44, 3) := by decide +kernel
theorem dX5_register_62 : decode cX5_register 62 = .ok (.goto 49, 3) := by decide +kernel
theorem dX5_register_65 : decode cX5_register 65 = .ok (.iload_n 1, 1) := by decide +kernel
theorem dX5_register_66 : decode cX5_register 66 = .ok (.bipush 9, 2) := by decide +kernel
theorem dX5_register_68 : decode cX5_register 68 = .ok (.if_icmp .ne 10, 3) := by decide +kernel
theorem dX5_register_71 : decode cX5_register 71 = .ok (.aload_n 0, 1) := by decide +kernel
theorem dX5_register_72 : decode cX5_register 72 = .ok (.getfield 33, 3) := by decide +kernel
theorem dX5_register_75 : decode cX5_register 75 = .ok (.goto 36, 3) := by decide +kernel
theorem dX5_register_78 : decode cX5_register 78 = .ok (.iload_n 1, 1) := by decide +kernel
theorem dX5_register_79 : decode cX5_register 79 = .ok (.bipush 10, 2) := by decide +kernel
theorem dX5_register_81 : decode cX5_register 81 = .ok (.if_icmp .ne 18, 3) := by decide +kernel
theorem dX5_register_84 : decode cX5_register 84 = .ok (.aload_n 0, 1) := by decide +kernel
theorem dX5_register_85 : decode cX5_register 85 = .ok (.getfield 148, 3) := by decide +kernel
theorem dX5_register_88 : decode cX5_register 88 = .ok (.ifCond .eq 7, 3) := by decide +kernel
theorem dX5_register_91 : decode cX5_register 91 = .ok (.iconst 1, 1) := by decide +kernel
theorem dX5_register_92 : decode cX5_register 92 = .ok (.goto 19, 3) := by decide +kernel
theorem dX5_register_95 : decode cX5_register 95 = .ok (.iconst 0, 1) := by decide +kernel
theorem dX5_register_96 : decode cX5_register 96 = .ok (.goto 15, 3) := by decide +kernel
theorem dX5_register_99 : decode cX5_register 99 = .ok (.aload_n 0, 1) := by decide +kernel
theorem dX5_register_100 : decode cX5_register 100 = .ok (.getfield 82, 3) := by decide +kernel
theorem dX5_register_103 : decode cX5_register 103 = .ok (.ifCond .eq 7, 3) := by decide +kernel
theorem dX5_register_106 : decode cX5_register 106 = .ok (.iconst 1, 1) := by decide +kernel
theorem dX5_register_107 : decode cX5_register 107 = .ok (.goto 4, 3) := by decide +kernel
theorem dX5_register_110 : decode cX5_register 110 = .ok (.iconst 0, 1) := by decide +kernel
theorem dX5_register_111 : decode cX5_register 111 = .ok (.ireturn, 1) := by decide +kernel
set_option maxRecDepth 20000 in
theorem ggX5_memory_X5_read : GoodIn wsX5_memory wsX5_read := goodIn_r _ [6, 7, 8, 9, 10, 11, 12, 13, 14, 15, 16, 17, 18, 19, 20, 21, 22, 23, 24, 25, 26, 27, 28, 29, 30, 31, 32, 33] (by decide +kernel) (by decide +kernel)
set_option maxRecDepth 20000 in
theorem gX5_memory_X5_read : GoodIn wsX5_memory (wsV RX5 36 RX5 yX5_read wsX5_read) := goodIn_app (goodIn_of _ (by decide +kernel)) ggX5_memory_X5_read
theorem dX5_memory_0 : decode cX5_memory 0 = .ok (.aload_n 0, 1) := by decide +kernel
theorem dX5_memory_1 : decode cX5_memory 1 = .ok (.iconst 0, 1) := by decide +kernel
theorem dX5_memory_2 : decode cX5_memory 2 = .ok (.putfield 28, 3) := by decide +kernel
theorem dX5_memory_5 : decode cX5_memory 5 = .ok (.aload_n 0, 1) := by decide +kernel
theorem dX5_memory_6 : decode cX5_memory 6 = .ok (.iload_n 1, 1) := by decide +kernel
theorem dX5_memory_7 : decode cX5_memory 7 = .ok (.invokevirtual 36, 3) := by decide +kernel
theorem dX5_memory_10 : decode cX5_memory 10 = .ok (.ireturn, 1) := by decide +kernel
set_option maxRecDepth 20000 in
theorem ggX5_poke_X5_write : GoodIn wsX5_poke wsX5_write := goodIn_r _ [6, 7, 14, 15, 16, 17, 18, 19, 20, 21, 22, 23, 24, 25, 26, 27, 28, 29, 30, 31, 32, 33, 34, 35, 36, 37] (by decide +kernel) (by decide +kernel)
set_option maxRecDepth 20000 in
theorem gX5_poke_X5_write : GoodIn wsX5_poke (wsV RX5 47 RX5 yX5_write wsX5_write) := goodIn_app (goodIn_of _ (by decide +kernel)) ggX5_poke_X5_write
set_option maxRecDepth 20000 in
theorem ggX5_poke_X5_read : GoodIn wsX5_poke wsX5_read := goodIn_r _ [11, 12, 7, 13, 14, 15, 16, 17, 18, 19, 20, 21, 22, 23, 24, 25, 26, 27, 28, 29, 30, 31, 32, 33, 34, 35, 36, 37] (by decide +kernel) (by decide +kernel)
set_option maxRecDepth 20000 in
theorem gX5_poke_X5_read : GoodIn wsX5_poke (wsV RX5 36 RX5 yX5_read wsX5_read) := goodIn_app (goodIn_of _ (by decide +kernel)) ggX5_poke_X5_read
theorem dX5_poke_0 : decode cX5_poke 0 = .ok (.aload_n 0, 1) := by decide +kernel
theorem dX5_poke_1 : decode cX5_poke 1 = .ok (.iconst 0, 1) := by decide +kernel
theorem dX5_poke_2 : decode cX5_poke 2 = .ok (.putfield 28, 3) := by decide +kernel
theorem dX5_poke_5 : decode cX5_poke 5 = .ok (.aload_n 0, 1) := by decide +kernel
theorem dX5_poke_6 : decode cX5_poke 6 = .ok (.iload_n 1, 1) := by decide +kernel
theorem dX5_poke_7 : decode cX5_poke 7 = .ok (.iload_n 2, 1) := by decide +kernel
theorem dX5_poke_8 : decode cX5_poke 8 = .ok (.invokevirtual 47, 3) := by decide +kernel
theorem dX5_poke_11 : decode cX5_poke 11 = .ok (.aload_n 0, 1) := by decide +kernel
theorem dX5_poke_12 : decode cX5_poke 12 = .ok (.iload_n 1, 1) := by decide +kernel
theorem dX5_poke_13 : decode cX5_poke 13 = .ok (.invokevirtual 36, 3) := by decide +kernel
theorem dX5_poke_16 : decode cX5_poke 16 = .ok (.ireturn, 1) := by decide +kernel
theorem dX5_bit_0 : decode cX5_bit 0 = .ok (.aload_n 0, 1) := by decide +kernel
theorem dX5_bit_1 : decode cX5_bit 1 = .ok (.getfield 13, 3) := by decide +kernel
theorem dX5_bit_4 : decode cX5_bit 4 = .ok (.sipush 1024, 3) := by decide +kernel
theorem dX5_bit_7 : decode cX5_bit 7 = .ok (.bipush 32, 2) := by decide +kernel
theorem dX5_bit_9 : decode cX5_bit 9 = .ok (.iload_n 1, 1) := by decide +kernel
theorem dX5_bit_10 : decode cX5_bit 10 = .ok (.imul, 1) := by decide +kernel
theorem dX5_bit_11 : decode cX5_bit 11 = .ok (.iadd, 1) := by decide +kernel
theorem dX5_bit_12 : decode cX5_bit 12 = .ok (.sipush 255, 3) := by decide +kernel
theorem dX5_bit_15 : decode cX5_bit 15 = .ok (.iload_n 2, 1) := by decide +kernel
theorem dX5_bit_16 : decode cX5_bit 16 = .ok (.isub, 1) := by decide +kernel
theorem dX5_bit_17 : decode cX5_bit 17 = .ok (.bipush 8, 2) := by decide +kernel
theorem dX5_bit_19 : decode cX5_bit 19 = .ok (.idiv, 1) := by decide +kernel
theorem dX5_bit_20 : decode cX5_bit 20 = .ok (.iadd, 1) := by decide +kernel
theorem dX5_bit_21 : decode cX5_bit 21 = .ok (.iaload, 1) := by decide +kernel
theorem dX5_bit_22 : decode cX5_bit 22 = .ok (.sipush 255, 3) := by decide +kernel
theorem dX5_bit_25 : decode cX5_bit 25 = .ok (.iload_n 2, 1) := by decide +kernel
theorem dX5_bit_26 : decode cX5_bit 26 = .ok (.isub, 1) := by decide +kernel
theorem dX5_bit_27 : decode cX5_bit 27 = .ok (.bipush 8, 2) := by decide +kernel
theorem dX5_bit_29 : decode cX5_bit 29 = .ok (.irem, 1) := by decide +kernel
theorem dX5_bit_30 : decode cX5_bit 30 = .ok (.ishr, 1) := by decide +kernel
theorem dX5_bit_31 : decode cX5_bit 31 = .ok (.iconst 1, 1) := by decide +kernel
theorem dX5_bit_32 : decode cX5_bit 32 = .ok (.iand, 1) := by decide +kernel
theorem dX5_bit_33 : decode cX5_bit 33 = .ok (.ireturn, 1) := by decide +kernel
set_option maxRecDepth 20000 in
theorem ggX5_dot_X5_bit : GoodIn wsX5_dot wsX5_bit := goodIn_r _ [6, 7, 8, 9, 10, 11, 12, 13, 14, 15, 16, 17, 18, 19, 20, 21, 22, 23, 24, 25, 26, 27, 28, 29, 30, 31] (by decide +kernel) (by decide +kernel)
set_option maxRecDepth 20000 in
theorem gX5_dot_X5_bit : GoodIn wsX5_dot (wsV RX5 189 RX5 yX5_bit wsX5_bit) := goodIn_app (goodIn_of _ (by decide +kernel)) ggX5_dot_X5_bit
theorem dX5_dot_0 : decode cX5_dot 0 = .ok (.aload_n 0, 1) := by decide +kernel
theorem dX5_dot_1 : decode cX5_dot 1 = .ok (.iload_n 1, 1) := by decide +kernel
theorem dX5_dot_2 : decode cX5_dot 2 = .ok (.ifCond .lt 21, 3) := by decide +kernel
theorem dX5_dot_5 : decode cX5_dot 5 = .ok (.iload_n 1, 1) := by decide +kernel
theorem dX5_dot_6 : decode cX5_dot 6 = .ok (.sipush 223, 3) := by decide +kernel
theorem dX5_dot_9 : decode cX5_dot 9 = .ok (.if_icmp .gt 14, 3) := by decide +kernel
theorem dX5_dot_12 : decode cX5_dot 12 = .ok (.iload_n 2, 1) := by decide +kernel
theorem dX5_dot_13 : decode cX5_dot 13 = .ok (.ifCond .lt 10, 3) := by decide +kernel
theorem dX5_dot_16 : decode cX5_dot 16 = .ok (.iload_n 2, 1) := by decide +kernel
theorem dX5_dot_17 : decode cX5_dot 17 = .ok (.sipush 255, 3) := by decide +kernel
theorem dX5_dot_20 : decode cX5_dot 20 = .ok (.if_icmp .le 7, 3) := by decide +kernel
theorem dX5_dot_23 : decode cX5_dot 23 = .ok (.iconst 1, 1) := by decide +kernel
theorem dX5_dot_24 : decode cX5_dot 24 = .ok (.goto 4, 3) := by decide +kernel
theorem dX5_dot_27 : decode cX5_dot 27 = .ok (.iconst 0, 1) := by decide +kernel
theorem dX5_dot_28 : decode cX5_dot 28 = .ok (.putfield 28, 3) := by decide +kernel
theorem dX5_dot_31 : decode cX5_dot 31 = .ok (.aload_n 0, 1) := by decide +kernel
theorem dX5_dot_32 : decode cX5_dot 32 = .ok (.getfield 28, 3) := by decide +kernel
theorem dX5_dot_35 : decode cX5_dot 35 = .ok (.ifCond .le 7, 3) := by decide +kernel
theorem dX5_dot_38 : decode cX5_dot 38 = .ok (.iconst 0, 1) := by decide +kernel
theorem dX5_dot_39 : decode cX5_dot 39 = .ok (.goto 9, 3) := by decide +kernel
theorem dX5_dot_42 : decode cX5_dot 42 = .ok (.aload_n 0, 1) := by decide +kernel
theorem dX5_dot_43 : decode cX5_dot 43 = .ok (.iload_n 1, 1) := by decide +kernel
theorem dX5_dot_44 : decode cX5_dot 44 = .ok (.iload_n 2, 1) := by decide +kernel
theorem dX5_dot_45 : decode cX5_dot 45 = .ok (.invokevirtual 189, 3) := by decide +kernel
theorem dX5_dot_48 : decode cX5_dot 48 = .ok (.ireturn, 1) := by decide +kernel
set_option maxRecDepth 20000 in
theorem ggX5_lit_X5_bit : GoodIn wsX5_lit wsX5_bit := goodIn_r _ [6, 7, 8, 9, 10, 11, 12, 13, 14, 15, 16, 17, 18, 19, 20, 21, 22, 23, 24, 25, 26, 27, 28, 29, 30, 31] (by decide +kernel) (by decide +kernel)
set_option maxRecDepth 20000 in
theorem gX5_lit_X5_bit : GoodIn wsX5_lit (wsV RX5 189 RX5 yX5_bit wsX5_bit) := goodIn_app (goodIn_of _ (by decide +kernel)) ggX5_lit_X5_bit
theorem dX5_lit_0 : decode cX5_lit 0 = .ok (.aload_n 0, 1) := by decide +kernel
theorem dX5_lit_1 : decode cX5_lit 1 = .ok (.iconst 0, 1) := by decide +kernel
theorem dX5_lit_2 : decode cX5_lit 2 = .ok (.putfield 28, 3) := by decide +kernel
theorem dX5_lit_5 : decode cX5_lit 5 = .ok (.iconst 0, 1) := by decide +kernel
theorem dX5_lit_6 : decode cX5_lit 6 = .ok (.istore 5, 2) := by decide +kernel
theorem dX5_lit_8 : decode cX5_lit 8 = .ok (.iconst 0, 1) := by decide +kernel
theorem dX5_lit_9 : decode cX5_lit 9 = .ok (.istore 6, 2) := by decide +kernel
theorem dX5_lit_11 : decode cX5_lit 11 = .ok (.iload 6, 2) := by decide +kernel
theorem dX5_lit_13 : decode cX5_lit 13 = .ok (.sipush 224, 3) := by decide +kernel
theorem dX5_lit_16 : decode cX5_lit 16 = .ok (.if_icmp .ge 80, 3) := by decide +kernel
theorem dX5_lit_19 : decode cX5_lit 19 = .ok (.iconst 0, 1) := by decide +kernel
theorem dX5_lit_20 : decode cX5_lit 20 = .ok (.istore 7, 2) := by decide +kernel
theorem dX5_lit_22 : decode cX5_lit 22 = .ok (.iload 7, 2) := by decide +kernel
theorem dX5_lit_24 : decode cX5_lit 24 = .ok (.sipush 256, 3) := by decide +kernel
theorem dX5_lit_27 : decode cX5_lit 27 = .ok (.if_icmp .ge 63, 3) := by decide +kernel
theorem dX5_lit_30 : decode cX5_lit 30 = .ok (.iload 5, 2) := by decide +kernel
theorem dX5_lit_32 : decode cX5_lit 32 = .ok (.iload 6, 2) := by decide +kernel
theorem dX5_lit_34 : decode cX5_lit 34 = .ok (.iload_n 1, 1) := by decide +kernel
theorem dX5_lit_35 : decode cX5_lit 35 = .ok (.if_icmp .lt 45, 3) := by decide +kernel
theorem dX5_lit_38 : decode cX5_lit 38 = .ok (.iload 6, 2) := by decide +kernel
theorem dX5_lit_40 : decode cX5_lit 40 = .ok (.i2l, 1) := by decide +kernel
theorem dX5_lit_41 : decode cX5_lit 41 = .ok (.iload_n 1, 1) := by decide +kernel
theorem dX5_lit_42 : decode cX5_lit 42 = .ok (.i2l, 1) := by decide +kernel
theorem dX5_lit_43 : decode cX5_lit 43 = .ok (.iload_n 3, 1) := by decide +kernel
theorem dX5_lit_44 : decode cX5_lit 44 = .ok (.i2l, 1) := by decide +kernel
theorem dX5_lit_45 : decode cX5_lit 45 = .ok (.ladd, 1) := by decide +kernel
theorem dX5_lit_46 : decode cX5_lit 46 = .ok (.lcmp, 1) := by decide +kernel
theorem dX5_lit_47 : decode cX5_lit 47 = .ok (.ifCond .ge 33, 3) := by decide +kernel
theorem dX5_lit_50 : decode cX5_lit 50 = .ok (.iload 7, 2) := by decide +kernel
theorem dX5_lit_52 : decode cX5_lit 52 = .ok (.iload_n 2, 1) := by decide +kernel
theorem dX5_lit_53 : decode cX5_lit 53 = .ok (.if_icmp .lt 27, 3) := by decide +kernel
theorem dX5_lit_56 : decode cX5_lit 56 = .ok (.iload 7, 2) := by decide +kernel
theorem dX5_lit_58 : decode cX5_lit 58 = .ok (.i2l, 1) := by decide +kernel
theorem dX5_lit_59 : decode cX5_lit 59 = .ok (.iload_n 2, 1) := by decide +kernel
theorem dX5_lit_60 : decode cX5_lit 60 = .ok (.i2l, 1) := by decide +kernel
theorem dX5_lit_61 : decode cX5_lit 61 = .ok (.iload 4, 2) := by decide +kernel
theorem dX5_lit_63 : decode cX5_lit 63 = .ok (.i2l, 1) := by decide +kernel
theorem dX5_lit_64 : decode cX5_lit 64 = .ok (.ladd, 1) := by decide +kernel
theorem dX5_lit_65 : decode cX5_lit 65 = .ok (.lcmp, 1) := by decide +kernel
theorem dX5_lit_66 : decode cX5_lit 66 = .ok (.ifCond .ge 14, 3) := by decide +kernel
theorem dX5_lit_69 : decode cX5_lit 69 = .ok (.aload_n 0, 1) := by decide +kernel
theorem dX5_lit_70 : decode cX5_lit 70 = .ok (.iload 6, 2) := by decide +kernel
theorem dX5_lit_72 : decode cX5_lit 72 = .ok (.iload 7, 2) := by decide +kernel
theorem dX5_lit_74 : decode cX5_lit 74 = .ok (.invokevirtual 189, 3) := by decide +kernel
theorem dX5_lit_77 : decode cX5_lit 77 = .ok (.goto 4, 3) := by decide +kernel
theorem dX5_lit_80 : decode cX5_lit 80 = .ok (.iconst 0, 1) := by decide +kernel
theorem dX5_lit_81 : decode cX5_lit 81 = .ok (.iadd, 1) := by decide +kernel
theorem dX5_lit_82 : decode cX5_lit 82 = .ok (.istore 5, 2) := by decide +kernel
theorem dX5_lit_84 : decode cX5_lit 84 = .ok (.iinc 7 1, 3) := by decide +kernel
theorem dX5_lit_87 : decode cX5_lit 87 = .ok (.goto (-65), 3) := by decide +kernel
theorem dX5_lit_90 : decode cX5_lit 90 = .ok (.iinc 6 1, 3) := by decide +kernel
theorem dX5_lit_93 : decode cX5_lit 93 = .ok (.goto (-82), 3) := by decide +kernel
theorem dX5_lit_96 : decode cX5_lit 96 = .ok (.iload 5, 2) := by decide +kernel
theorem dX5_lit_98 : decode cX5_lit 98 = .ok (.ireturn, 1) := by decide +kernel
set_option maxRecDepth 20000 in
theorem ggX5_state_X5_in : GoodIn wsX5_state wsX5_in := goodIn_r _ [11, 12, 13, 14, 15, 16, 17, 18, 19, 20, 21, 22, 23, 24, 25, 26, 27, 28, 29, 30, 31, 32, 33, 34, 35, 36, 37, 38] (by decide +kernel) (by decide +kernel)
set_option maxRecDepth 20000 in
theorem gX5_state_X5_in : GoodIn wsX5_state (wsV RX5 145 RX5 yX5_in wsX5_in) := goodIn_app (goodIn_of _ (by decide +kernel)) ggX5_state_X5_in
theorem dX5_state_0 : decode cX5_state 0 = .ok (.aload_n 0, 1) := by decide +kernel
theorem dX5_state_1 : decode cX5_state 1 = .ok (.iload_n 1, 1) := by decide +kernel
theorem dX5_state_2 : decode cX5_state 2 = .ok (.ifCond .lt 9, 3) := by decide +kernel
theorem dX5_state_5 : decode cX5_state 5 = .ok (.iload_n 1, 1) := by decide +kernel
theorem dX5_state_6 : decode cX5_state 6 = .ok (.bipush 6, 2) := by decide +kernel
theorem dX5_state_8 : decode cX5_state 8 = .ok (.if_icmp .le 7, 3) := by decide +kernel
theorem dX5_state_11 : decode cX5_state 11 = .ok (.iconst 1, 1) := by decide +kernel
theorem dX5_state_12 : decode cX5_state 12 = .ok (.goto 4, 3) := by decide +kernel
theorem dX5_state_15 : decode cX5_state 15 = .ok (.iconst 0, 1) := by decide +kernel
theorem dX5_state_16 : decode cX5_state 16 = .ok (.putfield 28, 3) := by decide +kernel
theorem dX5_state_19 : decode cX5_state 19 = .ok (.aload_n 0, 1) := by decide +kernel
theorem dX5_state_20 : decode cX5_state 20 = .ok (.getfield 28, 3) := by decide +kernel
theorem dX5_state_23 : decode cX5_state 23 = .ok (.ifCond .le 5, 3) := by decide +kernel
theorem dX5_state_26 : decode cX5_state 26 = .ok (.iconst 0, 1) := by decide +kernel
theorem dX5_state_27 : decode cX5_state 27 = .ok (.ireturn, 1) := by decide +kernel
theorem dX5_state_28 : decode cX5_state 28 = .ok (.iload_n 1, 1) := by decide +kernel
theorem dX5_state_29 : decode cX5_state 29 = .ok (.iconst 2, 1) := by decide +kernel
theorem dX5_state_30 : decode cX5_state 30 = .ok (.if_icmp .ge 12, 3) := by decide +kernel
theorem dX5_state_33 : decode cX5_state 33 = .ok (.aload_n 0, 1) := by decide +kernel
theorem dX5_state_34 : decode cX5_state 34 = .ok (.getfield 22, 3) := by decide +kernel
theorem dX5_state_37 : decode cX5_state 37 = .ok (.iload_n 1, 1) := by decide +kernel
theorem dX5_state_38 : decode cX5_state 38 = .ok (.iaload, 1) := by decide +kernel
theorem dX5_state_39 : decode cX5_state 39 = .ok (.goto 56, 3) := by decide +kernel
theorem dX5_state_42 : decode cX5_state 42 = .ok (.iload_n 1, 1) := by decide +kernel
theorem dX5_state_43 : decode cX5_state 43 = .ok (.iconst 2, 1) := by decide +kernel
theorem dX5_state_44 : decode cX5_state 44 = .ok (.if_icmp .ne 10, 3) := by decide +kernel
theorem dX5_state_47 : decode cX5_state 47 = .ok (.aload_n 0, 1) := by decide +kernel
theorem dX5_state_48 : decode cX5_state 48 = .ok (.getfield 175, 3) := by decide +kernel
theorem dX5_state_51 : decode cX5_state 51 = .ok (.goto 44, 3) := by decide +kernel
theorem dX5_state_54 : decode cX5_state 54 = .ok (.iload_n 1, 1) := by decide +kernel
theorem dX5_state_55 : decode cX5_state 55 = .ok (.iconst 3, 1) := by decide +kernel
theorem dX5_state_56 : decode cX5_state 56 = .ok (.if_icmp .ne 10, 3) := by decide +kernel
theorem dX5_state_59 : decode cX5_state 59 = .ok (.aload_n 0, 1) := by decide +kernel
theorem dX5_state_60 : decode cX5_state 60 = .ok (.getfield 179, 3) := by decide +kernel
theorem dX5_state_63 : decode cX5_state 63 = .ok (.goto 32, 3) := by decide +kernel
theorem dX5_state_66 : decode cX5_state 66 = .ok (.iload_n 1, 1) := by decide +kernel
theorem dX5_state_67 : decode cX5_state 67 = .ok (.iconst 4, 1) := by decide +kernel
theorem dX5_state_68 : decode cX5_state 68 = .ok (.if_icmp .ne 10, 3) := by decide +kernel
theorem dX5_state_71 : decode cX5_state 71 = .ok (.aload_n 0, 1) := by decide +kernel
theorem dX5_state_72 : decode cX5_state 72 = .ok (.getfield 166, 3) := by decide +kernel
theorem dX5_state_75 : decode cX5_state 75 = .ok (.goto 20, 3) := by decide +kernel
theorem dX5_state_78 : decode cX5_state 78 = .ok (.iload_n 1, 1) := by decide +kernel
theorem dX5_state_79 : decode cX5_state 79 = .ok (.iconst 5, 1) := by decide +kernel
theorem dX5_state_80 : decode cX5_state 80 = .ok (.if_icmp .ne 10, 3) := by decide +kernel
theorem dX5_state_83 : decode cX5_state 83 = .ok (.aload_n 0, 1) := by decide +kernel
theorem dX5_state_84 : decode cX5_state 84 = .ok (.getfield 163, 3) := by decide +kernel
theorem dX5_state_87 : decode cX5_state 87 = .ok (.goto 8, 3) := by decide +kernel
theorem dX5_state_90 : decode cX5_state 90 = .ok (.aload_n 0, 1) := by decide +kernel
theorem dX5_state_91 : decode cX5_state 91 = .ok (.iconst 3, 1) := by decide +kernel
theorem dX5_state_92 : decode cX5_state 92 = .ok (.invokevirtual 145, 3) := by decide +kernel
theorem dX5_state_95 : decode cX5_state 95 = .ok (.ireturn, 1) := by decide +kernel
theorem dX5_sounds_0 : decode cX5_sounds 0 = .ok (.aload_n 0, 1) := by decide +kernel
theorem dX5_sounds_1 : decode cX5_sounds 1 = .ok (.iload_n 1, 1) := by decide +kernel
theorem dX5_sounds_2 : decode cX5_sounds 2 = .ok (.ifCond .lt 9, 3) := by decide +kernel
theorem dX5_sounds_5 : decode cX5_sounds 5 = .ok (.iload_n 1, 1) := by decide +kernel
theorem dX5_sounds_6 : decode cX5_sounds 6 = .ok (.bipush 15, 2) := by decide +kernel
theorem dX5_sounds_8 : decode cX5_sounds 8 = .ok (.if_icmp .le 7, 3) := by decide +kernel
theorem dX5_sounds_11 : decode cX5_sounds 11 = .ok (.iconst 1, 1) := by decide +kernel
theorem dX5_sounds_12 : decode cX5_sounds 12 = .ok (.goto 4, 3) := by decide +kernel
theorem dX5_sounds_15 : decode cX5_sounds 15 = .ok (.iconst 0, 1) := by decide +kernel
theorem dX5_sounds_16 : decode cX5_sounds 16 = .ok (.putfield 28, 3) := by decide +kernel
theorem dX5_sounds_19 : decode cX5_sounds 19 = .ok (.aload_n 0, 1) := by decide +kernel
theorem dX5_sounds_20 : decode cX5_sounds 20 = .ok (.getfield 28, 3) := by decide +kernel
theorem dX5_sounds_23 : decode cX5_sounds 23 = .ok (.ifCond .le 7, 3) := by decide +kernel
theorem dX5_sounds_26 : decode cX5_sounds 26 = .ok (.iconst 0, 1) := by decide +kernel
theorem dX5_sounds_27 : decode cX5_sounds 27 = .ok (.goto 9, 3) := by decide +kernel
theorem dX5_sounds_30 : decode cX5_sounds 30 = .ok (.aload_n 0, 1) := by decide +kernel
theorem dX5_sounds_31 : decode cX5_sounds 31 = .ok (.getfield 25, 3) := by decide +kernel
theorem dX5_sounds_34 : decode cX5_sounds 34 = .ok (.iload_n 1, 1) := by decide +kernel
theorem dX5_sounds_35 : decode cX5_sounds 35 = .ok (.iaload, 1) := by decide +kernel
theorem dX5_sounds_36 : decode cX5_sounds 36 = .ok (.ireturn, 1) := by decide +kernel
end
section
theorem dJ6_bitCount_0f7a4_0 : decode cJ6_bitCount_0f7a4 0 = .ok (.iload_n 0, 1) := by decide +kernel
theorem dJ6_bitCount_0f7a4_1 : decode cJ6_bitCount_0f7a4 1 = .ok (.iload_n 0, 1) := by decide +kernel
theorem dJ6_bitCount_0f7a4_2 : decode cJ6_bitCount_0f7a4 2 = .ok (.iconst 1, 1) := by decide +kernel
theorem dJ6_bitCount_0f7a4_3 : decode cJ6_bitCount_0f7a4 3 = .ok (.iushr, 1) := by decide +kernel
theorem dJ6_bitCount_0f7a4_4 : decode cJ6_bitCount_0f7a4 4 = .ok (.ldc_w 265, 3) := by decide +kernel
theorem dJ6_bitCount_0f7a4_7 : decode cJ6_bitCount_0f7a4 7 = .ok (.iand, 1) := by decide +kernel
theorem dJ6_bitCount_0f7a4_8 : decode cJ6_bitCount_0f7a4 8 = .ok (.isub, 1) := by decide +kernel
theorem dJ6_bitCount_0f7a4_9 : decode cJ6_bitCount_0f7a4 9 = .ok (.istore_n 0, 1) := by decide +kernel
theorem dJ6_bitCount_0f7a4_10 : decode cJ6_bitCount_0f7a4 10 = .ok (.iload_n 0, 1) := by decide +kernel
theorem dJ6_bitCount_0f7a4_11 : decode cJ6_bitCount_0f7a4 11 = .ok (.ldc_w 266, 3) := by decide +kernel
theorem dJ6_bitCount_0f7a4_14 : decode cJ6_bitCount_0f7a4 14 = .ok (.iand, 1) := by decide +kernel
theorem dJ6_bitCount_0f7a4_15 : decode cJ6_bitCount_0f7a4 15 = .ok (.iload_n 0, 1) := by decide +kernel
theorem dJ6_bitCount_0f7a4_16 : decode cJ6_bitCount_0f7a4 16 = .ok (.iconst 2, 1) := by decide +kernel
theorem dJ6_bitCount_0f7a4_17 : decode cJ6_bitCount_0f7a4 17 = .ok (.iushr, 1) := by decide +kernel
theorem dJ6_bitCount_0f7a4_18 : decode cJ6_bitCount_0f7a4 18 = .ok (.ldc_w 266, 3) := by decide +kernel
theorem dJ6_bitCount_0f7a4_21 : decode cJ6_bitCount_0f7a4 21 = .ok (.iand, 1) := by decide +kernel
theorem dJ6_bitCount_0f7a4_22 : decode cJ6_bitCount_0f7a4 22 = .ok (.iadd, 1) := by decide +kernel
theorem dJ6_bitCount_0f7a4_23 : decode cJ6_bitCount_0f7a4 23 = .ok (.istore_n 0, 1) := by decide +kernel
theorem dJ6_bitCount_0f7a4_24 : decode cJ6_bitCount_0f7a4 24 = .ok (.iload_n 0, 1) := by decide +kernel
theorem dJ6_bitCount_0f7a4_25 : decode cJ6_bitCount_0f7a4 25 = .ok (.iload_n 0, 1) := by decide +kernel
theorem dJ6_bitCount_0f7a4_26 : decode cJ6_bitCount_0f7a4 26 = .ok (.iconst 4, 1) := by decide +kernel
theorem dJ6_bitCount_0f7a4_27 : decode cJ6_bitCount_0f7a4 27 = .ok (.iushr, 1) := by decide +kernel
theorem dJ6_bitCount_0f7a4_28 : decode cJ6_bitCount_0f7a4 28 = .ok (.iadd, 1) := by decide +kernel
theorem dJ6_bitCount_0f7a4_29 : decode cJ6_bitCount_0f7a4 29 = .ok (.ldc_w 267, 3) := by decide +kernel
theorem dJ6_bitCount_0f7a4_32 : decode cJ6_bitCount_0f7a4 32 = .ok (.iand, 1) := by decide +kernel
theorem dJ6_bitCount_0f7a4_33 : decode cJ6_bitCount_0f7a4 33 = .ok (.istore_n 0, 1) := by decide +kernel
theorem dJ6_bitCount_0f7a4_34 : decode cJ6_bitCount_0f7a4 34 = .ok (.iload_n 0, 1) := by decide +kernel
theorem dJ6_bitCount_0f7a4_35 : decode cJ6_bitCount_0f7a4 35 = .ok (.iload_n 0, 1) := by decide +kernel
theorem dJ6_bitCount_0f7a4_36 : decode cJ6_bitCount_0f7a4 36 = .ok (.bipush 8, 2) := by decide +kernel
theorem dJ6_bitCount_0f7a4_38 : decode cJ6_bitCount_0f7a4 38 = .ok (.iushr, 1) := by decide +kernel
theorem dJ6_bitCount_0f7a4_39 : decode cJ6_bitCount_0f7a4 39 = .ok (.iadd, 1) := by decide +kernel
theorem dJ6_bitCount_0f7a4_40 : decode cJ6_bitCount_0f7a4 40 = .ok (.istore_n 0, 1) := by decide +kernel
theorem dJ6_bitCount_0f7a4_41 : decode cJ6_bitCount_0f7a4 41 = .ok (.iload_n 0, 1) := by decide +kernel
theorem dJ6_bitCount_0f7a4_42 : decode cJ6_bitCount_0f7a4 42 = .ok (.iload_n 0, 1) := by decide +kernel
theorem dJ6_bitCount_0f7a4_43 : decode cJ6_bitCount_0f7a4 43 = .ok (.bipush 16, 2) := by decide +kernel
theorem dJ6_bitCount_0f7a4_45 : decode cJ6_bitCount_0f7a4 45 = .ok (.iushr, 1) := by decide +kernel
theorem dJ6_bitCount_0f7a4_46 : decode cJ6_bitCount_0f7a4 46 = .ok (.iadd, 1) := by decide +kernel
theorem dJ6_bitCount_0f7a4_47 : decode cJ6_bitCount_0f7a4 47 = .ok (.istore_n 0, 1) := by decide +kernel
theorem dJ6_bitCount_0f7a4_48 : decode cJ6_bitCount_0f7a4 48 = .ok (.iload_n 0, 1) := by decide +kernel
theorem dJ6_bitCount_0f7a4_49 : decode cJ6_bitCount_0f7a4 49 = .ok (.bipush 63, 2) := by decide +kernel
theorem dJ6_bitCount_0f7a4_51 : decode cJ6_bitCount_0f7a4 51 = .ok (.iand, 1) := by decide +kernel
theorem dJ6_bitCount_0f7a4_52 : decode cJ6_bitCount_0f7a4 52 = .ok (.ireturn, 1) := by decide +kernel
theorem dJ9_max_7cf53_0 : decode cJ9_max_7cf53 0 = .ok (.iload_n 0, 1) := by decide +kernel
theorem dJ9_max_7cf53_1 : decode cJ9_max_7cf53 1 = .ok (.iload_n 1, 1) := by decide +kernel
theorem dJ9_max_7cf53_2 : decode cJ9_max_7cf53 2 = .ok (.if_icmp .lt 7, 3) := by decide +kernel
theorem dJ9_max_7cf53_5 : decode cJ9_max_7cf53 5 = .ok (.iload_n 0, 1) := by decide +kernel
theorem dJ9_max_7cf53_6 : decode cJ9_max_7cf53 6 = .ok (.goto 4, 3) := by decide +kernel
theorem dJ9_max_7cf53_9 : decode cJ9_max_7cf53 9 = .ok (.iload_n 1, 1) := by decide +kernel
theorem dJ9_max_7cf53_10 : decode cJ9_max_7cf53 10 = .ok (.ireturn, 1) := by decide +kernel
theorem dJ9_max_f86c9_0 : decode cJ9_max_f86c9 0 = .ok (.lload_n 0, 1) := by decide +kernel
theorem dJ9_max_f86c9_1 : decode cJ9_max_f86c9 1 = .ok (.lload_n 2, 1) := by decide +kernel
theorem dJ9_max_f86c9_2 : decode cJ9_max_f86c9 2 = .ok (.lcmp, 1) := by decide +kernel
theorem dJ9_max_f86c9_3 : decode cJ9_max_f86c9 3 = .ok (.ifCond .lt 7, 3) := by decide +kernel
theorem dJ9_max_f86c9_6 : decode cJ9_max_f86c9 6 = .ok (.lload_n 0, 1) := by decide +kernel
theorem dJ9_max_f86c9_7 : decode cJ9_max_f86c9 7 = .ok (.goto 4, 3) := by decide +kernel
theorem dJ9_max_f86c9_10 : decode cJ9_max_f86c9 10 = .ok (.lload_n 2, 1) := by decide +kernel
theorem dJ9_max_f86c9_11 : decode cJ9_max_f86c9 11 = .ok (.lreturn, 1) := by decide +kernel
theorem dJ9_min_7cf53_0 : decode cJ9_min_7cf53 0 = .ok (.iload_n 0, 1) := by decide +kernel
theorem dJ9_min_7cf53_1 : decode cJ9_min_7cf53 1 = .ok (.iload_n 1, 1) := by decide +kernel
theorem dJ9_min_7cf53_2 : decode cJ9_min_7cf53 2 = .ok (.if_icmp .gt 7, 3) := by decide +kernel
theorem dJ9_min_7cf53_5 : decode cJ9_min_7cf53 5 = .ok (.iload_n 0, 1) := by decide +kernel
theorem dJ9_min_7cf53_6 : decode cJ9_min_7cf53 6 = .ok (.goto 4, 3) := by decide +kernel
theorem dJ9_min_7cf53_9 : decode cJ9_min_7cf53 9 = .ok (.iload_n 1, 1) := by decide +kernel
theorem dJ9_min_7cf53_10 : decode cJ9_min_7cf53 10 = .ok (.ireturn, 1) := by decide +kernel
theorem dJ9_min_f86c9_0 : decode cJ9_min_f86c9 0 = .ok (.lload_n 0, 1) := by decide +kernel
theorem dJ9_min_f86c9_1 : decode cJ9_min_f86c9 1 = .ok (.lload_n 2, 1) := by decide +kernel
theorem dJ9_min_f86c9_2 : decode cJ9_min_f86c9 2 = .ok (.lcmp, 1) := by decide +kernel
theorem dJ9_min_f86c9_3 : decode cJ9_min_f86c9 3 = .ok (.ifCond .gt 7, 3) := by decide +kernel
theorem dJ9_min_f86c9_6 : decode cJ9_min_f86c9 6 = .ok (.lload_n 0, 1) := by decide +kernel
theorem dJ9_min_f86c9_7 : decode cJ9_min_f86c9 7 = .ok (.goto 4, 3) := by decide +kernel
theorem dJ9_min_f86c9_10 : decode cJ9_min_f86c9 10 = .ok (.lload_n 2, 1) := by decide +kernel
theorem dJ9_min_f86c9_11 : decode cJ9_min_f86c9 11 = .ok (.lreturn, 1) := by decide +kernel
set_option maxRecDepth 20000 in
theorem ggL_load_X4_load : GoodIn wsL_load wsX4_load := goodIn_ca (goodIn_r _ [6, 7, 8, 9, 10, 11, 12, 13, 14, 15, 16, 17, 18, 19, 20, 21] (by decide +kernel) (by decide +kernel)) (goodIn_sub (fun _ h => List.mem_cons_of_mem _ (List.mem_append_right _ h)) (by decide +kernel))
set_option maxRecDepth 20000 in
theorem gL_load_X4_load : GoodIn wsL_load (wsV RL 7 RX4 yX4_load wsX4_load) := goodIn_app (goodIn_of _ (by decide +kernel)) ggL_load_X4_load
theorem dL_load_0 : decode cL_load 0 = .ok (.aload 4, 2) := by decide +kernel
theorem dL_load_2 : decode cL_load 2 = .ok (.iconst 0, 1) := by decide +kernel
theorem dL_load_3 : decode cL_load 3 = .ok (.aload_n 0, 1) := by decide +kernel
theorem dL_load_4 : decode cL_load 4 = .ok (.iload_n 1, 1) := by decide +kernel
theorem dL_load_5 : decode cL_load 5 = .ok (.iload_n 2, 1) := by decide +kernel
theorem dL_load_6 : decode cL_load 6 = .ok (.iload_n 3, 1) := by decide +kernel
theorem dL_load_7 : decode cL_load 7 = .ok (.invokevirtual 7, 3) := by decide +kernel
theorem dL_load_10 : decode cL_load 10 = .ok (.i2l, 1) := by decide +kernel
theorem dL_load_11 : decode cL_load 11 = .ok (.lastore, 1) := by decide +kernel
theorem dL_load_12 : decode cL_load 12 = .ok (.goto 7, 3) := by decide +kernel
theorem dL_load_15 : decode cL_load 15 = .ok (.astore 5, 2) := by decide +kernel
theorem dL_load_17 : decode cL_load 17 = .ok (.iconst 1, 1) := by decide +kernel
theorem dL_load_18 : decode cL_load 18 = .ok (.ireturn, 1) := by decide +kernel
theorem dL_load_19 : decode cL_load 19 = .ok (.iconst 0, 1) := by decide +kernel
theorem dL_load_20 : decode cL_load 20 = .ok (.ireturn, 1) := by decide +kernel
set_option maxRecDepth 20000 in
theorem ggL_input_X4_input : GoodIn wsL_input wsX4_input := goodIn_ca (goodIn_r _ [6, 7, 8, 9, 10, 11, 12, 13, 14, 15, 16, 17, 18, 19, 20, 21, 22, 23, 24, 25] (by decide +kernel) (by decide +kernel)) (goodIn_sub (fun _ h => List.mem_cons_of_mem _ (List.mem_append_right _ h)) (by decide +kernel))
set_option maxRecDepth 20000 in
theorem gL_input_X4_input : GoodIn wsL_input (wsV RL 15 RX4 yX4_input wsX4_input) := goodIn_app (goodIn_of _ (by decide +kernel)) ggL_input_X4_input
theorem dL_input_0 : decode cL_input 0 = .ok (.aload_n 0, 1) := by decide +kernel
theorem dL_input_1 : decode cL_input 1 = .ok (.iload_n 1, 1) := by decide +kernel
theorem dL_input_2 : decode cL_input 2 = .ok (.iload_n 2, 1) := by decide +kernel
theorem dL_input_3 : decode cL_input 3 = .ok (.invokevirtual 15, 3) := by decide +kernel
theorem dL_input_6 : decode cL_input 6 = .ok (.goto 6, 3) := by decide +kernel
theorem dL_input_9 : decode cL_input 9 = .ok (.astore_n 3, 1) := by decide +kernel
theorem dL_input_10 : decode cL_input 10 = .ok (.iconst 1, 1) := by decide +kernel
theorem dL_input_11 : decode cL_input 11 = .ok (.ireturn, 1) := by decide +kernel
theorem dL_input_12 : decode cL_input 12 = .ok (.iconst 0, 1) := by decide +kernel
theorem dL_input_13 : decode cL_input 13 = .ok (.ireturn, 1) := by decide +kernel
set_option maxRecDepth 20000 in
theorem ggL_run_X4_run : GoodIn wsL_run wsX4_run := goodIn_ca (goodIn_r _ [6, 7, 8, 9, 10, 11, 12, 5, 13, 14, 15, 16, 17, 18, 19, 20, 21, 22, 23, 24, 25, 26, 27, 28, 29, 30, 31, 32, 33, 34, 35, 36, 37, 38, 39, 40, 41, 42, 43, 44, 45, 46, 47, 48, 49, 50, 51, 52, 53, 54, 55, 56, 57, 58, 59, 60, 61, 62, 63, 64, 65, 66, 67, 68, 69, 70, 71, 72, 73, 74, 75, 76, 77, 78, 79, 80, 81, 82, 83, 84, 85, 86, 87, 88, 89, 90, 91, 92, 93, 94, 95, 96, 97, 98, 99, 100, 101, 102, 103, 104, 105, 106, 107, 108, 109, 110, 111, 112, 113, 114, 115, 116, 117, 118, 119, 120, 121, 122, 123, 124, 125, 126, 127, 128, 129, 130, 131, 132, 133, 134, 135, 136, 137, 138, 139, 140, 141, 142, 143, 144, 145, 146, 147, 148, 149, 150, 151, 152, 153, 154, 155, 156, 157, 158, 159, 160, 161, 162, 163, 164, 165, 166, 167, 168, 169, 170, 171, 172, 173, 174, 175, 176, 177, 178, 179, 180, 181, 182, 183, 184, 185, 186, 187, 188, 189, 190, 191, 192, 193, 194, 195, 196, 197, 198, 199, 200, 201, 202, 203, 204, 205, 206, 207, 208, 209, 210, 211, 212, 213, 214, 215, 216, 217, 218, 219, 220, 221, 222, 223, 224, 225, 226, 227, 228, 229, 230, 231, 232, 233, 234, 235, 236, 237, 238, 239, 240, 241, 242, 243, 244, 245, 246, 247, 248, 249, 250, 251, 252, 253, 254, 255, 256, 257, 258, 259, 260, 261, 262, 263, 264, 265, 266, 267, 268, 269, 270, 271, 272, 273, 274, 275, 276, 277, 278, 279, 280, 281, 282, 283, 284, 285, 286, 287, 288, 289, 290, 291, 292] (by decide +kernel) (by decide +kernel)) (goodIn_sub (fun _ h => List.mem_cons_of_mem _ (List.mem_append_right _ h)) (by decide +kernel))
set_option maxRecDepth 20000 in
theorem gL_run_X4_run : GoodIn wsL_run (wsV RL 19 RX4 yX4_run wsX4_run) := goodIn_app (goodIn_of _ (by decide +kernel)) ggL_run_X4_run
theorem dL_run_0 : decode cL_run 0 = .ok (.aload_n 2, 1) := by decide +kernel
theorem dL_run_1 : decode cL_run 1 = .ok (.iconst 0, 1) := by decide +kernel
theorem dL_run_2 : decode cL_run 2 = .ok (.aload_n 0, 1) := by decide +kernel
theorem dL_run_3 : decode cL_run 3 = .ok (.iload_n 1, 1) := by decide +kernel
theorem dL_run_4 : decode cL_run 4 = .ok (.invokevirtual 19, 3) := by decide +kernel
theorem dL_run_7 : decode cL_run 7 = .ok (.i2l, 1) := by decide +kernel
theorem dL_run_8 : decode cL_run 8 = .ok (.lastore, 1) := by decide +kernel
theorem dL_run_9 : decode cL_run 9 = .ok (.goto 6, 3) := by decide +kernel
theorem dL_run_12 : decode cL_run 12 = .ok (.astore_n 3, 1) := by decide +kernel
theorem dL_run_13 : decode cL_run 13 = .ok (.iconst 1, 1) := by decide +kernel
theorem dL_run_14 : decode cL_run 14 = .ok (.ireturn, 1) := by decide +kernel
theorem dL_run_15 : decode cL_run 15 = .ok (.iconst 0, 1) := by decide +kernel
theorem dL_run_16 : decode cL_run 16 = .ok (.ireturn, 1) := by decide +kernel
set_option maxRecDepth 20000 in
theorem ggL_register_X4_register : GoodIn wsL_register wsX4_register := goodIn_ca (goodIn_r _ [6, 7, 8, 9, 10, 11, 12, 13, 14, 15, 16, 17, 18, 19, 20, 21, 22, 23, 24, 25, 26, 27, 28, 29, 30, 31, 32, 33] (by decide +kernel) (by decide +kernel)) (goodIn_sub (fun _ h => List.mem_cons_of_mem _ (List.mem_append_right _ h)) (by decide +kernel))
set_option maxRecDepth 20000 in
theorem gL_register_X4_register : GoodIn wsL_register (wsV RL 23 RX4 yX4_register wsX4_register) := goodIn_app (goodIn_of _ (by decide +kernel)) ggL_register_X4_register
theorem dL_register_0 : decode cL_register 0 = .ok (.aload_n 2, 1) := by decide +kernel
theorem dL_register_1 : decode cL_register 1 = .ok (.iconst 0, 1) := by decide +kernel
theorem dL_register_2 : decode cL_register 2 = .ok (.aload_n 0, 1) := by decide +kernel
theorem dL_register_3 : decode cL_register 3 = .ok (.iload_n 1, 1) := by decide +kernel
theorem dL_register_4 : decode cL_register 4 = .ok (.invokevirtual 23, 3) := by decide +kernel
theorem dL_register_7 : decode cL_register 7 = .ok (.i2l, 1) := by decide +kernel
theorem dL_register_8 : decode cL_register 8 = .ok (.lastore, 1) := by decide +kernel
theorem dL_register_9 : decode cL_register 9 = .ok (.goto 6, 3) := by decide +kernel
theorem dL_register_12 : decode cL_register 12 = .ok (.astore_n 3, 1) := by decide +kernel
theorem dL_register_13 : decode cL_register 13 = .ok (.iconst 1, 1) := by decide +kernel
theorem dL_register_14 : decode cL_register 14 = .ok (.ireturn, 1) := by decide +kernel
theorem dL_register_15 : decode cL_register 15 = .ok (.iconst 0, 1) := by decide +kernel
theorem dL_register_16 : decode cL_register 16 = .ok (.ireturn, 1) := by decide +kernel
set_option maxRecDepth 20000 in
theorem ggL_dot_X4_dot : GoodIn wsL_dot wsX4_dot := goodIn_ca (goodIn_r _ [6, 7, 8, 9, 10, 11, 12, 13, 14, 15, 16, 17, 18, 19, 20, 21, 22, 23, 24, 25, 26, 27, 28, 29, 30, 31, 32, 33, 34, 35, 36, 37, 38, 39, 40, 41] (by decide +kernel) (by decide +kernel)) (goodIn_sub (fun _ h => List.mem_cons_of_mem _ (List.mem_append_right _ h)) (by decide +kernel))
set_option maxRecDepth 20000 in
theorem gL_dot_X4_dot : GoodIn wsL_dot (wsV RL 26 RX4 yX4_dot wsX4_dot) := goodIn_app (goodIn_of _ (by decide +kernel)) ggL_dot_X4_dot
theorem dL_dot_0 : decode cL_dot 0 = .ok (.aload_n 3, 1) := by decide +kernel
theorem dL_dot_1 : decode cL_dot 1 = .ok (.iconst 0, 1) := by decide +kernel
theorem dL_dot_2 : decode cL_dot 2 = .ok (.aload_n 0, 1) := by decide +kernel
theorem dL_dot_3 : decode cL_dot 3 = .ok (.iload_n 1, 1) := by decide +kernel
theorem dL_dot_4 : decode cL_dot 4 = .ok (.iload_n 2, 1) := by decide +kernel
theorem dL_dot_5 : decode cL_dot 5 = .ok (.invokevirtual 26, 3) := by decide +kernel
theorem dL_dot_8 : decode cL_dot 8 = .ok (.i2l, 1) := by decide +kernel
theorem dL_dot_9 : decode cL_dot 9 = .ok (.lastore, 1) := by decide +kernel
theorem dL_dot_10 : decode cL_dot 10 = .ok (.goto 7, 3) := by decide +kernel
theorem dL_dot_13 : decode cL_dot 13 = .ok (.astore 4, 2) := by decide +kernel
theorem dL_dot_15 : decode cL_dot 15 = .ok (.iconst 1, 1) := by decide +kernel
theorem dL_dot_16 : decode cL_dot 16 = .ok (.ireturn, 1) := by decide +kernel
theorem dL_dot_17 : decode cL_dot 17 = .ok (.iconst 0, 1) := by decide +kernel
theorem dL_dot_18 : decode cL_dot 18 = .ok (.ireturn, 1) := by decide +kernel
set_option maxRecDepth 20000 in
theorem ggL_state_X4_state : GoodIn wsL_state wsX4_state := goodIn_ca (goodIn_r _ [6, 7, 8, 9, 10, 11, 12, 13, 14, 15, 16, 17, 18, 19, 20, 21, 22, 23, 24, 25, 26, 27, 28, 29, 30, 31, 32, 33, 34, 35] (by decide +kernel) (by decide +kernel)) (goodIn_sub (fun _ h => List.mem_cons_of_mem _ (List.mem_append_right _ h)) (by decide +kernel))
set_option maxRecDepth 20000 in
theorem gL_state_X4_state : GoodIn wsL_state (wsV RL 32 RX4 yX4_state wsX4_state) := goodIn_app (goodIn_of _ (by decide +kernel)) ggL_state_X4_state
theorem dL_state_0 : decode cL_state 0 = .ok (.aload_n 2, 1) := by decide +kernel
theorem dL_state_1 : decode cL_state 1 = .ok (.iconst 0, 1) := by decide +kernel
theorem dL_state_2 : decode cL_state 2 = .ok (.aload_n 0, 1) := by decide +kernel
theorem dL_state_3 : decode cL_state 3 = .ok (.iload_n 1, 1) := by decide +kernel
theorem dL_state_4 : decode cL_state 4 = .ok (.invokevirtual 32, 3) := by decide +kernel
theorem dL_state_7 : decode cL_state 7 = .ok (.i2l, 1) := by decide +kernel
theorem dL_state_8 : decode cL_state 8 = .ok (.lastore, 1) := by decide +kernel
theorem dL_state_9 : decode cL_state 9 = .ok (.goto 6, 3) := by decide +kernel
theorem dL_state_12 : decode cL_state 12 = .ok (.astore_n 3, 1) := by decide +kernel
theorem dL_state_13 : decode cL_state 13 = .ok (.iconst 1, 1) := by decide +kernel
theorem dL_state_14 : decode cL_state 14 = .ok (.ireturn, 1) := by decide +kernel
theorem dL_state_15 : decode cL_state 15 = .ok (.iconst 0, 1) := by decide +kernel
theorem dL_state_16 : decode cL_state 16 = .ok (.ireturn, 1) := by decide +kernel
set_option maxRecDepth 20000 in
theorem ggL_sounds_X4_sounds : GoodIn wsL_sounds wsX4_sounds := goodIn_ca (goodIn_r _ [6, 7, 8, 9, 10, 11, 12, 13, 14, 15, 16, 17, 18, 19, 20, 21, 22, 23, 24, 25] (by decide +kernel) (by decide +kernel)) (goodIn_sub (fun _ h => List.mem_cons_of_mem _ (List.mem_append_right _ h)) (by decide +kernel))
set_option maxRecDepth 20000 in
theorem gL_sounds_X4_sounds : GoodIn wsL_sounds (wsV RL 35 RX4 yX4_sounds wsX4_sounds) := goodIn_app (goodIn_of _ (by decide +kernel)) ggL_sounds_X4_sounds
theorem dL_sounds_0 : decode cL_sounds 0 = .ok (.aload_n 2, 1) := by decide +kernel
theorem dL_sounds_1 : decode cL_sounds 1 = .ok (.iconst 0, 1) := by decide +kernel
theorem dL_sounds_2 : decode cL_sounds 2 = .ok (.aload_n 0, 1) := by decide +kernel
theorem dL_sounds_3 : decode cL_sounds 3 = .ok (.iload_n 1, 1) := by decide +kernel
theorem dL_sounds_4 : decode cL_sounds 4 = .ok (.invokevirtual 35, 3) := by decide +kernel
theorem dL_sounds_7 : decode cL_sounds 7 = .ok (.i2l, 1) := by decide +kernel
theorem dL_sounds_8 : decode cL_sounds 8 = .ok (.lastore, 1) := by decide +kernel
theorem dL_sounds_9 : decode cL_sounds 9 = .ok (.goto 6, 3) := by decide +kernel
theorem dL_sounds_12 : decode cL_sounds 12 = .ok (.astore_n 3, 1) := by decide +kernel
theorem dL_sounds_13 : decode cL_sounds 13 = .ok (.iconst 1, 1) := by decide +kernel
theorem dL_sounds_14 : decode cL_sounds 14 = .ok (.ireturn, 1) := by decide +kernel
theorem dL_sounds_15 : decode cL_sounds 15 = .ok (.iconst 0, 1) := by decide +kernel
theorem dL_sounds_16 : decode cL_sounds 16 = .ok (.ireturn, 1) := by decide +kernel
set_option maxRecDepth 20000 in
theorem ggL_law_X4_init : GoodIn wsL_law wsX4_init := goodIn_r _ [9, 10, 11, 12, 13, 14, 15, 16, 17, 18, 19, 20, 21, 22, 23, 24, 25, 26, 27, 28, 29, 30, 31, 32, 33, 34, 35, 36, 37, 38, 39, 40, 41, 42, 43, 44, 45, 46, 47, 48, 49, 50, 51, 657, 658, 629, 630, 631, 632, 659, 660, 661, 662, 663, 664, 665, 666, 667, 668, 669, 670, 671, 672, 673, 674, 675, 676] (by decide +kernel) (by decide +kernel)
set_option maxRecDepth 20000 in
theorem gL_law_X4_init : GoodIn wsL_law (wsX4_init) := ggL_law_X4_init
set_option maxRecDepth 20000 in
theorem ggL_law_X5_init : GoodIn wsL_law wsX5_init := goodIn_r _ [54, 55, 11, 12, 32, 56, 57, 58, 59, 60, 61, 633, 634, 635, 636, 637, 638, 639, 640, 641, 642, 643, 644, 645, 646, 647, 648, 649, 650, 651, 652, 653, 654, 655, 656] (by decide +kernel) (by decide +kernel)
set_option maxRecDepth 20000 in
theorem gL_law_X5_init : GoodIn wsL_law (wsX5_init) := ggL_law_X5_init
set_option maxRecDepth 20000 in
theorem ggL_law_L_load : GoodIn wsL_law wsL_load := goodIn_ca (goodIn_r _ [65, 66, 67, 68, 69, 2, 70, 71, 72, 16, 73, 74, 75, 15, 76, 33, 629, 630, 631, 632, 657, 658] (by decide +kernel) (by decide +kernel)) (goodIn_sub (fun _ h => List.mem_append_left _ (List.mem_append_right _ h)) (by decide +kernel))
set_option maxRecDepth 20000 in
theorem gL_law_L_load : GoodIn wsL_law (va_wsS RL 42 yL_load wsL_load) := goodIn_app (goodIn_of _ (by decide +kernel)) ggL_law_L_load
set_option maxRecDepth 20000 in
theorem ggL_law_X5_load : GoodIn wsL_law wsX5_load := goodIn_r _ [80, 81, 56, 633, 634, 635, 636, 637, 638, 639, 640, 641, 642, 643, 644, 645, 646, 647, 648, 649, 650, 651, 652, 653, 654, 655, 656] (by decide +kernel) (by decide +kernel)
set_option maxRecDepth 20000 in
theorem gL_law_X5_load : GoodIn wsL_law (wsV RL 47 RX5 yX5_load wsX5_load) := goodIn_app (goodIn_of _ (by decide +kernel)) ggL_law_X5_load
set_option maxRecDepth 20000 in
theorem ggL_law_X5_thrown : GoodIn wsL_law wsX5_thrown := goodIn_r _ [85, 81, 633, 634, 635, 636, 637, 638, 639, 640, 641, 642, 643, 644, 645, 646, 647, 648, 649, 650, 651, 652, 653, 654, 655, 656] (by decide +kernel) (by decide +kernel)
set_option maxRecDepth 20000 in
theorem gL_law_X5_thrown : GoodIn wsL_law (wsV RL 48 RX5 yX5_thrown wsX5_thrown) := goodIn_app (goodIn_of _ (by decide +kernel)) ggL_law_X5_thrown
set_option maxRecDepth 20000 in
theorem ggL_law_X4_reset : GoodIn wsL_law wsX4_reset := goodIn_r _ [89, 28, 90, 91, 92, 2, 93, 24, 20, 94, 95, 96, 23, 97, 45, 46, 98, 99, 100, 101, 102, 103, 104, 105, 19, 106, 107, 108, 39, 109, 110, 111, 112, 27, 113, 114, 115, 116, 117, 118, 119, 629, 630, 631, 632, 665, 666, 667, 668, 669, 670, 671, 672, 673, 659, 660, 661, 662, 663, 664, 674, 675, 676] (by decide +kernel) (by decide +kernel)
set_option maxRecDepth 20000 in
theorem gL_law_X4_reset : GoodIn wsL_law (wsV RL 52 RX4 yX4_reset wsX4_reset) := goodIn_app (goodIn_of _ (by decide +kernel)) ggL_law_X4_reset
set_option maxRecDepth 20000 in
theorem ggL_law_X5_reset : GoodIn wsL_law wsX5_reset := goodIn_r _ [123, 81, 124, 125, 126, 127, 5, 128, 58, 129, 130, 131, 132, 60, 133, 134, 135, 136, 137, 138, 139, 140, 141, 142, 143, 144, 145, 146, 147, 633, 634, 635, 636, 637, 638, 639, 640, 641, 642, 643, 644, 645, 646, 647, 648, 649, 650, 651, 652, 653, 654, 655, 656] (by decide +kernel) (by decide +kernel)
set_option maxRecDepth 20000 in
theorem gL_law_X5_reset : GoodIn wsL_law (wsV RL 55 RX5 yX5_reset wsX5_reset) := goodIn_app (goodIn_of _ (by decide +kernel)) ggL_law_X5_reset
set_option maxRecDepth 20000 in
theorem ggL_law_L_input : GoodIn wsL_law wsL_input := goodIn_ca (goodIn_r _ [150, 66, 151, 152, 153, 2, 154, 71, 72, 20, 155, 156, 157, 19, 158, 38, 629, 630, 631, 632, 659, 660, 661, 662, 663, 664] (by decide +kernel) (by decide +kernel)) (goodIn_sub (fun _ h => List.mem_append_left _ (List.mem_append_right _ h)) (by decide +kernel))
set_option maxRecDepth 20000 in
theorem gL_law_L_input : GoodIn wsL_law (va_wsS RL 56 yL_input wsL_input) := goodIn_app (goodIn_of _ (by decide +kernel)) ggL_law_L_input
set_option maxRecDepth 20000 in
theorem ggL_law_X5_input : GoodIn wsL_law wsX5_input := goodIn_r _ [162, 81, 59, 633, 634, 635, 636, 637, 638, 639, 640, 641, 642, 643, 644, 645, 646, 647, 648, 649, 650, 651, 652, 653, 654, 655, 656] (by decide +kernel) (by decide +kernel)
set_option maxRecDepth 20000 in
theorem gL_law_X5_input : GoodIn wsL_law (wsV RL 59 RX5 yX5_input wsX5_input) := goodIn_app (goodIn_of _ (by decide +kernel)) ggL_law_X5_input
set_option maxRecDepth 20000 in
theorem ggL_law_X4_step : GoodIn wsL_law wsX4_step := goodIn_r _ [166, 167, 168, 169, 2, 170, 24, 28, 171, 172, 173, 174, 20, 175, 176, 177, 27, 178, 114, 179, 180, 181, 23, 182, 100, 102, 99, 183, 184, 185, 186, 98, 187, 47, 188, 189, 190, 15, 191, 192, 193, 194, 195, 34, 196, 197, 198, 199, 119, 200, 201, 202, 203, 204, 101, 205, 206, 207, 208, 209, 210, 211, 212, 213, 214, 33, 215, 216, 217, 218, 219, 220, 221, 222, 223, 224, 225, 226, 45, 227, 228, 229, 230, 231, 232, 233, 234, 235, 236, 237, 238, 46, 239, 240, 241, 242, 243, 244, 245, 246, 247, 248, 249, 250, 251, 252, 253, 254, 255, 256, 257, 258, 259, 260, 261, 262, 263, 264, 265, 266, 267, 268, 269, 270, 271, 272, 273, 274, 275, 276, 277, 278, 279, 280, 281, 282, 283, 284, 285, 286, 287, 288, 289, 290, 291, 292, 293, 294, 295, 296, 297, 298, 299, 300, 301, 302, 303, 304, 305, 306, 307, 308, 309, 310, 311, 312, 313, 314, 315, 316, 317, 318, 319, 320, 321, 322, 323, 324, 325, 326, 327, 328, 329, 330, 331, 332, 333, 334, 335, 336, 337, 338, 339, 340, 341, 342, 48, 343, 344, 345, 19, 346, 108, 107, 109, 347, 348, 349, 350, 39, 40, 351, 352, 353, 354, 38, 355, 356, 357, 358, 359, 360, 361, 362, 363, 364, 365, 366, 367, 368, 369, 370, 371, 372, 373, 374, 375, 376, 377, 378, 379, 380, 381, 382, 383, 90, 91, 92, 93, 94, 95, 96, 97, 103, 104, 105, 106, 110, 111, 112, 113, 629, 630, 631, 632, 665, 666, 667, 668, 669, 670, 671, 672, 673, 674, 675, 676, 657, 658, 659, 660, 661, 662, 663, 664] (by decide +kernel) (by decide +kernel)
set_option maxRecDepth 20000 in
theorem gL_law_X4_step : GoodIn wsL_law (wsV RL 60 RX4 yX4_step wsX4_step) := goodIn_app (goodIn_of _ (by decide +kernel)) ggL_law_X4_step
set_option maxRecDepth 20000 in
theorem ggL_law_X5_step : GoodIn wsL_law wsX5_step := goodIn_r _ [387, 81, 124, 137, 388, 389, 138, 390, 391, 392, 5, 393, 133, 136, 130, 134, 135, 394, 395, 396, 397, 129, 398, 399, 400, 401, 402, 57, 403, 404, 405, 406, 407, 408, 409, 410, 411, 412, 413, 414, 56, 415, 416, 417, 418, 58, 419, 420, 421, 422, 423, 424, 425, 426, 427, 428, 429, 430, 147, 145, 431, 432, 433, 434, 143, 144, 146, 435, 436, 437, 438, 439, 440, 441, 442, 443, 444, 445, 446, 447, 448, 449, 450, 451, 452, 453, 454, 455, 456, 457, 458, 459, 460, 461, 462, 463, 464, 465, 466, 467, 468, 469, 470, 471, 472, 473, 474, 475, 476, 477, 478, 479, 480, 481, 482, 139, 140, 141, 142, 483, 484, 485, 486, 487, 488, 489, 490, 491, 492, 493, 494, 132, 61, 60, 131, 495, 496, 497, 498, 59, 499, 500, 501, 502, 503, 504, 505, 506, 125, 126, 127, 128, 633, 634, 635, 636, 637, 638, 639, 640, 641, 642, 643, 644, 645, 646, 647, 648, 649, 650, 651, 652, 653, 654, 655, 656] (by decide +kernel) (by decide +kernel)
set_option maxRecDepth 20000 in
theorem gL_law_X5_step : GoodIn wsL_law (wsV RL 63 RX5 yX5_step wsX5_step) := goodIn_app (goodIn_of _ (by decide +kernel)) ggL_law_X5_step
set_option maxRecDepth 20000 in
theorem ggL_law_L_run : GoodIn wsL_law wsL_run := goodIn_ca (goodIn_r _ [509, 66, 510, 511, 512, 2, 513, 71, 72, 514, 167, 168, 169, 170, 24, 28, 171, 172, 173, 174, 20, 175, 176, 177, 27, 178, 114, 179, 180, 181, 23, 182, 100, 102, 99, 183, 184, 185, 186, 98, 187, 47, 188, 189, 190, 15, 191, 192, 193, 194, 195, 34, 196, 197, 198, 199, 119, 200, 201, 202, 203, 204, 101, 205, 206, 207, 208, 209, 210, 211, 212, 213, 214, 33, 215, 216, 217, 218, 219, 220, 221, 222, 223, 224, 225, 226, 45, 227, 228, 229, 230, 231, 232, 233, 234, 235, 236, 237, 238, 46, 239, 240, 241, 242, 243, 244, 245, 246, 247, 248, 249, 250, 251, 252, 253, 254, 255, 256, 257, 258, 259, 260, 261, 262, 263, 264, 265, 266, 267, 268, 269, 270, 271, 272, 273, 274, 275, 276, 277, 278, 279, 280, 281, 282, 283, 284, 285, 286, 287, 288, 289, 290, 291, 292, 293, 294, 295, 296, 297, 298, 299, 300, 301, 302, 303, 304, 305, 306, 307, 308, 309, 310, 311, 312, 313, 314, 315, 316, 317, 318, 319, 320, 321, 322, 323, 324, 325, 326, 327, 328, 329, 330, 331, 332, 333, 334, 335, 336, 337, 338, 339, 340, 341, 342, 48, 343, 344, 345, 19, 346, 108, 107, 109, 347, 348, 349, 350, 39, 40, 351, 352, 353, 354, 38, 355, 356, 357, 358, 359, 360, 361, 362, 363, 364, 365, 366, 367, 368, 369, 370, 371, 372, 373, 374, 375, 376, 377, 378, 379, 380, 381, 382, 383, 90, 91, 92, 93, 94, 95, 96, 97, 103, 104, 105, 106, 110, 111, 112, 113, 629, 630, 631, 632, 665, 666, 667, 668, 669, 670, 671, 672, 673, 674, 675, 676, 657, 658, 659, 660, 661, 662, 663, 664] (by decide +kernel) (by decide +kernel)) (goodIn_sub (fun _ h => List.mem_append_left _ (List.mem_append_right _ h)) (by decide +kernel))
set_option maxRecDepth 20000 in
theorem gL_law_L_run : GoodIn wsL_law (va_wsS RL 64 yL_run wsL_run) := goodIn_app (goodIn_of _ (by decide +kernel)) ggL_law_L_run
set_option maxRecDepth 20000 in
theorem ggL_law_X5_run : GoodIn wsL_law wsX5_run := goodIn_r _ [518, 519, 81, 520, 385, 386, 5, 387, 124, 137, 388, 389, 138, 390, 391, 392, 393, 133, 136, 130, 134, 135, 394, 395, 396, 397, 129, 398, 399, 400, 401, 402, 57, 403, 404, 405, 406, 407, 408, 409, 410, 411, 412, 413, 414, 56, 415, 416, 417, 418, 58, 419, 420, 421, 422, 423, 424, 425, 426, 427, 428, 429, 430, 147, 145, 431, 432, 433, 434, 143, 144, 146, 435, 436, 437, 438, 439, 440, 441, 442, 443, 444, 445, 446, 447, 448, 449, 450, 451, 452, 453, 454, 455, 456, 457, 458, 459, 460, 461, 462, 463, 464, 465, 466, 467, 468, 469, 470, 471, 472, 473, 474, 475, 476, 477, 478, 479, 480, 481, 482, 139, 140, 141, 142, 483, 484, 485, 486, 487, 488, 489, 490, 491, 492, 493, 494, 132, 61, 60, 131, 495, 496, 497, 498, 59, 499, 500, 501, 502, 503, 504, 505, 506, 125, 126, 127, 128, 633, 634, 635, 636, 637, 638, 639, 640, 641, 642, 643, 644, 645, 646, 647, 648, 649, 650, 651, 652, 653, 654, 655, 656] (by decide +kernel) (by decide +kernel)
set_option maxRecDepth 20000 in
theorem gL_law_X5_run : GoodIn wsL_law (wsV RL 67 RX5 yX5_run wsX5_run) := goodIn_app (goodIn_of _ (by decide +kernel)) ggL_law_X5_run
set_option maxRecDepth 20000 in
theorem ggL_law_L_register : GoodIn wsL_law wsL_register := goodIn_ca (goodIn_r _ [523, 66, 524, 525, 526, 2, 527, 71, 72, 24, 528, 529, 530, 23, 531, 46, 98, 99, 100, 102, 45, 629, 630, 631, 632, 665, 666, 667, 668, 669, 670, 671, 672, 673] (by decide +kernel) (by decide +kernel)) (goodIn_sub (fun _ h => List.mem_append_left _ (List.mem_append_right _ h)) (by decide +kernel))
set_option maxRecDepth 20000 in
theorem gL_law_L_register : GoodIn wsL_law (va_wsS RL 68 yL_register wsL_register) := goodIn_app (goodIn_of _ (by decide +kernel)) ggL_law_L_register
set_option maxRecDepth 20000 in
theorem ggL_law_X5_register : GoodIn wsL_law wsX5_register := goodIn_r _ [535, 81, 58, 129, 130, 133, 136, 503, 504, 505, 5, 506, 143, 144, 145, 146, 147, 633, 634, 635, 636, 637, 638, 639, 640, 641, 642, 643, 644, 645, 646, 647, 648, 649, 650, 651, 652, 653, 654, 655, 656] (by decide +kernel) (by decide +kernel)
set_option maxRecDepth 20000 in
theorem gL_law_X5_register : GoodIn wsL_law (wsV RL 70 RX5 yX5_register wsX5_register) := goodIn_app (goodIn_of _ (by decide +kernel)) ggL_law_X5_register
set_option maxRecDepth 20000 in
theorem ggL_law_X4_memory : GoodIn wsL_law wsX4_memory := goodIn_r _ [539, 16, 540, 211, 212, 15, 213, 34, 214, 33, 629, 630, 631, 632, 657, 658] (by decide +kernel) (by decide +kernel)
set_option maxRecDepth 20000 in
theorem gL_law_X4_memory : GoodIn wsL_law (wsV RL 71 RX4 yX4_memory wsX4_memory) := goodIn_app (goodIn_of _ (by decide +kernel)) ggL_law_X4_memory
set_option maxRecDepth 20000 in
theorem ggL_law_X5_memory : GoodIn wsL_law wsX5_memory := goodIn_r _ [544, 81, 411, 412, 413, 5, 414, 398, 57, 56, 633, 634, 635, 636, 637, 638, 639, 640, 641, 642, 643, 644, 645, 646, 647, 648, 649, 650, 651, 652, 653, 654, 655, 656] (by decide +kernel) (by decide +kernel)
set_option maxRecDepth 20000 in
theorem gL_law_X5_memory : GoodIn wsL_law (wsV RL 74 RX5 yX5_memory wsX5_memory) := goodIn_app (goodIn_of _ (by decide +kernel)) ggL_law_X5_memory
set_option maxRecDepth 20000 in
theorem ggL_law_X4_poke : GoodIn wsL_law wsX4_poke := goodIn_r _ [548, 16, 549, 193, 194, 15, 195, 34, 540, 211, 212, 213, 214, 33, 629, 630, 631, 632, 657, 658] (by decide +kernel) (by decide +kernel)
set_option maxRecDepth 20000 in
theorem gL_law_X4_poke : GoodIn wsL_law (wsV RL 75 RX4 yX4_poke wsX4_poke) := goodIn_app (goodIn_of _ (by decide +kernel)) ggL_law_X4_poke
set_option maxRecDepth 20000 in
theorem ggL_law_X5_poke : GoodIn wsL_law wsX5_poke := goodIn_r _ [553, 81, 399, 400, 401, 5, 402, 57, 411, 412, 413, 414, 398, 56, 633, 634, 635, 636, 637, 638, 639, 640, 641, 642, 643, 644, 645, 646, 647, 648, 649, 650, 651, 652, 653, 654, 655, 656] (by decide +kernel) (by decide +kernel)
set_option maxRecDepth 20000 in
theorem gL_law_X5_poke : GoodIn wsL_law (wsV RL 78 RX5 yX5_poke wsX5_poke) := goodIn_app (goodIn_of _ (by decide +kernel)) ggL_law_X5_poke
set_option maxRecDepth 20000 in
theorem ggL_law_L_dot : GoodIn wsL_law wsL_dot := goodIn_ca (goodIn_r _ [556, 557, 558, 559, 560, 2, 561, 562, 563, 16, 564, 565, 566, 15, 567, 568, 569, 173, 570, 571, 172, 174, 247, 211, 212, 213, 34, 214, 33, 572, 269, 270, 271, 272, 273, 274, 629, 630, 631, 632, 657, 658] (by decide +kernel) (by decide +kernel)) (goodIn_sub (fun _ h => List.mem_append_right _ h) (by decide +kernel))
set_option maxRecDepth 20000 in
theorem gL_law_L_dot : GoodIn wsL_law (va_wsS RL 79 yL_dot wsL_dot) := goodIn_app (goodIn_of _ (by decide +kernel)) ggL_law_L_dot
set_option maxRecDepth 20000 in
theorem ggL_law_X5_dot : GoodIn wsL_law wsX5_dot := goodIn_r _ [576, 81, 577, 578, 579, 5, 580, 57, 633, 634, 635, 636, 637, 638, 639, 640, 641, 642, 643, 644, 645, 646, 647, 648, 649, 650, 651, 652, 653, 654, 655, 656] (by decide +kernel) (by decide +kernel)
set_option maxRecDepth 20000 in
theorem gL_law_X5_dot : GoodIn wsL_law (wsV RL 82 RX5 yX5_dot wsX5_dot) := goodIn_app (goodIn_of _ (by decide +kernel)) ggL_law_X5_dot
set_option maxRecDepth 20000 in
theorem ggL_law_X4_lit : GoodIn wsL_law wsX4_lit := goodIn_r _ [584, 16, 585, 586, 2, 587, 588, 589, 173, 590, 591, 592, 593, 564, 565, 566, 15, 567, 568, 569, 570, 571, 172, 174, 247, 211, 212, 213, 34, 214, 33, 572, 269, 270, 271, 272, 273, 274, 629, 630, 631, 632, 657, 658] (by decide +kernel) (by decide +kernel)
set_option maxRecDepth 20000 in
theorem gL_law_X4_lit : GoodIn wsL_law (wsV RL 83 RX4 yX4_lit wsX4_lit) := goodIn_app (goodIn_of _ (by decide +kernel)) ggL_law_X4_lit
set_option maxRecDepth 20000 in
theorem ggL_law_X5_lit : GoodIn wsL_law wsX5_lit := goodIn_r _ [597, 81, 577, 578, 579, 5, 580, 57, 633, 634, 635, 636, 637, 638, 639, 640, 641, 642, 643, 644, 645, 646, 647, 648, 649, 650, 651, 652, 653, 654, 655, 656] (by decide +kernel) (by decide +kernel)
set_option maxRecDepth 20000 in
theorem gL_law_X5_lit : GoodIn wsL_law (wsV RL 87 RX5 yX5_lit wsX5_lit) := goodIn_app (goodIn_of _ (by decide +kernel)) ggL_law_X5_lit
set_option maxRecDepth 20000 in
theorem ggL_law_L_state : GoodIn wsL_law wsL_state := goodIn_ca (goodIn_r _ [600, 66, 601, 602, 603, 2, 604, 71, 72, 20, 28, 605, 606, 607, 19, 608, 39, 609, 356, 357, 358, 107, 108, 629, 630, 631, 632, 674, 675, 676, 659, 660, 661, 662, 663, 664] (by decide +kernel) (by decide +kernel)) (goodIn_sub (fun _ h => List.mem_append_left _ (List.mem_append_right _ h)) (by decide +kernel))
set_option maxRecDepth 20000 in
theorem gL_law_L_state : GoodIn wsL_law (va_wsS RL 88 yL_state wsL_state) := goodIn_app (goodIn_of _ (by decide +kernel)) ggL_law_L_state
set_option maxRecDepth 20000 in
theorem ggL_law_X5_state : GoodIn wsL_law wsX5_state := goodIn_r _ [613, 81, 60, 124, 389, 137, 138, 495, 496, 497, 5, 498, 59, 131, 132, 633, 634, 635, 636, 637, 638, 639, 640, 641, 642, 643, 644, 645, 646, 647, 648, 649, 650, 651, 652, 653, 654, 655, 656] (by decide +kernel) (by decide +kernel)
set_option maxRecDepth 20000 in
theorem gL_law_X5_state : GoodIn wsL_law (wsV RL 90 RX5 yX5_state wsX5_state) := goodIn_app (goodIn_of _ (by decide +kernel)) ggL_law_X5_state
set_option maxRecDepth 20000 in
theorem ggL_law_L_sounds : GoodIn wsL_law wsL_sounds := goodIn_ca (goodIn_r _ [616, 66, 617, 618, 619, 2, 620, 71, 72, 20, 621, 622, 623, 19, 624, 40, 629, 630, 631, 632, 659, 660, 661, 662, 663, 664] (by decide +kernel) (by decide +kernel)) (goodIn_sub (fun _ h => List.mem_append_left _ (List.mem_append_right _ h)) (by decide +kernel))
set_option maxRecDepth 20000 in
theorem gL_law_L_sounds : GoodIn wsL_law (va_wsS RL 91 yL_sounds wsL_sounds) := goodIn_app (goodIn_of _ (by decide +kernel)) ggL_law_L_sounds
set_option maxRecDepth 20000 in
theorem ggL_law_X5_sounds : GoodIn wsL_law wsX5_sounds := goodIn_r _ [628, 81, 61, 633, 634, 635, 636, 637, 638, 639, 640, 641, 642, 643, 644, 645, 646, 647, 648, 649, 650, 651, 652, 653, 654, 655, 656] (by decide +kernel) (by decide +kernel)
set_option maxRecDepth 20000 in
theorem gL_law_X5_sounds : GoodIn wsL_law (wsV RL 93 RX5 yX5_sounds wsX5_sounds) := goodIn_app (goodIn_of _ (by decide +kernel)) ggL_law_X5_sounds
theorem dL_law_0 : decode cL_law 0 = .ok (.new 8, 3) := by decide +kernel
theorem dL_law_3 : decode cL_law 3 = .ok (.dup, 1) := by decide +kernel
theorem dL_law_4 : decode cL_law 4 = .ok (.invokespecial 38, 3) := by decide +kernel
theorem dL_law_7 : decode cL_law 7 = .ok (.astore_n 1, 1) := by decide +kernel
theorem dL_law_8 : decode cL_law 8 = .ok (.new 39, 3) := by decide +kernel
theorem dL_law_11 : decode cL_law 11 = .ok (.dup, 1) := by decide +kernel
theorem dL_law_12 : decode cL_law 12 = .ok (.invokespecial 41, 3) := by decide +kernel
theorem dL_law_15 : decode cL_law 15 = .ok (.astore_n 2, 1) := by decide +kernel
theorem dL_law_16 : decode cL_law 16 = .ok (.iconst 1, 1) := by decide +kernel
theorem dL_law_17 : decode cL_law 17 = .ok (.newarray .long, 2) := by decide +kernel
theorem dL_law_19 : decode cL_law 19 = .ok (.astore_n 3, 1) := by decide +kernel
theorem dL_law_20 : decode cL_law 20 = .ok (.iconst 0, 1) := by decide +kernel
theorem dL_law_21 : decode cL_law 21 = .ok (.istore 4, 2) := by decide +kernel
theorem dL_law_23 : decode cL_law 23 = .ok (.iload 4, 2) := by decide +kernel
theorem dL_law_25 : decode cL_law 25 = .ok (.aload_n 0, 1) := by decide +kernel
theorem dL_law_26 : decode cL_law 26 = .ok (.arraylength, 1) := by decide +kernel
theorem dL_law_27 : decode cL_law 27 = .ok (.iconst 5, 1) := by decide +kernel
theorem dL_law_28 : decode cL_law 28 = .ok (.isub, 1) := by decide +kernel
theorem dL_law_29 : decode cL_law 29 = .ok (.if_icmp .gt 644, 3) := by decide +kernel
theorem dL_law_32 : decode cL_law 32 = .ok (.aload_n 0, 1) := by decide +kernel
theorem dL_law_33 : decode cL_law 33 = .ok (.iload 4, 2) := by decide +kernel
theorem dL_law_35 : decode cL_law 35 = .ok (.iaload, 1) := by decide +kernel
theorem dL_law_36 : decode cL_law 36 = .ok (.bipush 15, 2) := by decide +kernel
theorem dL_law_38 : decode cL_law 38 = .ok (.iand, 1) := by decide +kernel
theorem dL_law_39 : decode cL_law 39 = .ok (.tableswitch 628 0 11 #[61, 141, 152, 200, 213, 269, 325, 350, 387, 455, 516, 572], 61) := by decide +kernel
theorem dL_law_100 : decode cL_law 100 = .ok (.aload_n 1, 1) := by decide +kernel
theorem dL_law_101 : decode cL_law 101 = .ok (.aload_n 0, 1) := by decide +kernel
theorem dL_law_102 : decode cL_law 102 = .ok (.iload 4, 2) := by decide +kernel
theorem dL_law_104 : decode cL_law 104 = .ok (.iconst 1, 1) := by decide +kernel
theorem dL_law_105 : decode cL_law 105 = .ok (.iadd, 1) := by decide +kernel
theorem dL_law_106 : decode cL_law 106 = .ok (.iaload, 1) := by decide +kernel
theorem dL_law_107 : decode cL_law 107 = .ok (.aload_n 0, 1) := by decide +kernel
theorem dL_law_108 : decode cL_law 108 = .ok (.iload 4, 2) := by decide +kernel
theorem dL_law_110 : decode cL_law 110 = .ok (.iconst 2, 1) := by decide +kernel
theorem dL_law_111 : decode cL_law 111 = .ok (.iadd, 1) := by decide +kernel
theorem dL_law_112 : decode cL_law 112 = .ok (.iaload, 1) := by decide +kernel
theorem dL_law_113 : decode cL_law 113 = .ok (.aload_n 0, 1) := by decide +kernel
theorem dL_law_114 : decode cL_law 114 = .ok (.iload 4, 2) := by decide +kernel
theorem dL_law_116 : decode cL_law 116 = .ok (.iconst 3, 1) := by decide +kernel
theorem dL_law_117 : decode cL_law 117 = .ok (.iadd, 1) := by decide +kernel
theorem dL_law_118 : decode cL_law 118 = .ok (.iaload, 1) := by decide +kernel
theorem dL_law_119 : decode cL_law 119 = .ok (.aload_n 3, 1) := by decide +kernel
theorem dL_law_120 : decode cL_law 120 = .ok (.invokestatic 42, 3) := by decide +kernel
theorem dL_law_123 : decode cL_law 123 = .ok (.istore 5, 2) := by decide +kernel
theorem dL_law_125 : decode cL_law 125 = .ok (.aload_n 2, 1) := by decide +kernel
theorem dL_law_126 : decode cL_law 126 = .ok (.aload_n 0, 1) := by decide +kernel
theorem dL_law_127 : decode cL_law 127 = .ok (.iload 4, 2) := by decide +kernel
theorem dL_law_129 : decode cL_law 129 = .ok (.iconst 1, 1) := by decide +kernel
theorem dL_law_130 : decode cL_law 130 = .ok (.iadd, 1) := by decide +kernel
theorem dL_law_131 : decode cL_law 131 = .ok (.iaload, 1) := by decide +kernel
theorem dL_law_132 : decode cL_law 132 = .ok (.aload_n 0, 1) := by decide +kernel
theorem dL_law_133 : decode cL_law 133 = .ok (.iload 4, 2) := by decide +kernel
theorem dL_law_135 : decode cL_law 135 = .ok (.iconst 2, 1) := by decide +kernel
theorem dL_law_136 : decode cL_law 136 = .ok (.iadd, 1) := by decide +kernel
theorem dL_law_137 : decode cL_law 137 = .ok (.iaload, 1) := by decide +kernel
theorem dL_law_138 : decode cL_law 138 = .ok (.aload_n 0, 1) := by decide +kernel
theorem dL_law_139 : decode cL_law 139 = .ok (.iload 4, 2) := by decide +kernel
theorem dL_law_141 : decode cL_law 141 = .ok (.iconst 3, 1) := by decide +kernel
theorem dL_law_142 : decode cL_law 142 = .ok (.iadd, 1) := by decide +kernel
theorem dL_law_143 : decode cL_law 143 = .ok (.iaload, 1) := by decide +kernel
theorem dL_law_144 : decode cL_law 144 = .ok (.invokevirtual 47, 3) := by decide +kernel
theorem dL_law_147 : decode cL_law 147 = .ok (.istore 6, 2) := by decide +kernel
theorem dL_law_149 : decode cL_law 149 = .ok (.aload_n 2, 1) := by decide +kernel
theorem dL_law_150 : decode cL_law 150 = .ok (.invokevirtual 48, 3) := by decide +kernel
theorem dL_law_153 : decode cL_law 153 = .ok (.iload 5, 2) := by decide +kernel
theorem dL_law_155 : decode cL_law 155 = .ok (.if_icmp .eq 5, 3) := by decide +kernel
theorem dL_law_158 : decode cL_law 158 = .ok (.iconst 0, 1) := by decide +kernel
theorem dL_law_159 : decode cL_law 159 = .ok (.ireturn, 1) := by decide +kernel
theorem dL_law_160 : decode cL_law 160 = .ok (.iload 5, 2) := by decide +kernel
theorem dL_law_162 : decode cL_law 162 = .ok (.ifCond .ne 15, 3) := by decide +kernel
theorem dL_law_165 : decode cL_law 165 = .ok (.aload_n 3, 1) := by decide +kernel
theorem dL_law_166 : decode cL_law 166 = .ok (.iconst 0, 1) := by decide +kernel
theorem dL_law_167 : decode cL_law 167 = .ok (.laload, 1) := by decide +kernel
theorem dL_law_168 : decode cL_law 168 = .ok (.iload 6, 2) := by decide +kernel
theorem dL_law_170 : decode cL_law 170 = .ok (.i2l, 1) := by decide +kernel
theorem dL_law_171 : decode cL_law 171 = .ok (.lcmp, 1) := by decide +kernel
theorem dL_law_172 : decode cL_law 172 = .ok (.ifCond .eq 5, 3) := by decide +kernel
theorem dL_law_175 : decode cL_law 175 = .ok (.iconst 0, 1) := by decide +kernel
theorem dL_law_176 : decode cL_law 176 = .ok (.ireturn, 1) := by decide +kernel
theorem dL_law_177 : decode cL_law 177 = .ok (.goto 490, 3) := by decide +kernel
theorem dL_law_180 : decode cL_law 180 = .ok (.aload_n 1, 1) := by decide +kernel
theorem dL_law_181 : decode cL_law 181 = .ok (.invokevirtual 52, 3) := by decide +kernel
theorem dL_law_184 : decode cL_law 184 = .ok (.aload_n 2, 1) := by decide +kernel
theorem dL_law_185 : decode cL_law 185 = .ok (.invokevirtual 55, 3) := by decide +kernel
theorem dL_law_188 : decode cL_law 188 = .ok (.goto 479, 3) := by decide +kernel
theorem dL_law_191 : decode cL_law 191 = .ok (.aload_n 1, 1) := by decide +kernel
theorem dL_law_192 : decode cL_law 192 = .ok (.aload_n 0, 1) := by decide +kernel
theorem dL_law_193 : decode cL_law 193 = .ok (.iload 4, 2) := by decide +kernel
theorem dL_law_195 : decode cL_law 195 = .ok (.iconst 1, 1) := by decide +kernel
theorem dL_law_196 : decode cL_law 196 = .ok (.iadd, 1) := by decide +kernel
theorem dL_law_197 : decode cL_law 197 = .ok (.iaload, 1) := by decide +kernel
theorem dL_law_198 : decode cL_law 198 = .ok (.aload_n 0, 1) := by decide +kernel
theorem dL_law_199 : decode cL_law 199 = .ok (.iload 4, 2) := by decide +kernel
theorem dL_law_201 : decode cL_law 201 = .ok (.iconst 2, 1) := by decide +kernel
theorem dL_law_202 : decode cL_law 202 = .ok (.iadd, 1) := by decide +kernel
theorem dL_law_203 : decode cL_law 203 = .ok (.iaload, 1) := by decide +kernel
theorem dL_law_204 : decode cL_law 204 = .ok (.invokestatic 56, 3) := by decide +kernel
theorem dL_law_207 : decode cL_law 207 = .ok (.istore 5, 2) := by decide +kernel
theorem dL_law_209 : decode cL_law 209 = .ok (.aload_n 2, 1) := by decide +kernel
theorem dL_law_210 : decode cL_law 210 = .ok (.aload_n 0, 1) := by decide +kernel
theorem dL_law_211 : decode cL_law 211 = .ok (.iload 4, 2) := by decide +kernel
theorem dL_law_213 : decode cL_law 213 = .ok (.iconst 1, 1) := by decide +kernel
theorem dL_law_214 : decode cL_law 214 = .ok (.iadd, 1) := by decide +kernel
theorem dL_law_215 : decode cL_law 215 = .ok (.iaload, 1) := by decide +kernel
theorem dL_law_216 : decode cL_law 216 = .ok (.aload_n 0, 1) := by decide +kernel
theorem dL_law_217 : decode cL_law 217 = .ok (.iload 4, 2) := by decide +kernel
theorem dL_law_219 : decode cL_law 219 = .ok (.iconst 2, 1) := by decide +kernel
theorem dL_law_220 : decode cL_law 220 = .ok (.iadd, 1) := by decide +kernel
theorem dL_law_221 : decode cL_law 221 = .ok (.iaload, 1) := by decide +kernel
theorem dL_law_222 : decode cL_law 222 = .ok (.invokevirtual 59, 3) := by decide +kernel
theorem dL_law_225 : decode cL_law 225 = .ok (.aload_n 2, 1) := by decide +kernel
theorem dL_law_226 : decode cL_law 226 = .ok (.invokevirtual 48, 3) := by decide +kernel
theorem dL_law_229 : decode cL_law 229 = .ok (.iload 5, 2) := by decide +kernel
theorem dL_law_231 : decode cL_law 231 = .ok (.if_icmp .eq 5, 3) := by decide +kernel
theorem dL_law_234 : decode cL_law 234 = .ok (.iconst 0, 1) := by decide +kernel
theorem dL_law_235 : decode cL_law 235 = .ok (.ireturn, 1) := by decide +kernel
theorem dL_law_236 : decode cL_law 236 = .ok (.goto 431, 3) := by decide +kernel
theorem dL_law_239 : decode cL_law 239 = .ok (.aload_n 1, 1) := by decide +kernel
theorem dL_law_240 : decode cL_law 240 = .ok (.invokevirtual 60, 3) := by decide +kernel
theorem dL_law_243 : decode cL_law 243 = .ok (.aload_n 2, 1) := by decide +kernel
theorem dL_law_244 : decode cL_law 244 = .ok (.invokevirtual 63, 3) := by decide +kernel
theorem dL_law_247 : decode cL_law 247 = .ok (.if_icmp .eq 420, 3) := by decide +kernel
theorem dL_law_250 : decode cL_law 250 = .ok (.iconst 0, 1) := by decide +kernel
theorem dL_law_251 : decode cL_law 251 = .ok (.ireturn, 1) := by decide +kernel
theorem dL_law_252 : decode cL_law 252 = .ok (.aload_n 1, 1) := by decide +kernel
theorem dL_law_253 : decode cL_law 253 = .ok (.aload_n 0, 1) := by decide +kernel
theorem dL_law_254 : decode cL_law 254 = .ok (.iload 4, 2) := by decide +kernel
theorem dL_law_256 : decode cL_law 256 = .ok (.iconst 1, 1) := by decide +kernel
theorem dL_law_257 : decode cL_law 257 = .ok (.iadd, 1) := by decide +kernel
theorem dL_law_258 : decode cL_law 258 = .ok (.iaload, 1) := by decide +kernel
theorem dL_law_259 : decode cL_law 259 = .ok (.aload_n 3, 1) := by decide +kernel
theorem dL_law_260 : decode cL_law 260 = .ok (.invokestatic 64, 3) := by decide +kernel
theorem dL_law_263 : decode cL_law 263 = .ok (.istore 5, 2) := by decide +kernel
theorem dL_law_265 : decode cL_law 265 = .ok (.aload_n 2, 1) := by decide +kernel
theorem dL_law_266 : decode cL_law 266 = .ok (.aload_n 0, 1) := by decide +kernel
theorem dL_law_267 : decode cL_law 267 = .ok (.iload 4, 2) := by decide +kernel
theorem dL_law_269 : decode cL_law 269 = .ok (.iconst 1, 1) := by decide +kernel
theorem dL_law_270 : decode cL_law 270 = .ok (.iadd, 1) := by decide +kernel
theorem dL_law_271 : decode cL_law 271 = .ok (.iaload, 1) := by decide +kernel
theorem dL_law_272 : decode cL_law 272 = .ok (.invokevirtual 67, 3) := by decide +kernel
theorem dL_law_275 : decode cL_law 275 = .ok (.istore 6, 2) := by decide +kernel
theorem dL_law_277 : decode cL_law 277 = .ok (.aload_n 2, 1) := by decide +kernel
theorem dL_law_278 : decode cL_law 278 = .ok (.invokevirtual 48, 3) := by decide +kernel
theorem dL_law_281 : decode cL_law 281 = .ok (.iload 5, 2) := by decide +kernel
theorem dL_law_283 : decode cL_law 283 = .ok (.if_icmp .eq 5, 3) := by decide +kernel
theorem dL_law_286 : decode cL_law 286 = .ok (.iconst 0, 1) := by decide +kernel
theorem dL_law_287 : decode cL_law 287 = .ok (.ireturn, 1) := by decide +kernel
theorem dL_law_288 : decode cL_law 288 = .ok (.iload 5, 2) := by decide +kernel
theorem dL_law_290 : decode cL_law 290 = .ok (.ifCond .ne 15, 3) := by decide +kernel
theorem dL_law_293 : decode cL_law 293 = .ok (.aload_n 3, 1) := by decide +kernel
theorem dL_law_294 : decode cL_law 294 = .ok (.iconst 0, 1) := by decide +kernel
theorem dL_law_295 : decode cL_law 295 = .ok (.laload, 1) := by decide +kernel
theorem dL_law_296 : decode cL_law 296 = .ok (.iload 6, 2) := by decide +kernel
theorem dL_law_298 : decode cL_law 298 = .ok (.i2l, 1) := by decide +kernel
theorem dL_law_299 : decode cL_law 299 = .ok (.lcmp, 1) := by decide +kernel
theorem dL_law_300 : decode cL_law 300 = .ok (.ifCond .eq 5, 3) := by decide +kernel
theorem dL_law_303 : decode cL_law 303 = .ok (.iconst 0, 1) := by decide +kernel
theorem dL_law_304 : decode cL_law 304 = .ok (.ireturn, 1) := by decide +kernel
theorem dL_law_305 : decode cL_law 305 = .ok (.goto 362, 3) := by decide +kernel
theorem dL_law_308 : decode cL_law 308 = .ok (.aload_n 1, 1) := by decide +kernel
theorem dL_law_309 : decode cL_law 309 = .ok (.aload_n 0, 1) := by decide +kernel
theorem dL_law_310 : decode cL_law 310 = .ok (.iload 4, 2) := by decide +kernel
theorem dL_law_312 : decode cL_law 312 = .ok (.iconst 1, 1) := by decide +kernel
theorem dL_law_313 : decode cL_law 313 = .ok (.iadd, 1) := by decide +kernel
theorem dL_law_314 : decode cL_law 314 = .ok (.iaload, 1) := by decide +kernel
theorem dL_law_315 : decode cL_law 315 = .ok (.aload_n 3, 1) := by decide +kernel
theorem dL_law_316 : decode cL_law 316 = .ok (.invokestatic 68, 3) := by decide +kernel
theorem dL_law_319 : decode cL_law 319 = .ok (.istore 5, 2) := by decide +kernel
theorem dL_law_321 : decode cL_law 321 = .ok (.aload_n 2, 1) := by decide +kernel
theorem dL_law_322 : decode cL_law 322 = .ok (.aload_n 0, 1) := by decide +kernel
theorem dL_law_323 : decode cL_law 323 = .ok (.iload 4, 2) := by decide +kernel
theorem dL_law_325 : decode cL_law 325 = .ok (.iconst 1, 1) := by decide +kernel
theorem dL_law_326 : decode cL_law 326 = .ok (.iadd, 1) := by decide +kernel
theorem dL_law_327 : decode cL_law 327 = .ok (.iaload, 1) := by decide +kernel
theorem dL_law_328 : decode cL_law 328 = .ok (.invokevirtual 70, 3) := by decide +kernel
theorem dL_law_331 : decode cL_law 331 = .ok (.istore 6, 2) := by decide +kernel
theorem dL_law_333 : decode cL_law 333 = .ok (.aload_n 2, 1) := by decide +kernel
theorem dL_law_334 : decode cL_law 334 = .ok (.invokevirtual 48, 3) := by decide +kernel
theorem dL_law_337 : decode cL_law 337 = .ok (.iload 5, 2) := by decide +kernel
theorem dL_law_339 : decode cL_law 339 = .ok (.if_icmp .eq 5, 3) := by decide +kernel
theorem dL_law_342 : decode cL_law 342 = .ok (.iconst 0, 1) := by decide +kernel
theorem dL_law_343 : decode cL_law 343 = .ok (.ireturn, 1) := by decide +kernel
theorem dL_law_344 : decode cL_law 344 = .ok (.iload 5, 2) := by decide +kernel
theorem dL_law_346 : decode cL_law 346 = .ok (.ifCond .ne 15, 3) := by decide +kernel
theorem dL_law_349 : decode cL_law 349 = .ok (.aload_n 3, 1) := by decide +kernel
theorem dL_law_350 : decode cL_law 350 = .ok (.iconst 0, 1) := by decide +kernel
theorem dL_law_351 : decode cL_law 351 = .ok (.laload, 1) := by decide +kernel
theorem dL_law_352 : decode cL_law 352 = .ok (.iload 6, 2) := by decide +kernel
theorem dL_law_354 : decode cL_law 354 = .ok (.i2l, 1) := by decide +kernel
theorem dL_law_355 : decode cL_law 355 = .ok (.lcmp, 1) := by decide +kernel
theorem dL_law_356 : decode cL_law 356 = .ok (.ifCond .eq 5, 3) := by decide +kernel
theorem dL_law_359 : decode cL_law 359 = .ok (.iconst 0, 1) := by decide +kernel
theorem dL_law_360 : decode cL_law 360 = .ok (.ireturn, 1) := by decide +kernel
theorem dL_law_361 : decode cL_law 361 = .ok (.goto 306, 3) := by decide +kernel
theorem dL_law_364 : decode cL_law 364 = .ok (.aload_n 1, 1) := by decide +kernel
theorem dL_law_365 : decode cL_law 365 = .ok (.aload_n 0, 1) := by decide +kernel
theorem dL_law_366 : decode cL_law 366 = .ok (.iload 4, 2) := by decide +kernel
theorem dL_law_368 : decode cL_law 368 = .ok (.iconst 1, 1) := by decide +kernel
theorem dL_law_369 : decode cL_law 369 = .ok (.iadd, 1) := by decide +kernel
theorem dL_law_370 : decode cL_law 370 = .ok (.iaload, 1) := by decide +kernel
theorem dL_law_371 : decode cL_law 371 = .ok (.invokevirtual 71, 3) := by decide +kernel
theorem dL_law_374 : decode cL_law 374 = .ok (.aload_n 2, 1) := by decide +kernel
theorem dL_law_375 : decode cL_law 375 = .ok (.aload_n 0, 1) := by decide +kernel
theorem dL_law_376 : decode cL_law 376 = .ok (.iload 4, 2) := by decide +kernel
theorem dL_law_378 : decode cL_law 378 = .ok (.iconst 1, 1) := by decide +kernel
theorem dL_law_379 : decode cL_law 379 = .ok (.iadd, 1) := by decide +kernel
theorem dL_law_380 : decode cL_law 380 = .ok (.iaload, 1) := by decide +kernel
theorem dL_law_381 : decode cL_law 381 = .ok (.invokevirtual 74, 3) := by decide +kernel
theorem dL_law_384 : decode cL_law 384 = .ok (.if_icmp .eq 283, 3) := by decide +kernel
theorem dL_law_387 : decode cL_law 387 = .ok (.iconst 0, 1) := by decide +kernel
theorem dL_law_388 : decode cL_law 388 = .ok (.ireturn, 1) := by decide +kernel
theorem dL_law_389 : decode cL_law 389 = .ok (.aload_n 1, 1) := by decide +kernel
theorem dL_law_390 : decode cL_law 390 = .ok (.aload_n 0, 1) := by decide +kernel
theorem dL_law_391 : decode cL_law 391 = .ok (.iload 4, 2) := by decide +kernel
theorem dL_law_393 : decode cL_law 393 = .ok (.iconst 1, 1) := by decide +kernel
theorem dL_law_394 : decode cL_law 394 = .ok (.iadd, 1) := by decide +kernel
theorem dL_law_395 : decode cL_law 395 = .ok (.iaload, 1) := by decide +kernel
theorem dL_law_396 : decode cL_law 396 = .ok (.aload_n 0, 1) := by decide +kernel
theorem dL_law_397 : decode cL_law 397 = .ok (.iload 4, 2) := by decide +kernel
theorem dL_law_399 : decode cL_law 399 = .ok (.iconst 2, 1) := by decide +kernel
theorem dL_law_400 : decode cL_law 400 = .ok (.iadd, 1) := by decide +kernel
theorem dL_law_401 : decode cL_law 401 = .ok (.iaload, 1) := by decide +kernel
theorem dL_law_402 : decode cL_law 402 = .ok (.invokevirtual 75, 3) := by decide +kernel
theorem dL_law_405 : decode cL_law 405 = .ok (.aload_n 2, 1) := by decide +kernel
theorem dL_law_406 : decode cL_law 406 = .ok (.aload_n 0, 1) := by decide +kernel
theorem dL_law_407 : decode cL_law 407 = .ok (.iload 4, 2) := by decide +kernel
theorem dL_law_409 : decode cL_law 409 = .ok (.iconst 1, 1) := by decide +kernel
theorem dL_law_410 : decode cL_law 410 = .ok (.iadd, 1) := by decide +kernel
theorem dL_law_411 : decode cL_law 411 = .ok (.iaload, 1) := by decide +kernel
theorem dL_law_412 : decode cL_law 412 = .ok (.aload_n 0, 1) := by decide +kernel
theorem dL_law_413 : decode cL_law 413 = .ok (.iload 4, 2) := by decide +kernel
theorem dL_law_415 : decode cL_law 415 = .ok (.iconst 2, 1) := by decide +kernel
theorem dL_law_416 : decode cL_law 416 = .ok (.iadd, 1) := by decide +kernel
theorem dL_law_417 : decode cL_law 417 = .ok (.iaload, 1) := by decide +kernel
theorem dL_law_418 : decode cL_law 418 = .ok (.invokevirtual 78, 3) := by decide +kernel
theorem dL_law_421 : decode cL_law 421 = .ok (.if_icmp .eq 246, 3) := by decide +kernel
theorem dL_law_424 : decode cL_law 424 = .ok (.iconst 0, 1) := by decide +kernel
theorem dL_law_425 : decode cL_law 425 = .ok (.ireturn, 1) := by decide +kernel
theorem dL_law_426 : decode cL_law 426 = .ok (.aload_n 1, 1) := by decide +kernel
theorem dL_law_427 : decode cL_law 427 = .ok (.aload_n 0, 1) := by decide +kernel
theorem dL_law_428 : decode cL_law 428 = .ok (.iload 4, 2) := by decide +kernel
theorem dL_law_430 : decode cL_law 430 = .ok (.iconst 1, 1) := by decide +kernel
theorem dL_law_431 : decode cL_law 431 = .ok (.iadd, 1) := by decide +kernel
theorem dL_law_432 : decode cL_law 432 = .ok (.iaload, 1) := by decide +kernel
theorem dL_law_433 : decode cL_law 433 = .ok (.aload_n 0, 1) := by decide +kernel
theorem dL_law_434 : decode cL_law 434 = .ok (.iload 4, 2) := by decide +kernel
theorem dL_law_436 : decode cL_law 436 = .ok (.iconst 2, 1) := by decide +kernel
theorem dL_law_437 : decode cL_law 437 = .ok (.iadd, 1) := by decide +kernel
theorem dL_law_438 : decode cL_law 438 = .ok (.iaload, 1) := by decide +kernel
theorem dL_law_439 : decode cL_law 439 = .ok (.aload_n 3, 1) := by decide +kernel
theorem dL_law_440 : decode cL_law 440 = .ok (.invokestatic 79, 3) := by decide +kernel
theorem dL_law_443 : decode cL_law 443 = .ok (.istore 5, 2) := by decide +kernel
theorem dL_law_445 : decode cL_law 445 = .ok (.aload_n 2, 1) := by decide +kernel
theorem dL_law_446 : decode cL_law 446 = .ok (.aload_n 0, 1) := by decide +kernel
theorem dL_law_447 : decode cL_law 447 = .ok (.iload 4, 2) := by decide +kernel
theorem dL_law_449 : decode cL_law 449 = .ok (.iconst 1, 1) := by decide +kernel
theorem dL_law_450 : decode cL_law 450 = .ok (.iadd, 1) := by decide +kernel
theorem dL_law_451 : decode cL_law 451 = .ok (.iaload, 1) := by decide +kernel
theorem dL_law_452 : decode cL_law 452 = .ok (.aload_n 0, 1) := by decide +kernel
theorem dL_law_453 : decode cL_law 453 = .ok (.iload 4, 2) := by decide +kernel
theorem dL_law_455 : decode cL_law 455 = .ok (.iconst 2, 1) := by decide +kernel
theorem dL_law_456 : decode cL_law 456 = .ok (.iadd, 1) := by decide +kernel
theorem dL_law_457 : decode cL_law 457 = .ok (.iaload, 1) := by decide +kernel
theorem dL_law_458 : decode cL_law 458 = .ok (.invokevirtual 82, 3) := by decide +kernel
theorem dL_law_461 : decode cL_law 461 = .ok (.istore 6, 2) := by decide +kernel
theorem dL_law_463 : decode cL_law 463 = .ok (.aload_n 2, 1) := by decide +kernel
theorem dL_law_464 : decode cL_law 464 = .ok (.invokevirtual 48, 3) := by decide +kernel
theorem dL_law_467 : decode cL_law 467 = .ok (.iload 5, 2) := by decide +kernel
theorem dL_law_469 : decode cL_law 469 = .ok (.if_icmp .eq 5, 3) := by decide +kernel
theorem dL_law_472 : decode cL_law 472 = .ok (.iconst 0, 1) := by decide +kernel
theorem dL_law_473 : decode cL_law 473 = .ok (.ireturn, 1) := by decide +kernel
theorem dL_law_474 : decode cL_law 474 = .ok (.iload 5, 2) := by decide +kernel
theorem dL_law_476 : decode cL_law 476 = .ok (.ifCond .ne 15, 3) := by decide +kernel
theorem dL_law_479 : decode cL_law 479 = .ok (.aload_n 3, 1) := by decide +kernel
theorem dL_law_480 : decode cL_law 480 = .ok (.iconst 0, 1) := by decide +kernel
theorem dL_law_481 : decode cL_law 481 = .ok (.laload, 1) := by decide +kernel
theorem dL_law_482 : decode cL_law 482 = .ok (.iload 6, 2) := by decide +kernel
theorem dL_law_484 : decode cL_law 484 = .ok (.i2l, 1) := by decide +kernel
theorem dL_law_485 : decode cL_law 485 = .ok (.lcmp, 1) := by decide +kernel
theorem dL_law_486 : decode cL_law 486 = .ok (.ifCond .eq 5, 3) := by decide +kernel
theorem dL_law_489 : decode cL_law 489 = .ok (.iconst 0, 1) := by decide +kernel
theorem dL_law_490 : decode cL_law 490 = .ok (.ireturn, 1) := by decide +kernel
theorem dL_law_491 : decode cL_law 491 = .ok (.goto 176, 3) := by decide +kernel
theorem dL_law_494 : decode cL_law 494 = .ok (.aload_n 1, 1) := by decide +kernel
theorem dL_law_495 : decode cL_law 495 = .ok (.aload_n 0, 1) := by decide +kernel
theorem dL_law_496 : decode cL_law 496 = .ok (.iload 4, 2) := by decide +kernel
theorem dL_law_498 : decode cL_law 498 = .ok (.iconst 1, 1) := by decide +kernel
theorem dL_law_499 : decode cL_law 499 = .ok (.iadd, 1) := by decide +kernel
theorem dL_law_500 : decode cL_law 500 = .ok (.iaload, 1) := by decide +kernel
theorem dL_law_501 : decode cL_law 501 = .ok (.aload_n 0, 1) := by decide +kernel
theorem dL_law_502 : decode cL_law 502 = .ok (.iload 4, 2) := by decide +kernel
theorem dL_law_504 : decode cL_law 504 = .ok (.iconst 2, 1) := by decide +kernel
theorem dL_law_505 : decode cL_law 505 = .ok (.iadd, 1) := by decide +kernel
theorem dL_law_506 : decode cL_law 506 = .ok (.iaload, 1) := by decide +kernel
theorem dL_law_507 : decode cL_law 507 = .ok (.aload_n 0, 1) := by decide +kernel
theorem dL_law_508 : decode cL_law 508 = .ok (.iload 4, 2) := by decide +kernel
theorem dL_law_510 : decode cL_law 510 = .ok (.iconst 3, 1) := by decide +kernel
theorem dL_law_511 : decode cL_law 511 = .ok (.iadd, 1) := by decide +kernel
theorem dL_law_512 : decode cL_law 512 = .ok (.iaload, 1) := by decide +kernel
theorem dL_law_513 : decode cL_law 513 = .ok (.aload_n 0, 1) := by decide +kernel
theorem dL_law_514 : decode cL_law 514 = .ok (.iload 4, 2) := by decide +kernel
theorem dL_law_516 : decode cL_law 516 = .ok (.iconst 4, 1) := by decide +kernel
theorem dL_law_517 : decode cL_law 517 = .ok (.iadd, 1) := by decide +kernel
theorem dL_law_518 : decode cL_law 518 = .ok (.iaload, 1) := by decide +kernel
theorem dL_law_519 : decode cL_law 519 = .ok (.invokevirtual 83, 3) := by decide +kernel
theorem dL_law_522 : decode cL_law 522 = .ok (.aload_n 2, 1) := by decide +kernel
theorem dL_law_523 : decode cL_law 523 = .ok (.aload_n 0, 1) := by decide +kernel
theorem dL_law_524 : decode cL_law 524 = .ok (.iload 4, 2) := by decide +kernel
theorem dL_law_526 : decode cL_law 526 = .ok (.iconst 1, 1) := by decide +kernel
theorem dL_law_527 : decode cL_law 527 = .ok (.iadd, 1) := by decide +kernel
theorem dL_law_528 : decode cL_law 528 = .ok (.iaload, 1) := by decide +kernel
theorem dL_law_529 : decode cL_law 529 = .ok (.aload_n 0, 1) := by decide +kernel
theorem dL_law_530 : decode cL_law 530 = .ok (.iload 4, 2) := by decide +kernel
theorem dL_law_532 : decode cL_law 532 = .ok (.iconst 2, 1) := by decide +kernel
theorem dL_law_533 : decode cL_law 533 = .ok (.iadd, 1) := by decide +kernel
theorem dL_law_534 : decode cL_law 534 = .ok (.iaload, 1) := by decide +kernel
theorem dL_law_535 : decode cL_law 535 = .ok (.aload_n 0, 1) := by decide +kernel
theorem dL_law_536 : decode cL_law 536 = .ok (.iload 4, 2) := by decide +kernel
theorem dL_law_538 : decode cL_law 538 = .ok (.iconst 3, 1) := by decide +kernel
theorem dL_law_539 : decode cL_law 539 = .ok (.iadd, 1) := by decide +kernel
theorem dL_law_540 : decode cL_law 540 = .ok (.iaload, 1) := by decide +kernel
theorem dL_law_541 : decode cL_law 541 = .ok (.aload_n 0, 1) := by decide +kernel
theorem dL_law_542 : decode cL_law 542 = .ok (.iload 4, 2) := by decide +kernel
theorem dL_law_544 : decode cL_law 544 = .ok (.iconst 4, 1) := by decide +kernel
theorem dL_law_545 : decode cL_law 545 = .ok (.iadd, 1) := by decide +kernel
theorem dL_law_546 : decode cL_law 546 = .ok (.iaload, 1) := by decide +kernel
theorem dL_law_547 : decode cL_law 547 = .ok (.invokevirtual 87, 3) := by decide +kernel
theorem dL_law_550 : decode cL_law 550 = .ok (.if_icmp .eq 117, 3) := by decide +kernel
theorem dL_law_553 : decode cL_law 553 = .ok (.iconst 0, 1) := by decide +kernel
theorem dL_law_554 : decode cL_law 554 = .ok (.ireturn, 1) := by decide +kernel
theorem dL_law_555 : decode cL_law 555 = .ok (.aload_n 1, 1) := by decide +kernel
theorem dL_law_556 : decode cL_law 556 = .ok (.aload_n 0, 1) := by decide +kernel
theorem dL_law_557 : decode cL_law 557 = .ok (.iload 4, 2) := by decide +kernel
theorem dL_law_559 : decode cL_law 559 = .ok (.iconst 1, 1) := by decide +kernel
theorem dL_law_560 : decode cL_law 560 = .ok (.iadd, 1) := by decide +kernel
theorem dL_law_561 : decode cL_law 561 = .ok (.iaload, 1) := by decide +kernel
theorem dL_law_562 : decode cL_law 562 = .ok (.aload_n 3, 1) := by decide +kernel
theorem dL_law_563 : decode cL_law 563 = .ok (.invokestatic 88, 3) := by decide +kernel
theorem dL_law_566 : decode cL_law 566 = .ok (.istore 5, 2) := by decide +kernel
theorem dL_law_568 : decode cL_law 568 = .ok (.aload_n 2, 1) := by decide +kernel
theorem dL_law_569 : decode cL_law 569 = .ok (.aload_n 0, 1) := by decide +kernel
theorem dL_law_570 : decode cL_law 570 = .ok (.iload 4, 2) := by decide +kernel
theorem dL_law_572 : decode cL_law 572 = .ok (.iconst 1, 1) := by decide +kernel
theorem dL_law_573 : decode cL_law 573 = .ok (.iadd, 1) := by decide +kernel
theorem dL_law_574 : decode cL_law 574 = .ok (.iaload, 1) := by decide +kernel
theorem dL_law_575 : decode cL_law 575 = .ok (.invokevirtual 90, 3) := by decide +kernel
theorem dL_law_578 : decode cL_law 578 = .ok (.istore 6, 2) := by decide +kernel
theorem dL_law_580 : decode cL_law 580 = .ok (.aload_n 2, 1) := by decide +kernel
theorem dL_law_581 : decode cL_law 581 = .ok (.invokevirtual 48, 3) := by decide +kernel
theorem dL_law_584 : decode cL_law 584 = .ok (.iload 5, 2) := by decide +kernel
theorem dL_law_586 : decode cL_law 586 = .ok (.if_icmp .eq 5, 3) := by decide +kernel
theorem dL_law_589 : decode cL_law 589 = .ok (.iconst 0, 1) := by decide +kernel
theorem dL_law_590 : decode cL_law 590 = .ok (.ireturn, 1) := by decide +kernel
theorem dL_law_591 : decode cL_law 591 = .ok (.iload 5, 2) := by decide +kernel
theorem dL_law_593 : decode cL_law 593 = .ok (.ifCond .ne 15, 3) := by decide +kernel
theorem dL_law_596 : decode cL_law 596 = .ok (.aload_n 3, 1) := by decide +kernel
theorem dL_law_597 : decode cL_law 597 = .ok (.iconst 0, 1) := by decide +kernel
theorem dL_law_598 : decode cL_law 598 = .ok (.laload, 1) := by decide +kernel
theorem dL_law_599 : decode cL_law 599 = .ok (.iload 6, 2) := by decide +kernel
theorem dL_law_601 : decode cL_law 601 = .ok (.i2l, 1) := by decide +kernel
theorem dL_law_602 : decode cL_law 602 = .ok (.lcmp, 1) := by decide +kernel
theorem dL_law_603 : decode cL_law 603 = .ok (.ifCond .eq 5, 3) := by decide +kernel
theorem dL_law_606 : decode cL_law 606 = .ok (.iconst 0, 1) := by decide +kernel
theorem dL_law_607 : decode cL_law 607 = .ok (.ireturn, 1) := by decide +kernel
theorem dL_law_608 : decode cL_law 608 = .ok (.goto 59, 3) := by decide +kernel
theorem dL_law_611 : decode cL_law 611 = .ok (.aload_n 1, 1) := by decide +kernel
theorem dL_law_612 : decode cL_law 612 = .ok (.aload_n 0, 1) := by decide +kernel
theorem dL_law_613 : decode cL_law 613 = .ok (.iload 4, 2) := by decide +kernel
theorem dL_law_615 : decode cL_law 615 = .ok (.iconst 1, 1) := by decide +kernel
theorem dL_law_616 : decode cL_law 616 = .ok (.iadd, 1) := by decide +kernel
theorem dL_law_617 : decode cL_law 617 = .ok (.iaload, 1) := by decide +kernel
theorem dL_law_618 : decode cL_law 618 = .ok (.aload_n 3, 1) := by decide +kernel
theorem dL_law_619 : decode cL_law 619 = .ok (.invokestatic 91, 3) := by decide +kernel
theorem dL_law_622 : decode cL_law 622 = .ok (.istore 5, 2) := by decide +kernel
theorem dL_law_624 : decode cL_law 624 = .ok (.aload_n 2, 1) := by decide +kernel
theorem dL_law_625 : decode cL_law 625 = .ok (.aload_n 0, 1) := by decide +kernel
theorem dL_law_626 : decode cL_law 626 = .ok (.iload 4, 2) := by decide +kernel
theorem dL_law_628 : decode cL_law 628 = .ok (.iconst 1, 1) := by decide +kernel
theorem dL_law_629 : decode cL_law 629 = .ok (.iadd, 1) := by decide +kernel
theorem dL_law_630 : decode cL_law 630 = .ok (.iaload, 1) := by decide +kernel
theorem dL_law_631 : decode cL_law 631 = .ok (.invokevirtual 93, 3) := by decide +kernel
theorem dL_law_634 : decode cL_law 634 = .ok (.istore 6, 2) := by decide +kernel
theorem dL_law_636 : decode cL_law 636 = .ok (.aload_n 2, 1) := by decide +kernel
theorem dL_law_637 : decode cL_law 637 = .ok (.invokevirtual 48, 3) := by decide +kernel
theorem dL_law_640 : decode cL_law 640 = .ok (.iload 5, 2) := by decide +kernel
theorem dL_law_642 : decode cL_law 642 = .ok (.if_icmp .eq 5, 3) := by decide +kernel
theorem dL_law_645 : decode cL_law 645 = .ok (.iconst 0, 1) := by decide +kernel
theorem dL_law_646 : decode cL_law 646 = .ok (.ireturn, 1) := by decide +kernel
theorem dL_law_647 : decode cL_law 647 = .ok (.iload 5, 2) := by decide +kernel
theorem dL_law_649 : decode cL_law 649 = .ok (.ifCond .ne 15, 3) := by decide +kernel
theorem dL_law_652 : decode cL_law 652 = .ok (.aload_n 3, 1) := by decide +kernel
theorem dL_law_653 : decode cL_law 653 = .ok (.iconst 0, 1) := by decide +kernel
theorem dL_law_654 : decode cL_law 654 = .ok (.laload, 1) := by decide +kernel
theorem dL_law_655 : decode cL_law 655 = .ok (.iload 6, 2) := by decide +kernel
theorem dL_law_657 : decode cL_law 657 = .ok (.i2l, 1) := by decide +kernel
theorem dL_law_658 : decode cL_law 658 = .ok (.lcmp, 1) := by decide +kernel
theorem dL_law_659 : decode cL_law 659 = .ok (.ifCond .eq 5, 3) := by decide +kernel
theorem dL_law_662 : decode cL_law 662 = .ok (.iconst 0, 1) := by decide +kernel
theorem dL_law_663 : decode cL_law 663 = .ok (.ireturn, 1) := by decide +kernel
theorem dL_law_664 : decode cL_law 664 = .ok (.goto 3, 3) := by decide +kernel
theorem dL_law_667 : decode cL_law 667 = .ok (.iinc 4 5, 3) := by decide +kernel
theorem dL_law_670 : decode cL_law 670 = .ok (.goto (-647), 3) := by decide +kernel
theorem dL_law_673 : decode cL_law 673 = .ok (.iconst 1, 1) := by decide +kernel
theorem dL_law_674 : decode cL_law 674 = .ok (.ireturn, 1) := by decide +kernel
end
section
/-! OWN ROWS: contracts with one answer and one world behind (KC), their start, their ends, their calls -/
def rmD (d : Nat) : Room := { frames := d, cells := 0, slots := 0, locals := 40 * d }
def kp_ (D : va_G) (cI : ClassId) (ws : va_W) (sz : Nat) : State → Prop := fun U => U.heap.size = sz ∧ va_P D vwCl ws U.heap ∧ va_K D vwCl [(cI, .int)] U ∧ va_D (fun _ => True) ws
def kb_ (D : va_G) (cI : ClassId) (w1 : va_W) (A : Nat → Prop) : State → Prop := fun t => va_P D vwCl w1 t.heap ∧ va_K D vwCl [(cI, .int)] t ∧ va_D A w1
def kq_ (D : va_G) (cI : ClassId) (v : Option Value) (w1 : va_W) (A : Nat → Prop) : Array Value → State → Outcome → State → Prop := fun _ st oc t => oc = .returned v ∧ kb_ D cI w1 A t ∧ va_F A st t
/-- method y, from the world wc with the values av: it returns v, and its world is w1; nothing else has moved, nothing was made -/
def KC (l : Launch) (y : MethodName) (ws : List Cond) (d : Nat) (av : List Value) (D : va_G) (cI : ClassId) (wc w1 : va_W) (v : Option Value) : Prop :=
  ∀ sz : Nat, Met l y ws (rmD d) (va_Pc av (kp_ D cI wc sz)) (kq_ D cI v w1 (va_A wc sz)) 0 0 (va_A wc sz)
theorem kp_blind {D : va_G} {cI : ClassId} {ws : va_W} {sz : Nat} {av : List Value} : FrameBlind (va_Pc av (kp_ D cI ws sz)) :=
  fun a U g mk q => by
    obtain ⟨q0, q1, qP, qK, qD⟩ := q
    exact ⟨q0, q1, qP, va_K.moved (u := U) (U := U.calling g mk a) (Vm.Alike.refl U.vm) qK, qD⟩
theorem k_fm {α β : Type} {f : α → Option β} : ∀ {is : List α} {w : List β}, is.map f = w.map some → is.filterMap f = w
  | [], [], _ => rfl
  | [], b :: w, h => by simp at h
  | i :: is, [], h => by simp at h
  | i :: is, b :: w, h => by
    simp only [List.map_cons, List.cons.injEq] at h
    rw [List.filterMap_cons, h.1]
    exact congrArg (b :: ·) (k_fm h.2)
section KK
variable {p : Program} {l : Launch} {e : Env} {R : Room} {s : State} {m : MethodId} {args : Array Value} {below : List Frame} {meth : Method} {c : Code} {H : Heap} {locs : List Loc} {cells slots : Nat} {Q : State → Prop}
variable {D : va_G} {cI : ClassId} {A : Nat → Prop} {cc : ByteArray} {pc : Nat} {ls : Array Slot} {rest st0 : List Value}
theorem KC.of {y : MethodName} {ws ws' : List Cond} {d : Nat} {av : List Value} {wc w1 : va_W} {v : Option Value} {maxL : Nat} {ret : Option FieldType} (hy : plainName y.cls = true) (hw : ws = Cond.code y cc maxL ret :: ws') (hlen : (lg_sl av).length ≤ maxL)
    (body : ∀ (p : Program) (e : Env) (s : State) (m : MethodId) (below : List Frame) (meth : Method) (c : Code) (A : Nat → Prop), p.tables.exec = Jvm.exec → c.code = cc → meth.sig.returnType = ret → (∀ w ∈ ws, w.before av.toArray s = true) → s.vm.findClass y.cls = some m.cls → meth.locks = false → c.maxLocals = maxL →
      va_K D vwCl [(cI, .int)] s → va_P D vwCl wc s.heap → va_D A wc → va_S A s.heap s.heap [] → (∀ q : Nat, s.heap.size ≤ q → A q) → ∀ ls : Array Slot, lv_has ls maxL (lv_args 0 av) →
      W p l e (rmD d) s m av.toArray below meth c s.heap [] 0 0 (MQ below (kq_ D cI v w1 A) av.toArray s 0 0 A) (F0 m 0 ls [])) : KC l y ws d av D cI wc w1 v := by
  intro sz
  refine Met.ofW (cc := cc) (maxL := maxL) (ret := ret) hy hw ?_
  intro p e s m args below meth c s₁ B hml hv
  obtain ⟨rfl, hsz, hP, hK, hD0⟩ := hv
  subst hsz
  have hts := atoms_spec (ws := ws) B.pre
  have hown : s.vm.findClass y.cls = some m.cls := findClass_of_methodNamed B.named
  have hl := lv_entry av (n := maxL) hlen
  rw [lg_entry_eq]
  exact body p e s m below meth c _ B.exec B.bytes B.returns hts hown B.notSynchronized hml hK hP hD0.self va_S.rf (fun q h => Or.inr h) _ hl
theorem KC.reti {w1 : va_W} {v : Option Value} {x : Int32} (hx : p.tables.exec = Jvm.exec) (hb : c.code = cc) (hr : meth.sig.returnType = some .int) (hlocks : meth.locks = false) (hK : va_K D vwCl [(cI, .int)] s) (hP : va_P D vwCl w1 H) (hD : va_D A w1) (hS : va_S A s.heap H locs)
    (hdg : decode cc pc = .ok (.ireturn, 1)) (hv : v = some (.int x)) : W p l e R s m args below meth c H locs 0 0 (MQ below (kq_ D cI v w1 A) args s 0 0 A) (F0 m pc ls [.int x]) := by
  subst hv
  exact W.iret hx hb hr (fun t ht hW => ⟨rfl, ⟨by rw [ht]; exact hP, va_K.moved hW.alike hK, hD⟩, hS.F ht⟩) hS.2.2 hdg hlocks
theorem KC.retz {w1 : va_W} {v : Option Value} {x : Int32} (hx : p.tables.exec = Jvm.exec) (hb : c.code = cc) (hr : meth.sig.returnType = some .boolean) (hlocks : meth.locks = false) (hK : va_K D vwCl [(cI, .int)] s) (hP : va_P D vwCl w1 H) (hD : va_D A w1) (hS : va_S A s.heap H locs)
    (hdg : decode cc pc = .ok (.ireturn, 1)) (hn : narrow .boolean (.int x) = .int x) (hv : v = some (.int x)) : W p l e R s m args below meth c H locs 0 0 (MQ below (kq_ D cI v w1 A) args s 0 0 A) (F0 m pc ls [.int x]) := by
  subst hv
  exact W.zret hx hb hr hn (fun t ht hW => ⟨rfl, ⟨by rw [ht]; exact hP, va_K.moved hW.alike hK, hD⟩, hS.F ht⟩) hS.2.2 hdg hlocks
theorem KC.retv {w1 : va_W} (hx : p.tables.exec = Jvm.exec) (hb : c.code = cc) (hr : meth.sig.returnType = none) (hlocks : meth.locks = false) (hK : va_K D vwCl [(cI, .int)] s) (hP : va_P D vwCl w1 H) (hD : va_D A w1) (hS : va_S A s.heap H locs)
    (hdg : decode cc pc = .ok (.return_, 1)) : W p l e R s m args below meth c H locs 0 0 (MQ below (kq_ D cI none w1 A) args s 0 0 A) (F0 m pc ls []) :=
  W.vret hx hb hr (fun t ht hW => ⟨rfl, ⟨by rw [ht]; exact hP, va_K.moved hW.alike hK, hD⟩, hS.F ht⟩) hS.2.2 hdg hlocks
/-- behind a call that made nothing -/
theorem k_after {mc ms : Nat} {a : Array Value} {A1 : Nat → Prop} {w1 : va_W} {v : Option Value} (hr : va_Run p l e R s m args below meth c H locs cells slots mc ms (F0 m pc ls st0) rest (kq_ D cI v w1 A1 a) A1) (hS : va_S A s.heap H locs) (hA : ∀ q, A1 q → A q)
    (kk : ∀ (H1 : Heap) (locs1 : List Loc), va_P D vwCl w1 H1 → va_D A1 w1 → (∀ q : Nat, q < H.size → ¬ A1 q → H1[q]? = H[q]?) → va_S A s.heap H1 locs1 → W p l e R s m args below meth c H1 locs1 (cells + mc) (slots + ms) Q (F0 m (pc + 3) ls (v.toList ++ rest))) : W p l e R s m args below meth c H locs cells slots Q (F0 m pc ls st0) := by
  intro T hT X
  obtain ⟨v', st₀, t, T', L, h0, X', hL, e1, e2, ⟨hv, ⟨hp, hk', hd⟩, hz, hk⟩, st⟩ := hr T hT X
  cases hv
  rw [h0] at hz hk
  obtain ⟨t2, a1, b1⟩ := kk T'.heap (locs ++ L) (by rw [e1]; exact hp) hd (fun q h1 h2 => by rw [e1]; exact hk q h1 h2)
    ⟨Nat.le_trans hS.1 (by rw [e1]; exact hz), fun q h1 h2 => by rw [e1, hk q (Nat.lt_of_lt_of_le h1 hS.1) (fun z => h2 (hA q z))]; exact hS.2.1 q h1 h2, fun q hq => by
      rcases List.mem_append.mp hq with h | h
      · exact hS.2.2 q h
      · exact hA _ (hL q h)⟩ T' rfl X'
  exact ⟨t2, st t2 a1, b1⟩
theorem KC.call {y : MethodName} {wsY Ts : List Cond} {d n index maxL nL : Nat} {own C : String} {bytes : ByteArray} {ret : Option FieldType} {b : Nat} {As : List Value} {ws wc w1 wr wt : va_W} {v : Option Value} {ci : Nat} {fs : List Value} {qc : vw_C}
    (hM : KC l y wsY d (.ref b :: As) D cI wc w1 v) (cw : CallW R s args own C index y bytes maxL ret wsY (rmD d) 0 0 n) (F : CallFix p m c cc nL s args Ts own)
    (hK : va_K D vwCl [(cI, .int)] s) (hP : va_P D vwCl ws H) (hD : va_D A ws) (hS : va_S A s.heap H locs) (hA : ∀ q, s.heap.size ≤ q → A q)
    (hrc : wc[0]? = some (b, .inr (ci, fs))) (hcl : vwCl[ci]? = some qc) (hqC : qc.1 = C)
    (isC isR perm : List Nat) (hnC : va_nd isC = true) (hC : isC.map (fun i => ws[i]?) = wc.map some) (hR : isR.map (fun i => ws[i]?) = wr.map some) (hn : va_nd isR = true) (hdis : ∀ i ∈ isR, i ∉ isC) (hnp : va_nd perm = true) (hp : perm.map (fun i => (wr ++ w1)[i]?) = wt.map some)
    (hAs : As.length = n) (hsz : ls.size = nL) (hst : st0 = As.reverse ++ .ref b :: rest) (hW : (rest.map fun v => v.category).sum ≤ 8) (hdg : decode cc pc = .ok (.invokevirtual index, 3)) (hf : cells ≤ R.cells ∧ slots ≤ R.slots)
    (kk : ∀ (H1 : Heap) (locs1 : List Loc), va_P D vwCl wt H1 → va_D A wt → va_S A s.heap H1 locs1 → W p l e R s m args below meth c H1 locs1 cells slots Q (F0 m (pc + 3) ls (v.toList ++ rest))) : W p l e R s m args below meth c H locs cells slots Q (F0 m pc ls st0) := by
  subst hqC
  have hPc := hP.sub isC (k_fm hC)
  have hDc := hD.sub isC hnC hC
  have hFc := va_free hD hS hA isC hC
  have run := va_runV (g := F0 m pc ls st0) (rest := rest) F (hM H.size) cw ⟨kp_blind, va_recv hK hPc hcl hrc, fun U hU hW => ⟨rfl, by rw [hU], by rw [hU]; exact hPc, va_K.moved hW.alike hK, hDc.weaken (fun _ _ _ _ => trivial)⟩⟩ rfl hAs hsz hst (lv_room hW) hdg hf
  refine k_after (mc := 0) (ms := 0) run hS hFc (fun H1 locs1 hP1 hD1 hk1 hS1 => ?_)
  obtain ⟨hP2, hD2⟩ := va_join hP hD isC isR hC hR hn hdis hk1 hFc hP1 hD1
  exact kk H1 locs1 (hP2.sub perm (k_fm hp)) (hD2.sub perm hnp hp) hS1
/-- a static method without a world -/
theorem KC.callS {y : MethodName} {wsY Ts : List Cond} {d n index maxL nL : Nat} {own : String} {bytes : ByteArray} {ret : Option FieldType} {As : List Value} {ws : va_W} {v : Option Value}
    (hM : KC l y wsY d As D cI [] [] v) (cw : CallB R s args own index y bytes maxL ret wsY (rmD d) 0 0 n ∧ (Cond.static y).before args s = true) (F : CallFix p m c cc nL s args Ts own)
    (hK : va_K D vwCl [(cI, .int)] s) (hP : va_P D vwCl ws H) (hD : va_D A ws) (hS : va_S A s.heap H locs) (hA : ∀ q, s.heap.size ≤ q → A q)
    (hAs : As.length = n) (hsz : ls.size = nL) (hst : st0 = As.reverse ++ rest) (hW : (rest.map fun v => v.category).sum ≤ 8) (hdg : decode cc pc = .ok (.invokestatic index, 3)) (hf : cells ≤ R.cells ∧ slots ≤ R.slots)
    (kk : ∀ (H1 : Heap) (locs1 : List Loc), va_P D vwCl ws H1 → va_D A ws → va_S A s.heap H1 locs1 → W p l e R s m args below meth c H1 locs1 cells slots Q (F0 m (pc + 3) ls (v.toList ++ rest))) : W p l e R s m args below meth c H locs cells slots Q (F0 m pc ls st0) := by
  have hP0 : va_P D vwCl [] H := fun k q h => by simp at h
  have hD0 : va_D A [] := ⟨fun i j p q h => by simp at h, fun k q h => by simp at h⟩
  have hFc : ∀ q, va_A [] H.size q → A q := va_free hD hS hA [] rfl
  have run := va_runS (g := F0 m pc ls st0) (rest := rest) F (hM H.size) cw ⟨kp_blind, fun U hU hW => ⟨rfl, by rw [hU], by rw [hU]; exact hP0, va_K.moved hW.alike hK, hD0.weaken (fun _ _ _ _ => trivial)⟩⟩ rfl hAs hsz hst (lv_room hW) hdg hf
  refine k_after (mc := 0) (ms := 0) run hS hFc (fun H1 locs1 hP1 hD1 hk1 hS1 => ?_)
  refine kk H1 locs1 (hP.kept (fun k q hq => hk1 q.1 (hP k q hq).lt (fun z => ?_))) hD hS1
  rcases z with ⟨k2, e2, h2⟩ | h2
  · simp at h2
  · have := (hP k q hq).lt
    omega
/-- a table switch, at a value that it has -/
theorem k_tin {dflt lo hi : Int} {offs : Array Int} {len : Nat} {x : Int32} {off : Int} {tgt : Nat} (hx : p.tables.exec = Jvm.exec) (hb : c.code = cc) (k : Int32) (q : x = k) (hdg : decode cc pc = .ok (.tableswitch dflt lo hi offs, len)) (h1 : ¬ k.toInt < lo) (h2 : ¬ hi < k.toInt) (ho : offs[(k.toInt - lo).toNat]? = some off) (ht : (pc : Int) + off = (tgt : Int))
    (kk : W p l e R s m args below meth c H locs cells slots Q (F0 m tgt ls rest)) : W p l e R s m args below meth c H locs cells slots Q (F0 m pc ls (.int x :: rest)) := by
  subst q
  exact lv_tableIn hx hb hdg h1 h2 ho ht kk
end KK
/-! the states: scalars f by their numbers, arrays a by theirs.
f: 0 sp, 1 pc, 2 enabled, 3 enabling (soon), 4 halted, 5 shifter, 6 offset, 7 unfed (hunger), 8 gone (states), 9 ended (frames), 10 waiting (request); of the class: 11 flags; of the reference: 11 code, 12 sign, 13 zero, 14 half, 15 parity, 16 carry, 17 due.
a: 0 rom, 1 ram, 2 registers, 3 inputs, 4 latches, 5 rises. -/
def ua (a : Nat → Nat → Int32) (k : Nat) (x : Nat → Int32) : Nat → Nat → Int32 := fun j => if j = k then x else a j
def wM (cI : ClassId) (o : Nat → Nat) (a : Nat → Nat → Int32) : va_W := [(o 2, .inr (1, [.ref (o 3), .ref (o 4)])), (o 3, .inl (cI, 2048, .inl (a 0))), (o 4, .inl (cI, 8192, .inl (a 1)))]
def wT (cI : ClassId) (o : Nat → Nat) (f : Nat → Int32) (a : Nat → Nat → Int32) : va_W := [(o 5, .inr (2, [.ref (o 6), .ref (o 7), .ref (o 8), .int (f 5), .int (f 6), .int (f 7)])), (o 6, .inl (cI, 3, .inl (a 3))), (o 7, .inl (cI, 2, .inl (a 4))), (o 8, .inl (cI, 16, .inl (a 5)))]
def wP (cI : ClassId) (o : Nat → Nat) (f : Nat → Int32) (a : Nat → Nat → Int32) : va_W := [(o 0, .inr (3, [.ref (o 2), .ref (o 5), .ref (o 1), .int (f 11), .int (f 0), .int (f 1), .int (f 2), .int (f 3), .int (f 4)])), (o 1, .inl (cI, 8, .inl (a 2))), (o 2, .inr (1, [.ref (o 3), .ref (o 4)])), (o 3, .inl (cI, 2048, .inl (a 0))), (o 4, .inl (cI, 8192, .inl (a 1))), (o 5, .inr (2, [.ref (o 6), .ref (o 7), .ref (o 8), .int (f 5), .int (f 6), .int (f 7)])), (o 6, .inl (cI, 3, .inl (a 3))), (o 7, .inl (cI, 2, .inl (a 4))), (o 8, .inl (cI, 16, .inl (a 5)))]
def wF (o : Nat → Nat) (f : Nat → Int32) : va_W := [(o 9, .inr (0, [.int (f 8), .int (f 9), .int (f 10)]))]
def wX (cI : ClassId) (o : Nat → Nat) (f : Nat → Int32) (a : Nat → Nat → Int32) : va_W := [(o 10, .inr (4, [.ref (o 2), .ref (o 5), .ref (o 0), .ref (o 9)])), (o 9, .inr (0, [.int (f 8), .int (f 9), .int (f 10)])), (o 0, .inr (3, [.ref (o 2), .ref (o 5), .ref (o 1), .int (f 11), .int (f 0), .int (f 1), .int (f 2), .int (f 3), .int (f 4)])), (o 1, .inl (cI, 8, .inl (a 2))), (o 2, .inr (1, [.ref (o 3), .ref (o 4)])), (o 3, .inl (cI, 2048, .inl (a 0))), (o 4, .inl (cI, 8192, .inl (a 1))), (o 5, .inr (2, [.ref (o 6), .ref (o 7), .ref (o 8), .int (f 5), .int (f 6), .int (f 7)])), (o 6, .inl (cI, 3, .inl (a 3))), (o 7, .inl (cI, 2, .inl (a 4))), (o 8, .inl (cI, 16, .inl (a 5)))]
def wR (cI : ClassId) (o : Nat → Nat) (f : Nat → Int32) (a : Nat → Nat → Int32) : va_W := [(o 20, .inr (5, [.int (f 11), .ref (o 21), .ref (o 22), .ref (o 23), .int (f 0), .int (f 1), .int (f 12), .int (f 13), .int (f 14), .int (f 15), .int (f 16), .int (f 2), .int (f 17), .int (f 3), .int (f 4), .int (f 10), .ref (o 24), .int (f 5), .int (f 6), .ref (o 25), .ref (o 26), .int (f 7), .int (f 8), .int (f 9)])), (o 21, .inl (cI, 2048, .inl (a 0))), (o 22, .inl (cI, 8192, .inl (a 1))), (o 23, .inl (cI, 8, .inl (a 2))), (o 24, .inl (cI, 3, .inl (a 3))), (o 25, .inl (cI, 2, .inl (a 4))), (o 26, .inl (cI, 16, .inl (a 5)))]
end

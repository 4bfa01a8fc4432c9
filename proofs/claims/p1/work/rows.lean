section
-- ===== PART A: goes FIRST, ahead of the names: the tables' words, and 'selects' of the private methods out of them =====
/-- a private method of a class that the tables say can be made, by its rows of tables_1 -/
def lw_okq (q : MethodName × Nat) : Prop := (q.1.cls ≠ "java/lang/invoke/MethodHandle" ∧ q.1.cls ≠ "java/lang/invoke/VarHandle") ∧ Cond.instantiable q.1.cls q.2 ∈ tables_1 ∧ Cond.privateMethod q.1 ∈ tables_1 ∧ Cond.instanceMethod q.1 ∈ tables_1
theorem lw_p0 : lw_okq (⟨"WordGuest", "needWordAt", "(I)V"⟩, 3) := ⟨⟨by decide +kernel, by decide +kernel⟩, List.mem_of_getElem? (i := 15) (by decide +kernel), List.mem_of_getElem? (i := 165) (by decide +kernel), List.mem_of_getElem? (i := 166) (by decide +kernel)⟩
theorem lw_p1 : lw_okq (⟨"java/lang/Throwable", "fillInStackTrace", "(I)Ljava/lang/Throwable;"⟩, 6) := ⟨⟨by decide +kernel, by decide +kernel⟩, List.mem_of_getElem? (i := 212) (by decide +kernel), List.mem_of_getElem? (i := 210) (by decide +kernel), List.mem_of_getElem? (i := 211) (by decide +kernel)⟩
theorem lw_p2 : lw_okq (⟨"WordGuest$Memory", "setIfThere", "(II)I"⟩, 3) := ⟨⟨by decide +kernel, by decide +kernel⟩, List.mem_of_getElem? (i := 23) (by decide +kernel), List.mem_of_getElem? (i := 241) (by decide +kernel), List.mem_of_getElem? (i := 242) (by decide +kernel)⟩
theorem lw_p3 : lw_okq (⟨"WordGuest", "needRegister", "(I)V"⟩, 3) := ⟨⟨by decide +kernel, by decide +kernel⟩, List.mem_of_getElem? (i := 15) (by decide +kernel), List.mem_of_getElem? (i := 276) (by decide +kernel), List.mem_of_getElem? (i := 277) (by decide +kernel)⟩
theorem lw_p4 : lw_okq (⟨"WordGuest$Parts", "grow", "(II)I"⟩, 4) := ⟨⟨by decide +kernel, by decide +kernel⟩, List.mem_of_getElem? (i := 71) (by decide +kernel), List.mem_of_getElem? (i := 326) (by decide +kernel), List.mem_of_getElem? (i := 327) (by decide +kernel)⟩
theorem lw_p5 : lw_okq (⟨"WordGuest$Processor", "performByHead", "(I)V"⟩, 2) := ⟨⟨by decide +kernel, by decide +kernel⟩, List.mem_of_getElem? (i := 42) (by decide +kernel), List.mem_of_getElem? (i := 338) (by decide +kernel), List.mem_of_getElem? (i := 339) (by decide +kernel)⟩
theorem lw_p6 : lw_okq (⟨"WordGuest$Processor", "performOne", "(II)V"⟩, 2) := ⟨⟨by decide +kernel, by decide +kernel⟩, List.mem_of_getElem? (i := 42) (by decide +kernel), List.mem_of_getElem? (i := 346) (by decide +kernel), List.mem_of_getElem? (i := 347) (by decide +kernel)⟩
theorem lw_p7 : lw_okq (⟨"WordGuest$Parts", "shrink", "(II)I"⟩, 4) := ⟨⟨by decide +kernel, by decide +kernel⟩, List.mem_of_getElem? (i := 71) (by decide +kernel), List.mem_of_getElem? (i := 361) (by decide +kernel), List.mem_of_getElem? (i := 362) (by decide +kernel)⟩
theorem lw_p8 : lw_okq (⟨"WordGuest$Parts", "fromRegister", "(II)I"⟩, 4) := ⟨⟨by decide +kernel, by decide +kernel⟩, List.mem_of_getElem? (i := 71) (by decide +kernel), List.mem_of_getElem? (i := 365) (by decide +kernel), List.mem_of_getElem? (i := 366) (by decide +kernel)⟩
theorem lw_p9 : lw_okq (⟨"WordGuest$Processor", "count", "(III)I"⟩, 2) := ⟨⟨by decide +kernel, by decide +kernel⟩, List.mem_of_getElem? (i := 42) (by decide +kernel), List.mem_of_getElem? (i := 370) (by decide +kernel), List.mem_of_getElem? (i := 371) (by decide +kernel)⟩
theorem lw_p10 : lw_okq (⟨"WordGuest$Processor", "withoutOverflow", "(IZ)I"⟩, 2) := ⟨⟨by decide +kernel, by decide +kernel⟩, List.mem_of_getElem? (i := 42) (by decide +kernel), List.mem_of_getElem? (i := 374) (by decide +kernel), List.mem_of_getElem? (i := 375) (by decide +kernel)⟩
theorem lw_p11 : lw_okq (⟨"WordGuest$Processor", "oneMore", "(II)I"⟩, 2) := ⟨⟨by decide +kernel, by decide +kernel⟩, List.mem_of_getElem? (i := 42) (by decide +kernel), List.mem_of_getElem? (i := 378) (by decide +kernel), List.mem_of_getElem? (i := 379) (by decide +kernel)⟩
theorem lw_p12 : lw_okq (⟨"WordGuest$Processor", "oneLess", "(II)I"⟩, 2) := ⟨⟨by decide +kernel, by decide +kernel⟩, List.mem_of_getElem? (i := 42) (by decide +kernel), List.mem_of_getElem? (i := 386) (by decide +kernel), List.mem_of_getElem? (i := 387) (by decide +kernel)⟩
theorem lw_p13 : lw_okq (⟨"WordGuest$Processor", "minus", "(II)I"⟩, 2) := ⟨⟨by decide +kernel, by decide +kernel⟩, List.mem_of_getElem? (i := 42) (by decide +kernel), List.mem_of_getElem? (i := 390) (by decide +kernel), List.mem_of_getElem? (i := 391) (by decide +kernel)⟩
theorem lw_p14 : lw_okq (⟨"WordGuest$Processor", "carryMore", "(II)I"⟩, 2) := ⟨⟨by decide +kernel, by decide +kernel⟩, List.mem_of_getElem? (i := 42) (by decide +kernel), List.mem_of_getElem? (i := 394) (by decide +kernel), List.mem_of_getElem? (i := 395) (by decide +kernel)⟩
theorem lw_p15 : lw_okq (⟨"WordGuest$Processor", "carryLess", "(II)I"⟩, 2) := ⟨⟨by decide +kernel, by decide +kernel⟩, List.mem_of_getElem? (i := 42) (by decide +kernel), List.mem_of_getElem? (i := 398) (by decide +kernel), List.mem_of_getElem? (i := 399) (by decide +kernel)⟩
def lw_privs_1 : List (MethodName × Nat) := [(⟨"WordGuest", "needWordAt", "(I)V"⟩, 3), (⟨"java/lang/Throwable", "fillInStackTrace", "(I)Ljava/lang/Throwable;"⟩, 6), (⟨"WordGuest$Memory", "setIfThere", "(II)I"⟩, 3), (⟨"WordGuest", "needRegister", "(I)V"⟩, 3), (⟨"WordGuest$Parts", "grow", "(II)I"⟩, 4), (⟨"WordGuest$Processor", "performByHead", "(I)V"⟩, 2), (⟨"WordGuest$Processor", "performOne", "(II)V"⟩, 2), (⟨"WordGuest$Parts", "shrink", "(II)I"⟩, 4), (⟨"WordGuest$Parts", "fromRegister", "(II)I"⟩, 4), (⟨"WordGuest$Processor", "count", "(III)I"⟩, 2), (⟨"WordGuest$Processor", "withoutOverflow", "(IZ)I"⟩, 2), (⟨"WordGuest$Processor", "oneMore", "(II)I"⟩, 2), (⟨"WordGuest$Processor", "oneLess", "(II)I"⟩, 2), (⟨"WordGuest$Processor", "minus", "(II)I"⟩, 2), (⟨"WordGuest$Processor", "carryMore", "(II)I"⟩, 2), (⟨"WordGuest$Processor", "carryLess", "(II)I"⟩, 2)]
theorem lw_r1 : ∀ q ∈ lw_privs_1, lw_okq q := List.forall_mem_cons.mpr ⟨lw_p0, List.forall_mem_cons.mpr ⟨lw_p1, List.forall_mem_cons.mpr ⟨lw_p2, List.forall_mem_cons.mpr ⟨lw_p3, List.forall_mem_cons.mpr ⟨lw_p4, List.forall_mem_cons.mpr ⟨lw_p5, List.forall_mem_cons.mpr ⟨lw_p6, List.forall_mem_cons.mpr ⟨lw_p7, List.forall_mem_cons.mpr ⟨lw_p8, List.forall_mem_cons.mpr ⟨lw_p9, List.forall_mem_cons.mpr ⟨lw_p10, List.forall_mem_cons.mpr ⟨lw_p11, List.forall_mem_cons.mpr ⟨lw_p12, List.forall_mem_cons.mpr ⟨lw_p13, List.forall_mem_cons.mpr ⟨lw_p14, List.forall_mem_cons.mpr ⟨lw_p15, fun _ h => absurd h List.not_mem_nil⟩⟩⟩⟩⟩⟩⟩⟩⟩⟩⟩⟩⟩⟩⟩⟩
theorem lw_p16 : lw_okq (⟨"WordGuest$Processor", "shiftByOne", "(III)I"⟩, 2) := ⟨⟨by decide +kernel, by decide +kernel⟩, List.mem_of_getElem? (i := 42) (by decide +kernel), List.mem_of_getElem? (i := 407) (by decide +kernel), List.mem_of_getElem? (i := 408) (by decide +kernel)⟩
theorem lw_p17 : lw_okq (⟨"WordGuest$Processor", "branch", "(I)V"⟩, 2) := ⟨⟨by decide +kernel, by decide +kernel⟩, List.mem_of_getElem? (i := 42) (by decide +kernel), List.mem_of_getElem? (i := 419) (by decide +kernel), List.mem_of_getElem? (i := 420) (by decide +kernel)⟩
theorem lw_p18 : lw_okq (⟨"WordGuest$Processor", "isMet", "(I)Z"⟩, 2) := ⟨⟨by decide +kernel, by decide +kernel⟩, List.mem_of_getElem? (i := 42) (by decide +kernel), List.mem_of_getElem? (i := 423) (by decide +kernel), List.mem_of_getElem? (i := 424) (by decide +kernel)⟩
theorem lw_p19 : lw_okq (⟨"WordGuest$Processor", "refuse", "()V"⟩, 2) := ⟨⟨by decide +kernel, by decide +kernel⟩, List.mem_of_getElem? (i := 42) (by decide +kernel), List.mem_of_getElem? (i := 439) (by decide +kernel), List.mem_of_getElem? (i := 440) (by decide +kernel)⟩
theorem lw_p20 : lw_okq (⟨"WordGuest$Processor", "callPart", "(I)V"⟩, 2) := ⟨⟨by decide +kernel, by decide +kernel⟩, List.mem_of_getElem? (i := 42) (by decide +kernel), List.mem_of_getElem? (i := 443) (by decide +kernel), List.mem_of_getElem? (i := 444) (by decide +kernel)⟩
theorem lw_p21 : lw_okq (⟨"WordGuest$Processor", "jump", "(I)V"⟩, 2) := ⟨⟨by decide +kernel, by decide +kernel⟩, List.mem_of_getElem? (i := 42) (by decide +kernel), List.mem_of_getElem? (i := 455) (by decide +kernel), List.mem_of_getElem? (i := 456) (by decide +kernel)⟩
theorem lw_p22 : lw_okq (⟨"WordGuest$Processor", "returnOrSetFlags", "(I)V"⟩, 2) := ⟨⟨by decide +kernel, by decide +kernel⟩, List.mem_of_getElem? (i := 42) (by decide +kernel), List.mem_of_getElem? (i := 459) (by decide +kernel), List.mem_of_getElem? (i := 460) (by decide +kernel)⟩
theorem lw_p23 : lw_okq (⟨"WordGuest$Processor", "exchangeBytes", "(I)V"⟩, 2) := ⟨⟨by decide +kernel, by decide +kernel⟩, List.mem_of_getElem? (i := 42) (by decide +kernel), List.mem_of_getElem? (i := 467) (by decide +kernel), List.mem_of_getElem? (i := 468) (by decide +kernel)⟩
theorem lw_p24 : lw_okq (⟨"WordGuest$Processor", "spreadSign", "(I)V"⟩, 2) := ⟨⟨by decide +kernel, by decide +kernel⟩, List.mem_of_getElem? (i := 42) (by decide +kernel), List.mem_of_getElem? (i := 471) (by decide +kernel), List.mem_of_getElem? (i := 472) (by decide +kernel)⟩
theorem lw_p25 : lw_okq (⟨"WordGuest$Processor", "addOrSubtract", "(I)V"⟩, 2) := ⟨⟨by decide +kernel, by decide +kernel⟩, List.mem_of_getElem? (i := 42) (by decide +kernel), List.mem_of_getElem? (i := 475) (by decide +kernel), List.mem_of_getElem? (i := 476) (by decide +kernel)⟩
theorem lw_p26 : lw_okq (⟨"WordGuest$Processor", "setByDifference", "(III)V"⟩, 2) := ⟨⟨by decide +kernel, by decide +kernel⟩, List.mem_of_getElem? (i := 42) (by decide +kernel), List.mem_of_getElem? (i := 479) (by decide +kernel), List.mem_of_getElem? (i := 480) (by decide +kernel)⟩
theorem lw_p27 : lw_okq (⟨"WordGuest$Processor", "performWithRegister", "(I)V"⟩, 2) := ⟨⟨by decide +kernel, by decide +kernel⟩, List.mem_of_getElem? (i := 42) (by decide +kernel), List.mem_of_getElem? (i := 483) (by decide +kernel), List.mem_of_getElem? (i := 484) (by decide +kernel)⟩
theorem lw_p28 : lw_okq (⟨"WordGuest$Processor", "multiply", "(II)V"⟩, 2) := ⟨⟨by decide +kernel, by decide +kernel⟩, List.mem_of_getElem? (i := 42) (by decide +kernel), List.mem_of_getElem? (i := 487) (by decide +kernel), List.mem_of_getElem? (i := 488) (by decide +kernel)⟩
theorem lw_p29 : lw_okq (⟨"WordGuest$Processor", "divide", "(II)V"⟩, 2) := ⟨⟨by decide +kernel, by decide +kernel⟩, List.mem_of_getElem? (i := 42) (by decide +kernel), List.mem_of_getElem? (i := 496) (by decide +kernel), List.mem_of_getElem? (i := 497) (by decide +kernel)⟩
theorem lw_p30 : lw_okq (⟨"WordGuest$Processor", "shift", "(II)V"⟩, 2) := ⟨⟨by decide +kernel, by decide +kernel⟩, List.mem_of_getElem? (i := 42) (by decide +kernel), List.mem_of_getElem? (i := 501) (by decide +kernel), List.mem_of_getElem? (i := 502) (by decide +kernel)⟩
theorem lw_p31 : lw_okq (⟨"WordGuest$Processor", "exclude", "(II)V"⟩, 2) := ⟨⟨by decide +kernel, by decide +kernel⟩, List.mem_of_getElem? (i := 42) (by decide +kernel), List.mem_of_getElem? (i := 505) (by decide +kernel), List.mem_of_getElem? (i := 506) (by decide +kernel)⟩
def lw_privs_2 : List (MethodName × Nat) := [(⟨"WordGuest$Processor", "shiftByOne", "(III)I"⟩, 2), (⟨"WordGuest$Processor", "branch", "(I)V"⟩, 2), (⟨"WordGuest$Processor", "isMet", "(I)Z"⟩, 2), (⟨"WordGuest$Processor", "refuse", "()V"⟩, 2), (⟨"WordGuest$Processor", "callPart", "(I)V"⟩, 2), (⟨"WordGuest$Processor", "jump", "(I)V"⟩, 2), (⟨"WordGuest$Processor", "returnOrSetFlags", "(I)V"⟩, 2), (⟨"WordGuest$Processor", "exchangeBytes", "(I)V"⟩, 2), (⟨"WordGuest$Processor", "spreadSign", "(I)V"⟩, 2), (⟨"WordGuest$Processor", "addOrSubtract", "(I)V"⟩, 2), (⟨"WordGuest$Processor", "setByDifference", "(III)V"⟩, 2), (⟨"WordGuest$Processor", "performWithRegister", "(I)V"⟩, 2), (⟨"WordGuest$Processor", "multiply", "(II)V"⟩, 2), (⟨"WordGuest$Processor", "divide", "(II)V"⟩, 2), (⟨"WordGuest$Processor", "shift", "(II)V"⟩, 2), (⟨"WordGuest$Processor", "exclude", "(II)V"⟩, 2)]
theorem lw_r2 : ∀ q ∈ lw_privs_2, lw_okq q := List.forall_mem_cons.mpr ⟨lw_p16, List.forall_mem_cons.mpr ⟨lw_p17, List.forall_mem_cons.mpr ⟨lw_p18, List.forall_mem_cons.mpr ⟨lw_p19, List.forall_mem_cons.mpr ⟨lw_p20, List.forall_mem_cons.mpr ⟨lw_p21, List.forall_mem_cons.mpr ⟨lw_p22, List.forall_mem_cons.mpr ⟨lw_p23, List.forall_mem_cons.mpr ⟨lw_p24, List.forall_mem_cons.mpr ⟨lw_p25, List.forall_mem_cons.mpr ⟨lw_p26, List.forall_mem_cons.mpr ⟨lw_p27, List.forall_mem_cons.mpr ⟨lw_p28, List.forall_mem_cons.mpr ⟨lw_p29, List.forall_mem_cons.mpr ⟨lw_p30, List.forall_mem_cons.mpr ⟨lw_p31, fun _ h => absurd h List.not_mem_nil⟩⟩⟩⟩⟩⟩⟩⟩⟩⟩⟩⟩⟩⟩⟩⟩
theorem lw_p32 : lw_okq (⟨"WordGuest$Processor", "countDown", "(II)V"⟩, 2) := ⟨⟨by decide +kernel, by decide +kernel⟩, List.mem_of_getElem? (i := 42) (by decide +kernel), List.mem_of_getElem? (i := 509) (by decide +kernel), List.mem_of_getElem? (i := 510) (by decide +kernel)⟩
theorem lw_p33 : lw_okq (⟨"WordGuest$Processor", "performTwo", "(II)V"⟩, 2) := ⟨⟨by decide +kernel, by decide +kernel⟩, List.mem_of_getElem? (i := 42) (by decide +kernel), List.mem_of_getElem? (i := 513) (by decide +kernel), List.mem_of_getElem? (i := 514) (by decide +kernel)⟩
theorem lw_p34 : lw_okq (⟨"WordGuestModel", "setWord", "(II)V"⟩, 17) := ⟨⟨by decide +kernel, by decide +kernel⟩, List.mem_of_getElem? (i := 536) (by decide +kernel), List.mem_of_getElem? (i := 606) (by decide +kernel), List.mem_of_getElem? (i := 607) (by decide +kernel)⟩
theorem lw_p35 : lw_okq (⟨"WordGuestModel", "wordAt", "(I)I"⟩, 17) := ⟨⟨by decide +kernel, by decide +kernel⟩, List.mem_of_getElem? (i := 536) (by decide +kernel), List.mem_of_getElem? (i := 614) (by decide +kernel), List.mem_of_getElem? (i := 615) (by decide +kernel)⟩
theorem lw_p36 : lw_okq (⟨"WordGuestModel", "step", "()V"⟩, 17) := ⟨⟨by decide +kernel, by decide +kernel⟩, List.mem_of_getElem? (i := 536) (by decide +kernel), List.mem_of_getElem? (i := 658) (by decide +kernel), List.mem_of_getElem? (i := 659) (by decide +kernel)⟩
theorem lw_p37 : lw_okq (⟨"WordGuestModel", "fetch", "()I"⟩, 17) := ⟨⟨by decide +kernel, by decide +kernel⟩, List.mem_of_getElem? (i := 536) (by decide +kernel), List.mem_of_getElem? (i := 662) (by decide +kernel), List.mem_of_getElem? (i := 663) (by decide +kernel)⟩
theorem lw_p38 : lw_okq (⟨"WordGuestModel", "read", "(IZ)I"⟩, 17) := ⟨⟨by decide +kernel, by decide +kernel⟩, List.mem_of_getElem? (i := 536) (by decide +kernel), List.mem_of_getElem? (i := 666) (by decide +kernel), List.mem_of_getElem? (i := 667) (by decide +kernel)⟩
theorem lw_p39 : lw_okq (⟨"WordGuestModel", "fail", "(I)V"⟩, 17) := ⟨⟨by decide +kernel, by decide +kernel⟩, List.mem_of_getElem? (i := 536) (by decide +kernel), List.mem_of_getElem? (i := 670) (by decide +kernel), List.mem_of_getElem? (i := 671) (by decide +kernel)⟩
theorem lw_p40 : lw_okq (⟨"WordGuestModel", "does", "(I)V"⟩, 17) := ⟨⟨by decide +kernel, by decide +kernel⟩, List.mem_of_getElem? (i := 536) (by decide +kernel), List.mem_of_getElem? (i := 674) (by decide +kernel), List.mem_of_getElem? (i := 675) (by decide +kernel)⟩
theorem lw_p41 : lw_okq (⟨"WordGuestModel", "two", "(II)V"⟩, 17) := ⟨⟨by decide +kernel, by decide +kernel⟩, List.mem_of_getElem? (i := 536) (by decide +kernel), List.mem_of_getElem? (i := 678) (by decide +kernel), List.mem_of_getElem? (i := 679) (by decide +kernel)⟩
theorem lw_p42 : lw_okq (⟨"WordGuestModel", "find", "(I)V"⟩, 17) := ⟨⟨by decide +kernel, by decide +kernel⟩, List.mem_of_getElem? (i := 536) (by decide +kernel), List.mem_of_getElem? (i := 682) (by decide +kernel), List.mem_of_getElem? (i := 683) (by decide +kernel)⟩
theorem lw_p43 : lw_okq (⟨"WordGuestModel", "move", "(II)V"⟩, 17) := ⟨⟨by decide +kernel, by decide +kernel⟩, List.mem_of_getElem? (i := 536) (by decide +kernel), List.mem_of_getElem? (i := 686) (by decide +kernel), List.mem_of_getElem? (i := 687) (by decide +kernel)⟩
theorem lw_p44 : lw_okq (⟨"WordGuestModel", "get", "()I"⟩, 17) := ⟨⟨by decide +kernel, by decide +kernel⟩, List.mem_of_getElem? (i := 536) (by decide +kernel), List.mem_of_getElem? (i := 690) (by decide +kernel), List.mem_of_getElem? (i := 691) (by decide +kernel)⟩
theorem lw_p45 : lw_okq (⟨"WordGuestModel", "has", "(I)Z"⟩, 17) := ⟨⟨by decide +kernel, by decide +kernel⟩, List.mem_of_getElem? (i := 536) (by decide +kernel), List.mem_of_getElem? (i := 694) (by decide +kernel), List.mem_of_getElem? (i := 695) (by decide +kernel)⟩
theorem lw_p46 : lw_okq (⟨"WordGuestModel", "mask", "()I"⟩, 17) := ⟨⟨by decide +kernel, by decide +kernel⟩, List.mem_of_getElem? (i := 536) (by decide +kernel), List.mem_of_getElem? (i := 698) (by decide +kernel), List.mem_of_getElem? (i := 699) (by decide +kernel)⟩
theorem lw_p47 : lw_okq (⟨"WordGuestModel", "negative", "(I)Z"⟩, 17) := ⟨⟨by decide +kernel, by decide +kernel⟩, List.mem_of_getElem? (i := 536) (by decide +kernel), List.mem_of_getElem? (i := 702) (by decide +kernel), List.mem_of_getElem? (i := 703) (by decide +kernel)⟩
def lw_privs_3 : List (MethodName × Nat) := [(⟨"WordGuest$Processor", "countDown", "(II)V"⟩, 2), (⟨"WordGuest$Processor", "performTwo", "(II)V"⟩, 2), (⟨"WordGuestModel", "setWord", "(II)V"⟩, 17), (⟨"WordGuestModel", "wordAt", "(I)I"⟩, 17), (⟨"WordGuestModel", "step", "()V"⟩, 17), (⟨"WordGuestModel", "fetch", "()I"⟩, 17), (⟨"WordGuestModel", "read", "(IZ)I"⟩, 17), (⟨"WordGuestModel", "fail", "(I)V"⟩, 17), (⟨"WordGuestModel", "does", "(I)V"⟩, 17), (⟨"WordGuestModel", "two", "(II)V"⟩, 17), (⟨"WordGuestModel", "find", "(I)V"⟩, 17), (⟨"WordGuestModel", "move", "(II)V"⟩, 17), (⟨"WordGuestModel", "get", "()I"⟩, 17), (⟨"WordGuestModel", "has", "(I)Z"⟩, 17), (⟨"WordGuestModel", "mask", "()I"⟩, 17), (⟨"WordGuestModel", "negative", "(I)Z"⟩, 17)]
theorem lw_r3 : ∀ q ∈ lw_privs_3, lw_okq q := List.forall_mem_cons.mpr ⟨lw_p32, List.forall_mem_cons.mpr ⟨lw_p33, List.forall_mem_cons.mpr ⟨lw_p34, List.forall_mem_cons.mpr ⟨lw_p35, List.forall_mem_cons.mpr ⟨lw_p36, List.forall_mem_cons.mpr ⟨lw_p37, List.forall_mem_cons.mpr ⟨lw_p38, List.forall_mem_cons.mpr ⟨lw_p39, List.forall_mem_cons.mpr ⟨lw_p40, List.forall_mem_cons.mpr ⟨lw_p41, List.forall_mem_cons.mpr ⟨lw_p42, List.forall_mem_cons.mpr ⟨lw_p43, List.forall_mem_cons.mpr ⟨lw_p44, List.forall_mem_cons.mpr ⟨lw_p45, List.forall_mem_cons.mpr ⟨lw_p46, List.forall_mem_cons.mpr ⟨lw_p47, fun _ h => absurd h List.not_mem_nil⟩⟩⟩⟩⟩⟩⟩⟩⟩⟩⟩⟩⟩⟩⟩⟩
theorem lw_p48 : lw_okq (⟨"WordGuestModel", "top", "()I"⟩, 17) := ⟨⟨by decide +kernel, by decide +kernel⟩, List.mem_of_getElem? (i := 536) (by decide +kernel), List.mem_of_getElem? (i := 706) (by decide +kernel), List.mem_of_getElem? (i := 707) (by decide +kernel)⟩
theorem lw_p49 : lw_okq (⟨"WordGuestModel", "setBy", "(IZZ)V"⟩, 17) := ⟨⟨by decide +kernel, by decide +kernel⟩, List.mem_of_getElem? (i := 536) (by decide +kernel), List.mem_of_getElem? (i := 711) (by decide +kernel), List.mem_of_getElem? (i := 712) (by decide +kernel)⟩
theorem lw_p50 : lw_okq (⟨"WordGuestModel", "set", "(ZZZZ)V"⟩, 17) := ⟨⟨by decide +kernel, by decide +kernel⟩, List.mem_of_getElem? (i := 536) (by decide +kernel), List.mem_of_getElem? (i := 715) (by decide +kernel), List.mem_of_getElem? (i := 716) (by decide +kernel)⟩
theorem lw_p51 : lw_okq (⟨"WordGuestModel", "write", "(I)V"⟩, 17) := ⟨⟨by decide +kernel, by decide +kernel⟩, List.mem_of_getElem? (i := 536) (by decide +kernel), List.mem_of_getElem? (i := 720) (by decide +kernel), List.mem_of_getElem? (i := 721) (by decide +kernel)⟩
theorem lw_p52 : lw_okq (⟨"WordGuestModel", "sum", "(IZ)V"⟩, 17) := ⟨⟨by decide +kernel, by decide +kernel⟩, List.mem_of_getElem? (i := 536) (by decide +kernel), List.mem_of_getElem? (i := 724) (by decide +kernel), List.mem_of_getElem? (i := 725) (by decide +kernel)⟩
theorem lw_p53 : lw_okq (⟨"WordGuestModel", "goes", "(I)Z"⟩, 17) := ⟨⟨by decide +kernel, by decide +kernel⟩, List.mem_of_getElem? (i := 536) (by decide +kernel), List.mem_of_getElem? (i := 728) (by decide +kernel), List.mem_of_getElem? (i := 729) (by decide +kernel)⟩
theorem lw_p54 : lw_okq (⟨"WordGuestModel", "one", "(II)V"⟩, 17) := ⟨⟨by decide +kernel, by decide +kernel⟩, List.mem_of_getElem? (i := 536) (by decide +kernel), List.mem_of_getElem? (i := 732) (by decide +kernel), List.mem_of_getElem? (i := 733) (by decide +kernel)⟩
theorem lw_p55 : lw_okq (⟨"WordGuestModel", "others", "(I)V"⟩, 17) := ⟨⟨by decide +kernel, by decide +kernel⟩, List.mem_of_getElem? (i := 536) (by decide +kernel), List.mem_of_getElem? (i := 736) (by decide +kernel), List.mem_of_getElem? (i := 737) (by decide +kernel)⟩
theorem lw_p56 : lw_okq (⟨"WordGuestModel", "jump", "(IIZ)V"⟩, 17) := ⟨⟨by decide +kernel, by decide +kernel⟩, List.mem_of_getElem? (i := 536) (by decide +kernel), List.mem_of_getElem? (i := 740) (by decide +kernel), List.mem_of_getElem? (i := 741) (by decide +kernel)⟩
theorem lw_p57 : lw_okq (⟨"WordGuestModel", "exchangeBytes", "(I)V"⟩, 17) := ⟨⟨by decide +kernel, by decide +kernel⟩, List.mem_of_getElem? (i := 536) (by decide +kernel), List.mem_of_getElem? (i := 744) (by decide +kernel), List.mem_of_getElem? (i := 745) (by decide +kernel)⟩
theorem lw_p58 : lw_okq (⟨"WordGuestModel", "signOut", "(I)V"⟩, 17) := ⟨⟨by decide +kernel, by decide +kernel⟩, List.mem_of_getElem? (i := 536) (by decide +kernel), List.mem_of_getElem? (i := 748) (by decide +kernel), List.mem_of_getElem? (i := 749) (by decide +kernel)⟩
theorem lw_p59 : lw_okq (⟨"WordGuestModel", "product", "(II)V"⟩, 17) := ⟨⟨by decide +kernel, by decide +kernel⟩, List.mem_of_getElem? (i := 536) (by decide +kernel), List.mem_of_getElem? (i := 752) (by decide +kernel), List.mem_of_getElem? (i := 753) (by decide +kernel)⟩
theorem lw_p60 : lw_okq (⟨"WordGuestModel", "quotient", "(II)V"⟩, 17) := ⟨⟨by decide +kernel, by decide +kernel⟩, List.mem_of_getElem? (i := 536) (by decide +kernel), List.mem_of_getElem? (i := 760) (by decide +kernel), List.mem_of_getElem? (i := 761) (by decide +kernel)⟩
theorem lw_p61 : lw_okq (⟨"WordGuestModel", "shift", "(II)V"⟩, 17) := ⟨⟨by decide +kernel, by decide +kernel⟩, List.mem_of_getElem? (i := 536) (by decide +kernel), List.mem_of_getElem? (i := 766) (by decide +kernel), List.mem_of_getElem? (i := 767) (by decide +kernel)⟩
theorem lw_p62 : lw_okq (⟨"WordGuestModel", "either", "(II)V"⟩, 17) := ⟨⟨by decide +kernel, by decide +kernel⟩, List.mem_of_getElem? (i := 536) (by decide +kernel), List.mem_of_getElem? (i := 770) (by decide +kernel), List.mem_of_getElem? (i := 771) (by decide +kernel)⟩
theorem lw_p63 : lw_okq (⟨"WordGuestModel", "back", "(I)V"⟩, 17) := ⟨⟨by decide +kernel, by decide +kernel⟩, List.mem_of_getElem? (i := 536) (by decide +kernel), List.mem_of_getElem? (i := 774) (by decide +kernel), List.mem_of_getElem? (i := 775) (by decide +kernel)⟩
def lw_privs_4 : List (MethodName × Nat) := [(⟨"WordGuestModel", "top", "()I"⟩, 17), (⟨"WordGuestModel", "setBy", "(IZZ)V"⟩, 17), (⟨"WordGuestModel", "set", "(ZZZZ)V"⟩, 17), (⟨"WordGuestModel", "write", "(I)V"⟩, 17), (⟨"WordGuestModel", "sum", "(IZ)V"⟩, 17), (⟨"WordGuestModel", "goes", "(I)Z"⟩, 17), (⟨"WordGuestModel", "one", "(II)V"⟩, 17), (⟨"WordGuestModel", "others", "(I)V"⟩, 17), (⟨"WordGuestModel", "jump", "(IIZ)V"⟩, 17), (⟨"WordGuestModel", "exchangeBytes", "(I)V"⟩, 17), (⟨"WordGuestModel", "signOut", "(I)V"⟩, 17), (⟨"WordGuestModel", "product", "(II)V"⟩, 17), (⟨"WordGuestModel", "quotient", "(II)V"⟩, 17), (⟨"WordGuestModel", "shift", "(II)V"⟩, 17), (⟨"WordGuestModel", "either", "(II)V"⟩, 17), (⟨"WordGuestModel", "back", "(I)V"⟩, 17)]
theorem lw_r4 : ∀ q ∈ lw_privs_4, lw_okq q := List.forall_mem_cons.mpr ⟨lw_p48, List.forall_mem_cons.mpr ⟨lw_p49, List.forall_mem_cons.mpr ⟨lw_p50, List.forall_mem_cons.mpr ⟨lw_p51, List.forall_mem_cons.mpr ⟨lw_p52, List.forall_mem_cons.mpr ⟨lw_p53, List.forall_mem_cons.mpr ⟨lw_p54, List.forall_mem_cons.mpr ⟨lw_p55, List.forall_mem_cons.mpr ⟨lw_p56, List.forall_mem_cons.mpr ⟨lw_p57, List.forall_mem_cons.mpr ⟨lw_p58, List.forall_mem_cons.mpr ⟨lw_p59, List.forall_mem_cons.mpr ⟨lw_p60, List.forall_mem_cons.mpr ⟨lw_p61, List.forall_mem_cons.mpr ⟨lw_p62, List.forall_mem_cons.mpr ⟨lw_p63, fun _ h => absurd h List.not_mem_nil⟩⟩⟩⟩⟩⟩⟩⟩⟩⟩⟩⟩⟩⟩⟩⟩
def lw_privs : List (MethodName × Nat) := lw_privs_1 ++ (lw_privs_2 ++ (lw_privs_3 ++ (lw_privs_4)))
def lw_tbl : List Cond := k2_sels lw_privs ++ tables_1
theorem lw_privs_ok : ∀ q ∈ lw_privs, lw_okq q := by
  show ∀ q ∈ lw_privs_1 ++ (lw_privs_2 ++ (lw_privs_3 ++ (lw_privs_4))), lw_okq q
  exact List.forall_mem_append.mpr ⟨lw_r1, List.forall_mem_append.mpr ⟨lw_r2, List.forall_mem_append.mpr ⟨lw_r3, lw_r4⟩⟩⟩
-- ===== end of PART A; then your names; then what follows =====
/-! THE CLAIM OUT OF ONE WALK OF THE LAW'S BODY. Your part is whole_start (and what it stands on); all else here is the same for every law, but numbers. -/
def R_law : String := "WordGuestLaw"
def lw_P (b : Addr) (xs : List Int32) (args : Array Value) (s : State) : Prop := args = #[.ref b] ∧ s.IntsAt b xs ∧ xs.length ≤ 7 ∧ (Jvm.Cond.and given_1 narrow_1).before args s = true
def lw_Q (_ : Array Value) (s : State) (o : Outcome) (t : State) : Prop := o = .returned (some (.int 1)) ∧ Framed s o t [] 21 7050
def lw_Z (below : List Frame) (a : Array Value) (s : State) : State → Prop := fun t => ∃ o, t.status = .running ∧ Ended t below o ∧ lw_Q a s o t
/-- the law's own end, with 1 on the stack, nothing written that was there before, its room as the claim has it -/
theorem lw_ret {p : Program} {l : Launch} {e : Env} {s : State} {m : MethodId} {below : List Frame} {meth : Method} {c : Code} {b : Nat} (hx : p.tables.exec = Jvm.exec) (hb : c.code = code) (hr : meth.sig.returnType = ret) (hlocks : meth.locks = false) {pc : Nat} {H : Heap} {ls : Array Slot} (hdg : decode code pc = .ok (.ireturn, 1)) : W p l e room_1 s m #[Value.ref b] below meth c H [] 21 7050 (lw_Z below #[Value.ref b] s) (F0 m pc ls [.int 1]) := by
  intro T hT X
  obtain ⟨fs, hret, hrun, hended, hW, hframe⟩ := X.leave (v := some (.int 1)) (hlocks := hlocks) (fun h => by rw [hr] at h; cases h)
  have hmeth' : T.vm.method? m = some meth := X.method'
  refine ⟨T.setFrames fs, ?_, .returned (some (.int 1)), hrun, hended, rfl, ⟨_, rfl⟩, hW, hframe⟩
  jvm_step X.here [X.here.top, hx, hb, hdg, hmeth', hr, ret, narrow_b1]
  (try refine ⟨rfl, ?_⟩); (try refine ⟨rfl, ?_⟩)
  first | (intro acts; rw [hret _ acts rfl rfl rfl]) | rw [hret _ _ rfl rfl rfl]
  exact Steps.refl _
/-- what holds at the law's entry: the machine, the code, the tables' words (any of lw_tbl by 'hts w (by decide +kernel)'), the script of L ints xs at the cell b, what the Statement gives of the start (any of its parts by flat_of_before) -/
def lw_At (p : Program) (s : State) (m : MethodId) (meth : Method) (c : Code) (b L : Nat) (xs : Nat → Int32) : Prop :=
  p.tables.exec = Jvm.exec ∧ c.code = code ∧ meth.sig.returnType = ret ∧ c.maxLocals = 7 ∧ s.vm.findClass R_law = some m.cls ∧ (∀ w ∈ lw_tbl, w.before #[Value.ref b] s = true) ∧ va_X b L xs s s.heap ∧ b < s.heap.size ∧ meth.locks = false ∧ (Jvm.Cond.and given_1 narrow_1).before #[Value.ref b] s = true
end
section
/-! ===== BEGIN words of one list among another's, by their places ===== -/
theorem goodIn_r {big : List Cond} (ws : List Cond) (ps : List Nat) (hp : ws = ps.filterMap (fun i => big[i]?)) (h : ws.all goodWord = true) : GoodIn big ws := by
  intro w hw
  have h1 := List.all_eq_true.mp h w hw
  rw [hp] at hw
  obtain ⟨i, -, hi⟩ := List.mem_filterMap.mp hw
  have hm : w ∈ big := by first | exact List.mem_of_getElem? hi | exact List.getElem?_mem hi
  exact ⟨hm, good_of_word h1⟩
theorem goodIn_app {big a b : List Cond} (ha : GoodIn big a) (hb : GoodIn big b) : GoodIn big (a ++ b) := fun w h => (List.mem_append.mp h).elim (ha w) (hb w)
theorem goodIn_ca {big a b : List Cond} {c : Cond} (ha : GoodIn big (c :: a)) (hb : GoodIn big b) : GoodIn big (c :: (a ++ b)) := fun w h => (List.mem_cons.mp h).elim (fun e => ha w (List.mem_cons.mpr (Or.inl e))) (fun h => (List.mem_append.mp h).elim (fun h => ha w (List.mem_cons.mpr (Or.inr h))) (hb w))
theorem goodIn_sub {big ws : List Cond} (hm : ∀ w ∈ ws, w ∈ big) (h : ws.all goodWord = true) : GoodIn big ws := fun w hw => ⟨hm w hw, good_of_word (List.all_eq_true.mp h w hw)⟩
/-! ===== END ===== -/

/-! ===== BEGIN exceptions that leave a method, and their catching by the caller (launches without stack traces) ===== -/
section VXA
/-! The laws vx_back, vx_callV, vx_callS, vx_callSW, vx_throw0, vx_throwS follow proofs of the library, with one case more: JvmDerived/Free/Laws.lean (Back.of_free), Shelf42/LK1.lean (callV, callS), Shelf/KitTraced.lean (throwNew0V, throwNewS). -/
/-- where a method has thrown q: the class by its name, the cell, what was written, the world -/
def vx_T (XC : String → State → State → Prop) (st : State) (q : Addr) (t : State) (mc ms : Nat) (free : Addr → Prop) : Prop :=
  ∃ (E : String) (ce : Cell) (L : List Loc), XC E st t ∧ t.heap[q]? = some ce ∧ ce.vm = .none ∧ st.vm.findClass E = some ce.cls ∧ st.WarmedH t.vm ∧ st.sameButNew ({ t with vm := st.vm } : State) L mc ms ∧ ∀ z ∈ L, free z.base
def vx_Q (Qc : Array Value → State → Outcome → State → Prop) (XC : String → State → State → Prop) (mc ms : Nat) (free : Addr → Prop) : Array Value → State → Outcome → State → Prop := fun a st o t =>
  (Qc a st o t ∧ ∃ L, FrameEnd st o t L mc ms ∧ ∀ q ∈ L, free q.base) ∨ ∃ q, o = .threw q ∧ vx_T XC st q t mc ms free
/-- a callee that returns or throws -/
def vx_Met (l : Launch) (y : MethodName) (ws : List Cond) (rm : Room) (Pc : Array Value → State → Prop) (Qc : Array Value → State → Outcome → State → Prop) (XC : String → State → State → Prop) (mc ms : Nat) (free : Addr → Prop) : Prop :=
  MetFree l y (headSpec ws rm) Pc (fun _ _ _ _ _ => True) (vx_Q Qc XC mc ms free)
def vx_Post (XC : String → State → State → Prop) (mc ms : Nat) (free : Addr → Prop) : Pt → Array Value → Addr → Pt → Prop := fun A a q B =>
  ∃ (g : JFrame) (mk : MethodId) (t : State) (L : List Loc) (E : String) (ce : Cell), B.U.heap = t.heap ∧ B.U.vm = t.vm ∧ XC E (A.U.calling g mk a) t ∧ t.heap[q]? = some ce ∧ ce.vm = .none ∧ A.U.vm.findClass E = some ce.cls ∧ B.locs = A.locs ++ L ∧ (∀ z ∈ L, free z.base) ∧ B.cells = A.cells + mc ∧ B.slots = A.slots + ms
def vx_Back (l : Launch) (R : Room) (p : Program) (e : Env) (below : List Frame) (s : State) (sargs : Array Value) (y : MethodName) (len W9 : Nat)
    (Pre : Pt → Array Value → Prop) (Post : Pt → Array Value → Option Value → Pt → Prop) (PostX : Pt → Array Value → Addr → Pt → Prop) : Prop :=
  ∀ (m : MethodId) (meth : Method) (c : Code) (A : Pt) (g : JFrame) (ig : Instr) (mk : MethodId) (a : Array Value),
    Stand p l e R s m sargs below meth c A.U A.locs A.cells A.slots → g.method = m → g.locals.size = c.maxLocals → decode c.code g.pc = .ok (ig, len) →
    2 * g.monitorRoom + (g.stack.map fun v => v.category).sum ≤ W9 → A.U.methodNamed? y = some mk → Pre A a →
    (∃ (v : Option Value) (B : Pt), Stand p l e R s m sargs below meth c B.U B.locs B.cells B.slots ∧ Post A a v B ∧
      Steps p.tables e below (doInvoke e (A.U.setTop g) [] mk a).1 (B.U.setTop { g with pc := g.pc + len, stack := v.toList ++ g.stack })) ∨
    (∃ (q : Addr) (B : Pt), Stand p l e R s m sargs below meth c B.U B.locs B.cells B.slots ∧ PostX A a q B ∧
      Steps p.tables e below (doInvoke e (A.U.setTop g) [] mk a).1 ((B.U.setTop g).pushFrame (.throwing q)))
section Payer
variable {l : Launch} {R : Room} {p : Program} {e : Env} {below : List Frame} {s : State} {sargs : Array Value} {y : MethodName} {len W9 : Nat}
theorem vx_back {ws : List Cond} {rm : Room} {Pc : Array Value → State → Prop} {Qc : Array Value → State → Outcome → State → Prop} {XC : String → State → State → Prop} {mc ms : Nat} {free : Addr → Prop} {bytes : ByteArray} {maxL : Nat} {ret : Option FieldType}
    (hM : vx_Met l y ws rm Pc Qc XC mc ms free) (hblind : FrameBlind Pc) (hrc : rm.cells = mc) (hrs : rm.slots = ms)
    (hframes : rm.frames + 1 ≤ R.frames) (hlocals : W9 + (maxL + 11) + rm.locals ≤ R.locals)
    (hws : ∀ w ∈ ws, ∀ a' U, s.WarmedH U.vm → w.before a' U = true) (hcode : Cond.code y bytes maxL ret ∈ ws) (hinit : ∀ a' U, s.WarmedH U.vm → (Cond.initialized y.cls).before a' U = true) :
    vx_Back l R p e below s sargs y len W9 (PreOf R mc ms Pc) (PostOf Qc mc ms free) (vx_Post XC mc ms free) := by
  intro m meth c A g ig mk a X hg hsize hdg hW hn hp
  have h1 : (headSpec ws rm).pre.before a A.U = true := atoms_intro fun w hw => hws w hw _ _ X.warmed
  have h2 : (Cond.code y bytes maxL ret).before a A.U = true := hws _ hcode _ _ X.warmed
  have h3 : (Cond.initialized y.cls).before a A.U = true := hinit _ _ X.warmed
  have h4 : A.cells + (headSpec ws rm).room.cells ≤ R.cells := by rw [show (headSpec ws rm).room.cells = mc from hrc]; exact hp.1
  have h5 : A.slots + (headSpec ws rm).room.slots ≤ R.slots := by rw [show (headSpec ws rm).room.slots = ms from hrs]; exact hp.2.1
  have hPc : Pc a (A.U.calling g mk a) := hblind _ _ _ _ hp.2.2
  obtain ⟨U, Ls, c0, s0⟩ := A
  dsimp only [Pt.U, Pt.locs, Pt.cells, Pt.slots] at h1 h2 h3 h4 h5 X hn hPc ⊢
  obtain ⟨methY, cY, hmY, hcY, -, hlY, -, -, -, -⟩ := Cond.code_spec hn h2
  obtain ⟨kY, hkY, -⟩ := className_of_methodNamed hn
  have hinitY : kY.init = .initialized := Cond.initialized_spec (findClass_of_methodNamed hn) hkY h3
  have h : At U g.method c below := by rw [hg]; exact X.here
  have hlocals9 : W9 + (maxL + 11) + (headSpec ws rm).room.locals ≤ R.locals := hlocals
  have happ : (headSpec ws rm).appliesLoose y e.platform (U.calling g mk a) = true :=
    Spec.appliesLoose_calling (g := g) h hdg hn hkY hinitY
      (X.room_calling (g := g) (R' := (headSpec ws rm).room) hsize hmY hcY hframes (by rw [hlY]; omega) h4 h5) h1
  obtain ⟨mid, hmid⟩ := h.above
  have hfr : (U.setTop g).frames = (.java g :: mid) ++ below := by rw [State.frames_setTop' g h.top, hmid]; rfl
  obtain ⟨o, s₂, hsteps, -, hend, hq⟩ := Steps.callFree hM p X.admits X.cas X.clock (acts := []) hfr happ hPc trivial
  have hq' : vx_Q Qc XC mc ms free a (U.calling g mk a) o s₂ := hq
  rw [State.frames_setTop' g h.top] at hend
  obtain ⟨g₀, hg0⟩ := Option.isSome_iff_exists.mp h.top
  obtain ⟨r, hr⟩ := State.topJava?_eq_some.mp hg0
  have hr' : (({ U with heap := s₂.heap, slotsUsed := s₂.slotsUsed } : State).setVm s₂.vm).frames = .java g₀ :: r := hr
  rcases hq' with ⟨hqc, L, hfe, hL⟩ | ⟨q, rfl, E, ce, L, hx, hce, hcv, hcl, hW₂, hsm, hL⟩
  · obtain ⟨⟨v, rfl⟩, hW₂, e2, q2, q3, q4, q5, q6⟩ := id hfe
    have e3 : s₂ = ({ (U.calling g mk a).setFrames s₂.frames with heap := s₂.heap, slotsUsed := s₂.slotsUsed } : State).setVm s₂.vm := by
      have : s₂ = ({ s₂ with vm := (U.calling g mk a).vm } : State).setVm s₂.vm := rfl
      rw [e2] at this
      exact this
    obtain ⟨c₂, i₂, len₂, hc₂, hd₂, hf₂⟩ := hend
    have hW' : U.WarmedH s₂.vm := hW₂
    have hcc : c₂ = c := by
      have h1 : s₂.code? g.method = U.code? g.method := by
        rw [State.code?_eq, State.code?_eq, hW'.alike.method?]
      exact Option.some.inj (hc₂.symm.trans (h1.trans h.code))
    subst hcc
    have hlen : len₂ = len := by rw [hdg] at hd₂; cases hd₂; rfl
    subst hlen
    have hs₂ : s₂ = (({ U with heap := s₂.heap, slotsUsed := s₂.slotsUsed } : State).setVm s₂.vm).setTop { g with pc := g.pc + len₂, stack := v.toList ++ g.stack } := by
      refine e3.trans ?_
      rw [hf₂, State.calling_eq h.top, State.setFrames_setFrames, State.setTop_of_frames _ hr', hr]
      rfl
    have hsame : U.sameButNew ({ U with heap := s₂.heap, slotsUsed := s₂.slotsUsed } : State) L mc ms := by
      refine ⟨?_, q2, q3, q4, q5, q6⟩
      obtain ⟨t, ht, -⟩ := State.frames_cons hr
      show ({ U with heap := s₂.heap, slotsUsed := s₂.slotsUsed } : State) = { U.setFrames U.frames with heap := s₂.heap, slotsUsed := s₂.slotsUsed }
      rw [State.setFrames_self ht]
    subst hg
    refine Or.inl ⟨v, ⟨(({ U with heap := s₂.heap, slotsUsed := s₂.slotsUsed } : State).setVm s₂.vm), Ls ++ L, c0 + mc, s0 + ms⟩,
      ⟨X.admits, X.cas, X.clock, X.frames, X.room, X.hears, X.method, X.code, (X.here.setHeapUsed s₂.heap s₂.slotsUsed).setVm hW'.alike, X.tail, State.WarmedH.trans X.warmed hW', X.limits, X.bytes, X.same.trans (hsame.setVm s.vm)⟩,
      ⟨g, mk, s₂, L, rfl, rfl, hqc, rfl, hL, rfl, rfl⟩, ?_⟩
    show Steps p.tables e below _ ((({ U with heap := s₂.heap, slotsUsed := s₂.slotsUsed } : State).setVm s₂.vm).setTop { g with pc := g.pc + len₂, stack := v.toList ++ g.stack })
    rw [← hs₂]
    exact hsteps
  · obtain ⟨e2, q2, q3, q4, q5, q6⟩ := id hsm
    have e3 : s₂ = ({ (U.calling g mk a).setFrames s₂.frames with heap := s₂.heap, slotsUsed := s₂.slotsUsed } : State).setVm s₂.vm := by
      have : s₂ = ({ s₂ with vm := (U.calling g mk a).vm } : State).setVm s₂.vm := rfl
      rw [e2] at this
      exact this
    have hf₂ : s₂.frames = .throwing q :: .java g :: U.frames.tail := hend
    have hW' : U.WarmedH s₂.vm := hW₂
    have hs₂ : s₂ = ((({ U with heap := s₂.heap, slotsUsed := s₂.slotsUsed } : State).setVm s₂.vm).setTop g).pushFrame (.throwing q) := by
      refine e3.trans ?_
      rw [hf₂, State.calling_eq h.top, State.setFrames_setFrames, State.pushFrame, State.frames_setTop _ hr', State.setTop_of_frames _ hr', State.setFrames_setFrames, hr]
      rfl
    have hsame : U.sameButNew ({ U with heap := s₂.heap, slotsUsed := s₂.slotsUsed } : State) L mc ms := by
      refine ⟨?_, q2, q3, q4, q5, q6⟩
      obtain ⟨t, ht, -⟩ := State.frames_cons hr
      show ({ U with heap := s₂.heap, slotsUsed := s₂.slotsUsed } : State) = { U.setFrames U.frames with heap := s₂.heap, slotsUsed := s₂.slotsUsed }
      rw [State.setFrames_self ht]
    subst hg
    refine Or.inr ⟨q, ⟨(({ U with heap := s₂.heap, slotsUsed := s₂.slotsUsed } : State).setVm s₂.vm), Ls ++ L, c0 + mc, s0 + ms⟩,
      ⟨X.admits, X.cas, X.clock, X.frames, X.room, X.hears, X.method, X.code, (X.here.setHeapUsed s₂.heap s₂.slotsUsed).setVm hW'.alike, X.tail, State.WarmedH.trans X.warmed hW', X.limits, X.bytes, X.same.trans (hsame.setVm s.vm)⟩,
      ⟨g, mk, s₂, L, E, ce, rfl, rfl, hx, hce, hcv, hcl, rfl, hL, rfl, rfl⟩, ?_⟩
    show Steps p.tables e below _ (((({ U with heap := s₂.heap, slotsUsed := s₂.slotsUsed } : State).setVm s₂.vm).setTop g).pushFrame (.throwing q))
    rw [← hs₂]
    exact hsteps
end Payer
section Calls
variable {p : Program} {l : Launch} {e : Env} {R : Room} {s : State} {m : MethodId} {args : Array Value} {below : List Frame} {meth : Method} {c : Code} {T : State} {locs : List Loc} {cells slots : Nat}
theorem vx_callV (X : Stand p l e R s m args below meth c T locs cells slots) (hexec : p.tables.exec = Jvm.exec) {own C : String} {index : Nat} {y : MethodName} {bytes : ByteArray} {maxL : Nat} {ret : Option FieldType}
    (hown : s.vm.findClass own = some m.cls) (hlink : (Cond.methodLink own index y).before args s = true) (hinst : (Cond.instanceMethod y).before args s = true) (hsel : (Cond.selects C y y).before args s = true)
    (hcode : (Cond.code y bytes maxL ret).before args s = true) (hy : y.cls ≠ "java/lang/invoke/MethodHandle" ∧ y.cls ≠ "java/lang/invoke/VarHandle")
    {W9 : Nat} {Pre : Pt → Array Value → Prop} {Post : Pt → Array Value → Option Value → Pt → Prop} {PostX : Pt → Array Value → Addr → Pt → Prop} (hK : vx_Back l R p e below s args y 3 W9 Pre Post PostX)
    {b : Addr} {cellB : Cell} (hcell : T.heap[b]? = some cellB) (hobj : cellB.vm.isStatics = false) (hcls : s.vm.findClass C = some cellB.cls)
    {g : JFrame} (hg : g.method = m) (hsize : g.locals.size = c.maxLocals) {argsL rest : List Value} (hlen : ∀ sig, parseMethodDescriptor y.desc = some sig → argsL.length = sig.parameters.length)
    (hstack : g.stack = argsL.reverse ++ .ref b :: rest) (hW : 2 * g.monitorRoom + (rest.map fun v => v.category).sum ≤ W9) (hdg : decode c.code g.pc = .ok (.invokevirtual index, 3))
    (hpre : ∀ vm₁, s.WarmedH vm₁ → Pre ⟨T.setVm vm₁, locs, cells, slots⟩ (Value.ref b :: argsL).toArray) :
    (∃ (v : Option Value) (vm₁ : Vm) (B : Pt), s.WarmedH vm₁ ∧ Stand p l e R s m args below meth c B.U B.locs B.cells B.slots ∧ Post ⟨T.setVm vm₁, locs, cells, slots⟩ (Value.ref b :: argsL).toArray v B ∧
      ∀ target, Steps p.tables e below (B.U.setTop { g with pc := g.pc + 3, stack := v.toList ++ rest }) target → Steps p.tables e below (T.setTop g) target) ∨
    (∃ (q : Addr) (vm₁ : Vm) (B : Pt), s.WarmedH vm₁ ∧ Stand p l e R s m args below meth c B.U B.locs B.cells B.slots ∧ PostX ⟨T.setVm vm₁, locs, cells, slots⟩ (Value.ref b :: argsL).toArray q B ∧
      Steps p.tables e below (T.setTop g) ((B.U.setTop { g with stack := rest }).pushFrame (.throwing q))) := by
  obtain ⟨mk, methM, hnamed, hmethM, hstM, habM⟩ := Cond.instanceMethod_spec hinst
  obtain ⟨methM', cM, hmethM', -, -, -, -, -, -, hsigM⟩ := Cond.code_spec hnamed hcode
  cases hmethM.symm.trans hmethM'
  obtain ⟨c2, r2, m2, q1, q2, q3, q4, kP, hkP, hkPi⟩ := Cond.selects_spec hsel
  cases hcls.symm.trans q1
  cases (State.methodFound?_of_named hnamed hy).symm.trans q2
  cases hnamed.symm.trans q3
  have hselP : selectMethod e.platform s.vm cellB.cls mk = .method mk := by rw [Launch.admits_selectMethod X.admits]; exact q4
  obtain ⟨vm₁, X₁, hstep₁⟩ := X.invokevirtual hexec hown hlink hnamed hmethM hstM hkP hkPi hy (a := b) (cell := cellB) hcell
    (fun z h => by rw [h] at hobj; cases hobj) hselP hmethM habM hkP hkPi (g := g) hg (argsL := argsL) (rest := rest) (hlen _ hsigM) hstack hdg
  rcases hK m meth c ⟨T.setVm vm₁, locs, cells, slots⟩ { g with stack := rest } (.invokevirtual index) mk (Value.ref b :: argsL).toArray X₁ hg hsize hdg hW (X₁.named hnamed) (hpre vm₁ X₁.warmed) with ⟨v, B, X', hpost, hsteps⟩ | ⟨q, B, X', hpost, hsteps⟩
  · exact Or.inl ⟨v, vm₁, B, X₁.warmed, X', hpost, fun target h => hstep₁ _ fun acts => by rw [doInvoke_state]; exact hsteps.trans h⟩
  · exact Or.inr ⟨q, vm₁, B, X₁.warmed, X', hpost, hstep₁ _ fun acts => by rw [doInvoke_state]; exact hsteps⟩
theorem vx_callS (X : Stand p l e R s m args below meth c T locs cells slots) (hexec : p.tables.exec = Jvm.exec) {own : String} {index : Nat} {y : MethodName} {bytes : ByteArray} {maxL : Nat} {ret : Option FieldType}
    (hown : s.vm.findClass own = some m.cls) (hlink : (Cond.methodLink own index y).before args s = true) (hstat : (Cond.static y).before args s = true) (hinit : (Cond.initialized y.cls).before args s = true)
    (hcode : (Cond.code y bytes maxL ret).before args s = true) (hy : y.cls ≠ "java/lang/invoke/MethodHandle" ∧ y.cls ≠ "java/lang/invoke/VarHandle")
    {W9 : Nat} {Pre : Pt → Array Value → Prop} {Post : Pt → Array Value → Option Value → Pt → Prop} {PostX : Pt → Array Value → Addr → Pt → Prop} (hK : vx_Back l R p e below s args y 3 W9 Pre Post PostX)
    {g : JFrame} (hg : g.method = m) (hsize : g.locals.size = c.maxLocals) {argsL rest : List Value} (hlen : ∀ sig, parseMethodDescriptor y.desc = some sig → argsL.length = sig.parameters.length)
    (hstack : g.stack = argsL.reverse ++ rest) (hW : 2 * g.monitorRoom + (rest.map fun v => v.category).sum ≤ W9) (hdg : decode c.code g.pc = .ok (.invokestatic index, 3))
    (hpre : ∀ vm₁, s.WarmedH vm₁ → Pre ⟨T.setVm vm₁, locs, cells, slots⟩ argsL.toArray) :
    (∃ (v : Option Value) (vm₁ : Vm) (B : Pt), s.WarmedH vm₁ ∧ Stand p l e R s m args below meth c B.U B.locs B.cells B.slots ∧ Post ⟨T.setVm vm₁, locs, cells, slots⟩ argsL.toArray v B ∧
      ∀ target, Steps p.tables e below (B.U.setTop { g with pc := g.pc + 3, stack := v.toList ++ rest }) target → Steps p.tables e below (T.setTop g) target) ∨
    (∃ (q : Addr) (vm₁ : Vm) (B : Pt), s.WarmedH vm₁ ∧ Stand p l e R s m args below meth c B.U B.locs B.cells B.slots ∧ PostX ⟨T.setVm vm₁, locs, cells, slots⟩ argsL.toArray q B ∧
      Steps p.tables e below (T.setTop g) ((B.U.setTop { g with stack := rest }).pushFrame (.throwing q))) := by
  obtain ⟨mk, hnamed⟩ := Cond.code_named hcode
  obtain ⟨methM, cM, hmethM, -, -, -, -, -, -, hsigM⟩ := Cond.code_spec hnamed hcode
  have hstatic : methM.isStatic = true := Cond.static_spec hnamed hmethM hstat
  obtain ⟨kP, hkP, -⟩ := className_of_methodNamed hnamed
  have hinitP : kP.init = .initialized := Cond.initialized_spec (findClass_of_methodNamed hnamed) hkP hinit
  obtain ⟨vm₁, X₁, hstep₁⟩ := X.invokestatic hexec hown hlink hnamed hmethM hstatic hkP hinitP hy (g := g) hg (argsL := argsL) (rest := rest) (hlen _ hsigM) hstack hdg
  rcases hK m meth c ⟨T.setVm vm₁, locs, cells, slots⟩ { g with stack := rest } (.invokestatic index) mk argsL.toArray X₁ hg hsize hdg hW (X₁.named hnamed) (hpre vm₁ X₁.warmed) with ⟨v, B, X', hpost, hsteps⟩ | ⟨q, B, X', hpost, hsteps⟩
  · exact Or.inl ⟨v, vm₁, B, X₁.warmed, X', hpost, fun target h => hstep₁ _ fun acts => by rw [doInvoke_state]; exact hsteps.trans h⟩
  · exact Or.inr ⟨q, vm₁, B, X₁.warmed, X', hpost, hstep₁ _ fun acts => by rw [doInvoke_state]; exact hsteps⟩
end Calls
theorem vx_cls {s : State} {T : State} {vm₁ : Vm} {E : String} {k : ClassId} (hW : s.WarmedH vm₁) (h : (T.setVm vm₁).vm.findClass E = some k) : s.vm.findClass E = some k := by
  have h1 : vm₁.findClass E = some k := h
  rw [hW.alike.findClass] at h1
  exact h1
/-- the method's frame g, with q thrown over it -/
def vx_W (p : Program) (l : Launch) (e : Env) (R : Room) (s : State) (m : MethodId) (args : Array Value) (below : List Frame) (meth : Method) (c : Code) (H : Heap) (locs : List Loc) (cells slots : Nat) (Q : State → Prop) (g : JFrame) (q : Addr) : Prop :=
  ∀ T : State, T.heap = H → Stand p l e R s m args below meth c T locs cells slots → ∃ t, Steps p.tables e below ((T.setTop g).pushFrame (.throwing q)) t ∧ Q t
def vx_Run (p : Program) (l : Launch) (e : Env) (R : Room) (s : State) (m : MethodId) (args : Array Value) (below : List Frame) (meth : Method) (c : Code) (H : Heap) (locs : List Loc) (cells slots mc ms : Nat) (g : JFrame) (rest : List Value) (Qa : State → Outcome → State → Prop) (XC : String → State → State → Prop) (free : Addr → Prop) : Prop :=
  ∀ T : State, T.heap = H → Stand p l e R s m args below meth c T locs cells slots →
    (∃ (v : Option Value) (st₀ t T' : State) (L : List Loc), st₀.heap = H ∧ Stand p l e R s m args below meth c T' (locs ++ L) (cells + mc) (slots + ms) ∧ (∀ q ∈ L, free q.base) ∧ T'.heap = t.heap ∧ T'.vm = t.vm ∧ Qa st₀ (.returned v) t ∧
      Goes p e below T g T' { g with pc := g.pc + 3, stack := v.toList ++ rest }) ∨
    (∃ (q : Addr) (st₀ t T' : State) (L : List Loc) (E : String) (ce : Cell), st₀.heap = H ∧ Stand p l e R s m args below meth c T' (locs ++ L) (cells + mc) (slots + ms) ∧ (∀ z ∈ L, free z.base) ∧ T'.heap = t.heap ∧ T'.vm = t.vm ∧ XC E st₀ t ∧ t.heap[q]? = some ce ∧ ce.vm = .none ∧ s.vm.findClass E = some ce.cls ∧
      Steps p.tables e below (T.setTop g) ((T'.setTop { g with stack := rest }).pushFrame (.throwing q)))
def vx_X {S : Type} (px : S → Prop) (B : String → S → State → Prop) (A : Nat → Prop) : String → State → State → Prop := fun E st t => ∃ u : S, px u ∧ B E u t ∧ va_F A st t
section Runs
variable {p : Program} {l : Launch} {e : Env} {R : Room} {s : State} {m : MethodId} {args : Array Value} {below : List Frame} {meth : Method} {c : Code} {H : Heap} {locs : List Loc} {cells slots : Nat}
variable {y : MethodName} {bytes cc : ByteArray} {maxL nL mc ms n index : Nat} {ret : Option FieldType} {ws : List Cond} {rm : Room} {Pc : Array Value → State → Prop} {Qc : Array Value → State → Outcome → State → Prop} {XC : String → State → State → Prop} {free : Addr → Prop} {Ts : List Cond} {own C : String} {b : Addr} {As rest : List Value} {g : JFrame}
theorem vx_callBack (cb : CallB R s args own index y bytes maxL ret ws rm mc ms n) (hM : vx_Met l y ws rm Pc Qc XC mc ms free) (hbl : FrameBlind Pc) : vx_Back l R p e below s args y 3 8 (PreOf R mc ms Pc) (PostOf Qc mc ms free) (vx_Post XC mc ms free) := by
  obtain ⟨hrc, hrs, hfr, hlo, hws, hcw, -, hini, -⟩ := cb
  exact vx_back (bytes := bytes) (maxL := maxL) (ret := ret) hM hbl hrc hrs hfr hlo hws hcw (fun a' U hW => word_at hW (Or.inl (by first | rfl | simp [Cond.onTables, Cond.keeps, Cond.steady])) hini)
theorem vx_runV (S : CallFix p m c cc nL s args Ts own) (hM : vx_Met l y ws rm Pc Qc XC mc ms free) (cw : CallW R s args own C index y bytes maxL ret ws rm mc ms n) (hp : PreV s H C b Pc As)
    (hg : g.method = m) (hn : As.length = n) (hsize : g.locals.size = nL) (hstack : g.stack = As.reverse ++ .ref b :: rest) (hW : 2 * g.monitorRoom + (rest.map fun v => v.category).sum ≤ 8) (hdg : decode cc g.pc = .ok (.invokevirtual index, 3)) (hf : cells + mc ≤ R.cells ∧ slots + ms ≤ R.slots) :
    vx_Run p l e R s m args below meth c H locs cells slots mc ms g rest (Qc (Value.ref b :: As).toArray) XC free := by
  have hK : vx_Back l R p e below s args y 3 8 (PreOf R mc ms Pc) (PostOf Qc mc ms free) (vx_Post XC mc ms free) := vx_callBack cw.1 hM hp.1
  obtain ⟨⟨-, -, -, -, -, -, hcode, -, hy, hlen, hl⟩, hin, hse⟩ := cw
  obtain ⟨hx, hb, hml, ho, -⟩ := S
  obtain ⟨-, ⟨cellB, hcB, hoB, hclB⟩, hPc⟩ := hp
  intro T hT X
  rcases vx_callV X hx (C := C) (bytes := bytes) (maxL := maxL) (ret := ret) ho hl hin hse hcode hy hK (by rw [hT]; exact hcB) hoB hclB hg (hsize.trans hml.symm) (argsL := As) (rest := rest) (fun sig h => hn.trans (hlen sig h)) hstack hW (by rw [hb]; exact hdg)
    (fun vm₁ hW₁ => ⟨hf.1, hf.2, hPc (T.setVm vm₁) hT hW₁⟩) with ⟨v, vm₁, ⟨U', l2, c2, s2⟩, hW₁, X', ⟨g', mk, t, L, e1, e2, hq, h1, hL, h2, h3⟩, st⟩ | ⟨q, vm₁, ⟨U', l2, c2, s2⟩, hW₁, X', ⟨g', mk, t, L, E, ce, e1, e2, hq, hce, hcv, hcl, h1, hL, h2, h3⟩, st⟩
  · dsimp only [Pt.U, Pt.locs, Pt.cells, Pt.slots] at X' e1 e2 h1 h2 h3 st
    subst h1; subst h2; subst h3
    exact Or.inl ⟨v, (T.setVm vm₁).calling g' mk (Value.ref b :: As).toArray, t, U', L, hT, X', hL, e1, e2, hq, st⟩
  · dsimp only [Pt.U, Pt.locs, Pt.cells, Pt.slots] at X' e1 e2 h1 h2 h3 st hcl
    subst h1; subst h2; subst h3
    exact Or.inr ⟨q, (T.setVm vm₁).calling g' mk (Value.ref b :: As).toArray, t, U', L, E, ce, hT, X', hL, e1, e2, hq, hce, hcv, vx_cls hW₁ hcl, st⟩
theorem vx_runS (S : CallFix p m c cc nL s args Ts own) (hM : vx_Met l y ws rm Pc Qc XC mc ms free) (cw : CallB R s args own index y bytes maxL ret ws rm mc ms n ∧ (Cond.static y).before args s = true) (hp : PreS s H Pc As)
    (hg : g.method = m) (hn : As.length = n) (hsize : g.locals.size = nL) (hstack : g.stack = As.reverse ++ rest) (hW : 2 * g.monitorRoom + (rest.map fun v => v.category).sum ≤ 8) (hdg : decode cc g.pc = .ok (.invokestatic index, 3)) (hf : cells + mc ≤ R.cells ∧ slots + ms ≤ R.slots) :
    vx_Run p l e R s m args below meth c H locs cells slots mc ms g rest (Qc As.toArray) XC free := by
  have hK : vx_Back l R p e below s args y 3 8 (PreOf R mc ms Pc) (PostOf Qc mc ms free) (vx_Post XC mc ms free) := vx_callBack cw.1 hM hp.1
  obtain ⟨⟨-, -, -, -, -, -, hcode, hini, hy, hlen, hl⟩, hstt⟩ := cw
  obtain ⟨hx, hb, hml, ho, -⟩ := S
  intro T hT X
  rcases vx_callS X hx (bytes := bytes) (maxL := maxL) (ret := ret) ho hl hstt hini hcode hy hK hg (hsize.trans hml.symm) (argsL := As) (rest := rest) (fun sig h => hn.trans (hlen sig h)) hstack hW (by rw [hb]; exact hdg)
    (fun vm₁ hW₁ => ⟨hf.1, hf.2, hp.2 (T.setVm vm₁) hT hW₁⟩) with ⟨v, vm₁, ⟨U', l2, c2, s2⟩, hW₁, X', ⟨g', mk, t, L, e1, e2, hq, h1, hL, h2, h3⟩, st⟩ | ⟨q, vm₁, ⟨U', l2, c2, s2⟩, hW₁, X', ⟨g', mk, t, L, E, ce, e1, e2, hq, hce, hcv, hcl, h1, hL, h2, h3⟩, st⟩
  · dsimp only [Pt.U, Pt.locs, Pt.cells, Pt.slots] at X' e1 e2 h1 h2 h3 st
    subst h1; subst h2; subst h3
    exact Or.inl ⟨v, (T.setVm vm₁).calling g' mk As.toArray, t, U', L, hT, X', hL, e1, e2, hq, st⟩
  · dsimp only [Pt.U, Pt.locs, Pt.cells, Pt.slots] at X' e1 e2 h1 h2 h3 st hcl
    subst h1; subst h2; subst h3
    exact Or.inr ⟨q, (T.setVm vm₁).calling g' mk As.toArray, t, U', L, E, ce, hT, X', hL, e1, e2, hq, hce, hcv, vx_cls hW₁ hcl, st⟩
end Runs
section Rows
variable {p : Program} {l : Launch} {e : Env} {R : Room} {s : State} {m : MethodId} {args : Array Value} {below : List Frame} {meth : Method} {c : Code} {H : Heap} {locs : List Loc} {cells slots : Nat} {Q : State → Prop}
variable {mc ms : Nat} {free : Addr → Prop} {A0 A1 : Nat → Prop} {H0 : Heap} {a : Array Value} {pc : Nat} {ls : Array Slot} {st0 rest : List Value}
theorem vx_keep {st₀ t T' : State} {L : List Loc} (h0 : st₀.heap = H) (e1 : T'.heap = t.heap) (hS : va_S A0 H0 H locs) (hA : ∀ q, q < H.size → A1 q → A0 q) (hf : ∀ q, free q → A0 q) (hL : ∀ q ∈ L, free q.base) (hF : va_F A1 st₀ t) :
    H.size ≤ T'.heap.size ∧ (∀ q : Nat, q < H.size → ¬ A1 q → T'.heap[q]? = H[q]?) ∧ va_S A0 H0 T'.heap (locs ++ L) := by
  obtain ⟨hz, hk⟩ := hF
  rw [h0] at hz hk
  exact ⟨by rw [e1]; exact hz, fun q h1 h2 => by rw [e1]; exact hk q h1 h2,
    ⟨Nat.le_trans hS.1 (by rw [e1]; exact hz), fun q h1 h2 => by rw [e1, hk q (Nat.lt_of_lt_of_le h1 hS.1) (fun z => h2 (hA q (Nat.lt_of_lt_of_le h1 hS.1) z))]; exact hS.2.1 q h1 h2, fun q hq => by
      rcases List.mem_append.mp hq with h | h
      · exact hS.2.2 q h
      · exact hf _ (hL q h)⟩⟩
theorem vx_calli {S SX : Type} {post : Int32 → S → Prop} {px : SX → Prop} {B : S → State → Prop} {BX : String → SX → State → Prop} {AX : Nat → Prop} (hr : vx_Run p l e R s m args below meth c H locs cells slots mc ms (F0 m pc ls st0) rest (va_Qi post B A1 a) (vx_X px BX AX) free) (hS : va_S A0 H0 H locs) (hA : ∀ q, q < H.size → A1 q → A0 q) (hf : ∀ q, free q → A0 q) (hAX : ∀ q, q < H.size → AX q → A0 q)
    (kx : ∀ (E : String) (ce : Cell) (q9 : Addr) (u : SX) (t : State) (H1 : Heap) (locs1 : List Loc), t.heap = H1 → s.vm.Alike t.vm → px u → BX E u t → H.size ≤ H1.size → (∀ q : Nat, q < H.size → ¬ AX q → H1[q]? = H[q]?) → va_S A0 H0 H1 locs1 → H1[q9]? = some ce → ce.vm = .none → s.vm.findClass E = some ce.cls → vx_W p l e R s m args below meth c H1 locs1 (cells + mc) (slots + ms) Q (F0 m pc ls rest) q9)
    (kk : ∀ (r : Int32) (u : S) (t : State) (H1 : Heap) (locs1 : List Loc), t.heap = H1 → s.vm.Alike t.vm → post r u → B u t → H.size ≤ H1.size → (∀ q : Nat, q < H.size → ¬ A1 q → H1[q]? = H[q]?) → va_S A0 H0 H1 locs1 → W p l e R s m args below meth c H1 locs1 (cells + mc) (slots + ms) Q (F0 m (pc + 3) ls (.int r :: rest))) : W p l e R s m args below meth c H locs cells slots Q (F0 m pc ls st0) := by
  intro T hT X
  rcases hr T hT X with ⟨v, st₀, t, T', L, h0, X', hL, e1, e2, ⟨⟨r, u, hv, hp, hb⟩, hF⟩, st⟩ | ⟨q, st₀, t, T', L, E, ce, h0, X', hL, e1, e2, ⟨u, hp, hb, hF⟩, hce, hcv, hcl, st⟩
  · cases hv
    obtain ⟨k1, k2, k3⟩ := vx_keep h0 e1 hS hA hf hL hF
    obtain ⟨t2, a1, b1⟩ := kk r u t T'.heap (locs ++ L) e1.symm (by rw [← e2]; exact X'.warmed.alike) hp hb k1 k2 k3 T' rfl X'
    exact ⟨t2, st t2 a1, b1⟩
  · obtain ⟨k1, k2, k3⟩ := vx_keep h0 e1 hS hAX hf hL hF
    obtain ⟨t2, a1, b1⟩ := kx E ce q u t T'.heap (locs ++ L) e1.symm (by rw [← e2]; exact X'.warmed.alike) hp hb k1 k2 k3 (by rw [e1]; exact hce) hcv hcl T' rfl X'
    exact ⟨t2, st.trans a1, b1⟩
theorem vx_calll {S SX : Type} {post : Int64 → S → Prop} {px : SX → Prop} {B : S → State → Prop} {BX : String → SX → State → Prop} {AX : Nat → Prop} (hr : vx_Run p l e R s m args below meth c H locs cells slots mc ms (F0 m pc ls st0) rest (va_Ql post B A1 a) (vx_X px BX AX) free) (hS : va_S A0 H0 H locs) (hA : ∀ q, q < H.size → A1 q → A0 q) (hf : ∀ q, free q → A0 q) (hAX : ∀ q, q < H.size → AX q → A0 q)
    (kx : ∀ (E : String) (ce : Cell) (q9 : Addr) (u : SX) (t : State) (H1 : Heap) (locs1 : List Loc), t.heap = H1 → s.vm.Alike t.vm → px u → BX E u t → H.size ≤ H1.size → (∀ q : Nat, q < H.size → ¬ AX q → H1[q]? = H[q]?) → va_S A0 H0 H1 locs1 → H1[q9]? = some ce → ce.vm = .none → s.vm.findClass E = some ce.cls → vx_W p l e R s m args below meth c H1 locs1 (cells + mc) (slots + ms) Q (F0 m pc ls rest) q9)
    (kk : ∀ (r : Int64) (u : S) (t : State) (H1 : Heap) (locs1 : List Loc), t.heap = H1 → s.vm.Alike t.vm → post r u → B u t → H.size ≤ H1.size → (∀ q : Nat, q < H.size → ¬ A1 q → H1[q]? = H[q]?) → va_S A0 H0 H1 locs1 → W p l e R s m args below meth c H1 locs1 (cells + mc) (slots + ms) Q (F0 m (pc + 3) ls (.long r :: rest))) : W p l e R s m args below meth c H locs cells slots Q (F0 m pc ls st0) := by
  intro T hT X
  rcases hr T hT X with ⟨v, st₀, t, T', L, h0, X', hL, e1, e2, ⟨⟨r, u, hv, hp, hb⟩, hF⟩, st⟩ | ⟨q, st₀, t, T', L, E, ce, h0, X', hL, e1, e2, ⟨u, hp, hb, hF⟩, hce, hcv, hcl, st⟩
  · cases hv
    obtain ⟨k1, k2, k3⟩ := vx_keep h0 e1 hS hA hf hL hF
    obtain ⟨t2, a1, b1⟩ := kk r u t T'.heap (locs ++ L) e1.symm (by rw [← e2]; exact X'.warmed.alike) hp hb k1 k2 k3 T' rfl X'
    exact ⟨t2, st t2 a1, b1⟩
  · obtain ⟨k1, k2, k3⟩ := vx_keep h0 e1 hS hAX hf hL hF
    obtain ⟨t2, a1, b1⟩ := kx E ce q u t T'.heap (locs ++ L) e1.symm (by rw [← e2]; exact X'.warmed.alike) hp hb k1 k2 k3 (by rw [e1]; exact hce) hcv hcl T' rfl X'
    exact ⟨t2, st.trans a1, b1⟩
theorem vx_callf {S SX : Type} {post : UInt32 → S → Prop} {px : SX → Prop} {B : S → State → Prop} {BX : String → SX → State → Prop} {AX : Nat → Prop} (hr : vx_Run p l e R s m args below meth c H locs cells slots mc ms (F0 m pc ls st0) rest (va_Qf post B A1 a) (vx_X px BX AX) free) (hS : va_S A0 H0 H locs) (hA : ∀ q, q < H.size → A1 q → A0 q) (hf : ∀ q, free q → A0 q) (hAX : ∀ q, q < H.size → AX q → A0 q)
    (kx : ∀ (E : String) (ce : Cell) (q9 : Addr) (u : SX) (t : State) (H1 : Heap) (locs1 : List Loc), t.heap = H1 → s.vm.Alike t.vm → px u → BX E u t → H.size ≤ H1.size → (∀ q : Nat, q < H.size → ¬ AX q → H1[q]? = H[q]?) → va_S A0 H0 H1 locs1 → H1[q9]? = some ce → ce.vm = .none → s.vm.findClass E = some ce.cls → vx_W p l e R s m args below meth c H1 locs1 (cells + mc) (slots + ms) Q (F0 m pc ls rest) q9)
    (kk : ∀ (r : UInt32) (u : S) (t : State) (H1 : Heap) (locs1 : List Loc), t.heap = H1 → s.vm.Alike t.vm → post r u → B u t → H.size ≤ H1.size → (∀ q : Nat, q < H.size → ¬ A1 q → H1[q]? = H[q]?) → va_S A0 H0 H1 locs1 → W p l e R s m args below meth c H1 locs1 (cells + mc) (slots + ms) Q (F0 m (pc + 3) ls (.float r :: rest))) : W p l e R s m args below meth c H locs cells slots Q (F0 m pc ls st0) := by
  intro T hT X
  rcases hr T hT X with ⟨v, st₀, t, T', L, h0, X', hL, e1, e2, ⟨⟨r, u, hv, hp, hb⟩, hF⟩, st⟩ | ⟨q, st₀, t, T', L, E, ce, h0, X', hL, e1, e2, ⟨u, hp, hb, hF⟩, hce, hcv, hcl, st⟩
  · cases hv
    obtain ⟨k1, k2, k3⟩ := vx_keep h0 e1 hS hA hf hL hF
    obtain ⟨t2, a1, b1⟩ := kk r u t T'.heap (locs ++ L) e1.symm (by rw [← e2]; exact X'.warmed.alike) hp hb k1 k2 k3 T' rfl X'
    exact ⟨t2, st t2 a1, b1⟩
  · obtain ⟨k1, k2, k3⟩ := vx_keep h0 e1 hS hAX hf hL hF
    obtain ⟨t2, a1, b1⟩ := kx E ce q u t T'.heap (locs ++ L) e1.symm (by rw [← e2]; exact X'.warmed.alike) hp hb k1 k2 k3 (by rw [e1]; exact hce) hcv hcl T' rfl X'
    exact ⟨t2, st.trans a1, b1⟩
theorem vx_calld {S SX : Type} {post : UInt64 → S → Prop} {px : SX → Prop} {B : S → State → Prop} {BX : String → SX → State → Prop} {AX : Nat → Prop} (hr : vx_Run p l e R s m args below meth c H locs cells slots mc ms (F0 m pc ls st0) rest (va_Qd post B A1 a) (vx_X px BX AX) free) (hS : va_S A0 H0 H locs) (hA : ∀ q, q < H.size → A1 q → A0 q) (hf : ∀ q, free q → A0 q) (hAX : ∀ q, q < H.size → AX q → A0 q)
    (kx : ∀ (E : String) (ce : Cell) (q9 : Addr) (u : SX) (t : State) (H1 : Heap) (locs1 : List Loc), t.heap = H1 → s.vm.Alike t.vm → px u → BX E u t → H.size ≤ H1.size → (∀ q : Nat, q < H.size → ¬ AX q → H1[q]? = H[q]?) → va_S A0 H0 H1 locs1 → H1[q9]? = some ce → ce.vm = .none → s.vm.findClass E = some ce.cls → vx_W p l e R s m args below meth c H1 locs1 (cells + mc) (slots + ms) Q (F0 m pc ls rest) q9)
    (kk : ∀ (r : UInt64) (u : S) (t : State) (H1 : Heap) (locs1 : List Loc), t.heap = H1 → s.vm.Alike t.vm → post r u → B u t → H.size ≤ H1.size → (∀ q : Nat, q < H.size → ¬ A1 q → H1[q]? = H[q]?) → va_S A0 H0 H1 locs1 → W p l e R s m args below meth c H1 locs1 (cells + mc) (slots + ms) Q (F0 m (pc + 3) ls (.double r :: rest))) : W p l e R s m args below meth c H locs cells slots Q (F0 m pc ls st0) := by
  intro T hT X
  rcases hr T hT X with ⟨v, st₀, t, T', L, h0, X', hL, e1, e2, ⟨⟨r, u, hv, hp, hb⟩, hF⟩, st⟩ | ⟨q, st₀, t, T', L, E, ce, h0, X', hL, e1, e2, ⟨u, hp, hb, hF⟩, hce, hcv, hcl, st⟩
  · cases hv
    obtain ⟨k1, k2, k3⟩ := vx_keep h0 e1 hS hA hf hL hF
    obtain ⟨t2, a1, b1⟩ := kk r u t T'.heap (locs ++ L) e1.symm (by rw [← e2]; exact X'.warmed.alike) hp hb k1 k2 k3 T' rfl X'
    exact ⟨t2, st t2 a1, b1⟩
  · obtain ⟨k1, k2, k3⟩ := vx_keep h0 e1 hS hAX hf hL hF
    obtain ⟨t2, a1, b1⟩ := kx E ce q u t T'.heap (locs ++ L) e1.symm (by rw [← e2]; exact X'.warmed.alike) hp hb k1 k2 k3 (by rw [e1]; exact hce) hcv hcl T' rfl X'
    exact ⟨t2, st.trans a1, b1⟩
theorem vx_callv {S SX : Type} {post : S → Prop} {px : SX → Prop} {B : S → State → Prop} {BX : String → SX → State → Prop} {AX : Nat → Prop} (hr : vx_Run p l e R s m args below meth c H locs cells slots mc ms (F0 m pc ls st0) rest (va_Qv post B A1 a) (vx_X px BX AX) free) (hS : va_S A0 H0 H locs) (hA : ∀ q, q < H.size → A1 q → A0 q) (hf : ∀ q, free q → A0 q) (hAX : ∀ q, q < H.size → AX q → A0 q)
    (kx : ∀ (E : String) (ce : Cell) (q9 : Addr) (u : SX) (t : State) (H1 : Heap) (locs1 : List Loc), t.heap = H1 → s.vm.Alike t.vm → px u → BX E u t → H.size ≤ H1.size → (∀ q : Nat, q < H.size → ¬ AX q → H1[q]? = H[q]?) → va_S A0 H0 H1 locs1 → H1[q9]? = some ce → ce.vm = .none → s.vm.findClass E = some ce.cls → vx_W p l e R s m args below meth c H1 locs1 (cells + mc) (slots + ms) Q (F0 m pc ls rest) q9)
    (kk : ∀ (u : S) (t : State) (H1 : Heap) (locs1 : List Loc), t.heap = H1 → s.vm.Alike t.vm → post u → B u t → H.size ≤ H1.size → (∀ q : Nat, q < H.size → ¬ A1 q → H1[q]? = H[q]?) → va_S A0 H0 H1 locs1 → W p l e R s m args below meth c H1 locs1 (cells + mc) (slots + ms) Q (F0 m (pc + 3) ls (rest))) : W p l e R s m args below meth c H locs cells slots Q (F0 m pc ls st0) := by
  intro T hT X
  rcases hr T hT X with ⟨v, st₀, t, T', L, h0, X', hL, e1, e2, ⟨⟨u, hv, hp, hb⟩, hF⟩, st⟩ | ⟨q, st₀, t, T', L, E, ce, h0, X', hL, e1, e2, ⟨u, hp, hb, hF⟩, hce, hcv, hcl, st⟩
  · cases hv
    obtain ⟨k1, k2, k3⟩ := vx_keep h0 e1 hS hA hf hL hF
    obtain ⟨t2, a1, b1⟩ := kk u t T'.heap (locs ++ L) e1.symm (by rw [← e2]; exact X'.warmed.alike) hp hb k1 k2 k3 T' rfl X'
    exact ⟨t2, st t2 a1, b1⟩
  · obtain ⟨k1, k2, k3⟩ := vx_keep h0 e1 hS hAX hf hL hF
    obtain ⟨t2, a1, b1⟩ := kx E ce q u t T'.heap (locs ++ L) e1.symm (by rw [← e2]; exact X'.warmed.alike) hp hb k1 k2 k3 (by rw [e1]; exact hce) hcv hcl T' rfl X'
    exact ⟨t2, st.trans a1, b1⟩
end Rows
section Ends
variable {p : Program} {l : Launch} {e : Env} {R : Room} {s : State} {m : MethodId} {args : Array Value} {below : List Frame} {meth : Method} {c : Code} {H : Heap} {locs : List Loc} {cells slots : Nat} {Q : State → Prop}
variable {mc ms : Nat} {free : Addr → Prop} {A0 A1 : Nat → Prop} {H0 : Heap} {a : Array Value} {ls : Array Slot} {st0 rest : List Value}
variable {Qc : Array Value → State → Outcome → State → Prop} {XC : String → State → State → Prop}
/-- what a body that may throw owes at its end -/
def vx_MQ (below : List Frame) (Qc : Array Value → State → Outcome → State → Prop) (XC : String → State → State → Prop) (a : Array Value) (s : State) (mc ms : Nat) (free : Addr → Prop) : State → Prop := fun t =>
  ∃ o, t.status = .running ∧ Ended t below o ∧ vx_Q Qc XC mc ms free a s o t
theorem vx_ret {g : JFrame} {mc ms : Nat} (k : W p l e R s m args below meth c H locs cells slots (MQ below Qc args s mc ms free) g) : W p l e R s m args below meth c H locs cells slots (vx_MQ below Qc XC args s mc ms free) g := by
  intro T hT X
  obtain ⟨t, a1, o, b1, b2, b3, b4⟩ := k T hT X
  exact ⟨t, a1, o, b1, b2, Or.inl ⟨b3, b4⟩⟩
/-- not caught here: it goes on to the caller -/
theorem vx_widen {g : JFrame} {q : Addr} {k n : Nat} (h1 : cells ≤ k) (h2 : slots ≤ n) (kk : vx_W p l e R s m args below meth c H locs k n Q g q) : vx_W p l e R s m args below meth c H locs cells slots Q g q := fun T hT X => kk T hT (stand_widen X h1 h2)
theorem vx_out {pc : Nat} {E : String} {ce : Cell} {q : Addr} {mc ms : Nat} (hout : ∀ x ∈ c.exceptionTable.toList, covers x pc = false) (hlocks : meth.locks = false) (hcell : H[q]? = some ce) (hv : ce.vm = .none) (hcl : s.vm.findClass E = some ce.cls)
    (hx : ∀ t : State, t.heap = H → s.vm.Alike t.vm → XC E s t) (hf : ∀ z ∈ locs, free z.base) (hc : cells ≤ mc) (hs : slots ≤ ms) :
    vx_W p l e R s m args below meth c H locs cells slots (vx_MQ below Qc XC args s mc ms free) (F0 m pc ls rest) q := by
  intro T hT X
  obtain ⟨st1, hrun, hend, hW, hsm⟩ := X.leaveThrown q (g := F0 m pc ls rest) rfl rfl rfl hout hlocks
  have hcell9 : (T.setFrames (.throwing q :: below)).heap[q]? = some ce := by
    show T.heap[q]? = some ce
    rw [hT]; exact hcell
  exact ⟨_, st1, .threw q, hrun, hend, Or.inr ⟨q, rfl, E, ce, locs, hx _ hT hW.alike, hcell9, hv, hcl, hW, hsm.mono hc hs, hf⟩⟩
theorem vx_frame {U : State} {k n : Nat} (h : s.sameButNew ({ U with vm := s.vm } : State) locs k n) : s.heap.size ≤ U.heap.size ∧ ∀ q : Nat, q < s.heap.size → (∀ z ∈ locs, z.base ≠ q) → U.heap[q]? = s.heap[q]? := by
  obtain ⟨-, h2, -, -, -, h6⟩ := h
  refine ⟨h2, fun q hq hz => ?_⟩
  obtain ⟨c9, e1, e2, e3, e4⟩ := h6 q _ (Array.getElem?_eq_getElem hq)
  have hs : c9.slots = (s.heap[q]).slots := Array.ext_getElem? fun i => e4 i fun hm => hz _ hm rfl
  have h9 : c9 = s.heap[q] := by
    rw [hs] at e2
    exact e2
  have e5 : U.heap[q]? = some c9 := e1
  rw [e5, h9, Array.getElem?_eq_getElem hq]
/-- the words of a throw but the four that speak of the heap -/
def vx_no (w : Cond) : Bool := decide (w ≠ .isRef (.static Bundle.tN "UNASSIGNED_STACK" Bundle.steD)) && decide (w ≠ .isRef (.static Bundle.tN "SUPPRESSED_SENTINEL" Bundle.listD)) && decide (w ≠ .laysStatic Bundle.tN "UNASSIGNED_STACK" Bundle.steD) && decide (w ≠ .laysStatic Bundle.tN "SUPPRESSED_SENTINEL" Bundle.listD)
def vx_at0 (own : String) (ic : Nat) (X : String) (names : List String) : List Cond := (Bundle.ownAtoms0 own ic X names).filter vx_no
/-- a word that the tables alone decide, or a good one -/
def vx_ot (w : Cond) : Bool := w.onTables || goodWord w
theorem vx_ot_at {args a' : Array Value} {s U : State} {w : Cond} (hW : s.WarmedH U.vm) (hvm : s.vm = U.vm) (hg : vx_ot w = true) (h : w.before args s = true) : w.before a' U = true := by
  simp only [vx_ot, Bool.or_eq_true] at hg
  rcases hg with hg | hg
  · exact va_tabs hg hvm h
  · exact word_at hW (good_of_word hg) h
/-- a list's words: the good ones out of the method's own list, the others by premises of their own -/
theorem vx_hat {args : Array Value} {s : State} {L B : List Cond} (h1 : ∀ w ∈ L.filter goodWord, w.before args s = true) (h2 : ∀ w ∈ L.filter (fun w => !goodWord w), w ∈ B) (h3 : ∀ w ∈ B, w.before args s = true) : ∀ w ∈ L, w.before args s = true := by
  intro w hw
  by_cases g : goodWord w = true
  · exact h1 w (List.mem_filter.mpr ⟨hw, g⟩)
  · refine h3 w (h2 w (List.mem_filter.mpr ⟨hw, ?_⟩))
    show (!goodWord w) = true
    cases hgw : goodWord w
    · rfl
    · exact absurd hgw g
theorem vx_c {args : Array Value} {s : State} {w : Cond} {B : List Cond} (h : w.before args s = true) (t : ∀ w ∈ B, w.before args s = true) : ∀ w' ∈ w :: B, w'.before args s = true := fun w' h' => (List.mem_cons.mp h').elim (fun e => by rw [e]; exact h) (t w')
theorem vx_n {args : Array Value} {s : State} : ∀ w ∈ ([] : List Cond), w.before args s = true := fun _ h => nomatch h
theorem vx_own {args : Array Value} {s : State} {L : List Cond} (h1 : ∀ w ∈ L.filter vx_no, w.before args s = true)
    (hU : (Cond.isRef (.static Bundle.tN "UNASSIGNED_STACK" Bundle.steD)).before args s = true) (hN : (Cond.isRef (.static Bundle.tN "SUPPRESSED_SENTINEL" Bundle.listD)).before args s = true)
    (lU : (Cond.laysStatic Bundle.tN "UNASSIGNED_STACK" Bundle.steD).before args s = true) (lN : (Cond.laysStatic Bundle.tN "SUPPRESSED_SENTINEL" Bundle.listD).before args s = true) : ∀ w ∈ L, w.before args s = true := by
  intro w hw
  by_cases e1 : w = .isRef (.static Bundle.tN "UNASSIGNED_STACK" Bundle.steD)
  · rw [e1]; exact hU
  · by_cases e2 : w = .isRef (.static Bundle.tN "SUPPRESSED_SENTINEL" Bundle.listD)
    · rw [e2]; exact hN
    · by_cases e3 : w = .laysStatic Bundle.tN "UNASSIGNED_STACK" Bundle.steD
      · rw [e3]; exact lU
      · by_cases e4 : w = .laysStatic Bundle.tN "SUPPRESSED_SENTINEL" Bundle.listD
        · rw [e4]; exact lN
        · exact h1 w (List.mem_filter.mpr ⟨hw, by unfold vx_no; rw [decide_eq_true e1, decide_eq_true e2, decide_eq_true e3, decide_eq_true e4]; rfl⟩)
/-- where a static field lies, its class's statics cell in H -/
def vx_L (C n d : String) (A : Nat → Prop) (U : State) (H : Heap) : Prop := ∃ (c : ClassId) (k : Class) (i : Nat) (f : Field) (a : Nat) (cell : Cell), U.vm.findClass C = some c ∧ U.fieldFound? C n d = some (c, k, i, f) ∧ f.isStatic = true ∧ k.statics = some a ∧ H[a]? = some cell ∧ cell.vm.isStatics = true ∧ cell.cls = c ∧ f.slot < cell.slots.size ∧ k.staticTypes[f.slot]? = some f.type ∧ ¬ A a
theorem vx_L.moved {C n d : String} {A : Nat → Prop} {u U : State} {H : Heap} (hvm : u.vm.Alike U.vm) (h : vx_L C n d A u H) : vx_L C n d A U H := by
  obtain ⟨c, k, i, f, a, cell, h1, h2, h3, h4, h5, h6, h7, h8, h9, h10⟩ := h
  obtain ⟨k', hi', he⟩ := State.fieldFound?_setVm hvm h2
  exact ⟨c, k', i, f, a, cell, by rw [hvm.findClass]; exact h1, hi', h3, by rw [he]; exact h4, h5, h6, h7, h8, by rw [he]; exact h9, h10⟩
theorem vx_L.kept {C n d : String} {A : Nat → Prop} {U : State} {H H1 : Heap} (h : vx_L C n d A U H) (hq : ∀ a : Nat, a < H.size → ¬ A a → H1[a]? = H[a]?) : vx_L C n d A U H1 := by
  obtain ⟨c, k, i, f, a, cell, h1, h2, h3, h4, h5, h6, h7, h8, h9, h10⟩ := h
  exact ⟨c, k, i, f, a, cell, h1, h2, h3, h4, by rw [hq a (Array.getElem?_eq_some_iff.mp h5).1 h10]; exact h5, h6, h7, h8, h9, h10⟩
theorem vx_L.narrow {C n d : String} {A B : Nat → Prop} {U : State} {H : Heap} (h : vx_L C n d A U H) (hAB : ∀ q, B q → A q) : vx_L C n d B U H := by
  obtain ⟨c, k, i, f, a, cell, h1, h2, h3, h4, h5, h6, h7, h8, h9, h10⟩ := h
  exact ⟨c, k, i, f, a, cell, h1, h2, h3, h4, h5, h6, h7, h8, h9, fun z => h10 (hAB _ z)⟩
theorem vx_L.word {C n d : String} {A : Nat → Prop} {s : State} {args : Array Value} (h : vx_L C n d A s s.heap) : (Cond.laysStatic C n d).before args s = true := by
  obtain ⟨c, k, i, f, a, cell, h1, h2, h3, h4, h5, h6, h7, h8, h9, -⟩ := h
  show (Cond.laysStatic C n d).holds args s none s [] = true
  exact Cond.laysStatic_of h1 h2 h3 h4 h5 h6 h7 h8 h9
/-- .. and what it holds: null or some reference -/
def vx_Zq (C n d : String) (A : Nat → Prop) (U : State) (H : Heap) : Prop := va_Zq C n d A U H ∧ vx_L C n d A U H
theorem vx_Zq.moved {C n d : String} {A : Nat → Prop} {u U : State} {H : Heap} (hvm : u.vm.Alike U.vm) (h : vx_Zq C n d A u H) : vx_Zq C n d A U H := ⟨va_Zq.moved hvm h.1, vx_L.moved hvm h.2⟩
theorem vx_Zq.kept {C n d : String} {A : Nat → Prop} {U : State} {H H1 : Heap} (h : vx_Zq C n d A U H) (hq : ∀ a : Nat, a < H.size → ¬ A a → H1[a]? = H[a]?) : vx_Zq C n d A U H1 := ⟨va_Zq.kept h.1 hq, vx_L.kept h.2 hq⟩
theorem vx_Zq.narrow {C n d : String} {A B : Nat → Prop} {U : State} {H : Heap} (h : vx_Zq C n d A U H) (hAB : ∀ q, B q → A q) : vx_Zq C n d B U H := ⟨va_Zq.narrow h.1 hAB, vx_L.narrow h.2 hAB⟩
theorem vx_Zqof {args : Array Value} {s : State} {C n d : String} {A : Nat → Prop} (hl : (Cond.laysStatic C n d).before args s = true) (hini : (Cond.initialized C).before args s = true) (h : (Cond.isRef (.static C n d)).before args s = true) (hA : ∀ a : Nat, a < s.heap.size → ¬ A a) : vx_Zq C n d A s s.heap := by
  refine ⟨va_Zqof hl hini h hA, ?_⟩
  obtain ⟨c, k, i, f, a, cell, h1, h2, h3, h4, h5, h6, h7, h8, h9⟩ := Cond.laysStatic_spec hl
  exact ⟨c, k, i, f, a, cell, h1, h2, h3, h4, h5, h6, h7, h8, h9, hA a (Array.getElem?_eq_some_iff.mp h5).1⟩
theorem vx_isRef {C n d : String} {v : Value} {A : Nat → Prop} {s : State} {args : Array Value} (h : va_Z C n d v A s s.heap) (hv : v.isRef = true) : (Cond.isRef (.static C n d)).before args s = true := by
  obtain ⟨cf, kf, fi, f, a, cell, h1, h2, h3, h4, h5, h6, h7, -⟩ := h
  have he : (Term.static C n d).eval args s none [] s = some v := by
    simp [Term.eval, State.fieldNamed?, h1, h2, h4, h5, h6, h7]
  simp only [Cond.before, Cond.holds, Cond.value, he]
  cases v <;> simp_all [Value.isRef]
theorem vx_isRefq {C n d : String} {A : Nat → Prop} {s : State} {args : Array Value} (h : va_Zq C n d A s s.heap) : (Cond.isRef (.static C n d)).before args s = true := by
  rcases h with h | ⟨t, h⟩
  · exact vx_isRef h rfl
  · exact vx_isRef h rfl
/-- the same frame, seen from here: as if the method were called anew in this heap -/
theorem vx_rebase {T : State} (X : Stand p l e R s m args below meth c T locs cells slots) {R' : Room} (hf : R'.frames ≤ R.frames) (hl : R'.locals ≤ R.locals) (hc : cells + R'.cells ≤ R.cells) (hs : slots + R'.slots ≤ R.slots) :
    Stand p l e R' ((T.setVm s.vm).setFrames (.invoking m args :: below)) m args below meth c T [] 0 0 := by
  have htop : (T.setVm s.vm).topJava?.isSome := X.here.top
  have hF : ((T.setVm s.vm).setFrames (.invoking m args :: below)).frames = .invoking m args :: below := State.frames_setFrames _ (State.cur_lt_of_top htop)
  obtain ⟨g₀, hg0⟩ := Option.isSome_iff_exists.mp htop
  obtain ⟨r, hr⟩ := State.topJava?_eq_some.mp hg0
  have hl9 : e.platform.stackLimits (T.setVm s.vm).me = e.platform.stackLimits s.me := X.limits
  have hb9 : (T.setVm s.vm).me.stackBytes = s.me.stackBytes := X.bytes
  refine ⟨X.admits, X.cas, X.clock, hF, ?_, X.hears, X.method, X.code, X.here, X.tail, X.warmed, ?_, ?_, ?_⟩
  · have h := X.room
    have hU : ((T.setVm s.vm).setFrames (.invoking m args :: below)).localsInUse = s.localsInUse := by
      rw [State.localsInUse_invoking hF (meth := meth) (c := c) X.method X.code, State.localsInUse_invoking X.frames X.method X.code]
    simp only [State.hasRoom, Bool.and_eq_true, decide_eq_true_eq] at h ⊢
    obtain ⟨⟨⟨⟨h1, h2, h3, h4, h5, h6⟩, h7⟩, h8⟩, h9⟩ := h
    rw [X.frames, List.length_cons] at h2 h3
    have q1 := X.heapSize
    have q2 := X.used
    simp only [hF, hU, List.length_cons, State.stackLimits_setFrames, State.stackBytes_setFrames, hl9, hb9]
    refine ⟨⟨⟨⟨by omega, by omega, by omega, by omega, by omega, h6⟩, ?_⟩, ?_⟩, X.book⟩
    · show T.heap.size + R'.cells ≤ e.platform.maxCells
      omega
    · show T.slotsUsed + R'.slots ≤ e.platform.maxSlots
      omega
  · rw [State.stackLimits_setFrames]; rfl
  · rw [State.stackBytes_setFrames]; rfl
  · refine ⟨?_, Nat.le_refl _, Nat.le_refl _, ?_, ?_, fun a c9 h9 => ⟨c9, h9, rfl, rfl, fun _ _ => rfl⟩⟩
    · obtain ⟨t, ht, -⟩ := State.frames_cons hr
      show T.setVm s.vm = { ((T.setVm s.vm).setFrames (.invoking m args :: below)).setFrames (T.setVm s.vm).frames with heap := T.heap, slotsUsed := T.slotsUsed }
      rw [State.setFrames_setFrames, State.setFrames_self ht]
      rfl
    · show T.slotsUsed = T.slotsUsed + ((T.heap.toList.drop T.heap.size).map (·.slots.size)).sum
      rw [List.drop_eq_nil_of_le (Nat.le_of_eq Array.length_toList)]
      rfl
    · show ((T.heap.toList.drop T.heap.size).map (·.slots.size)).sum ≤ 0
      rw [List.drop_eq_nil_of_le (Nat.le_of_eq Array.length_toList)]
      exact Nat.le_refl _
/-- 'throw new E()': new; dup; invokespecial; athrow -/
theorem vx_throw0 {cc : ByteArray} {pc : Nat} (hexec : p.tables.exec = Jvm.exec) (hb : c.code = cc) (hl : l.stackTraces = false) {own cls : String} {names : List String} {ik ic mc ms : Nat} {A : Nat → Prop}
    (hown : s.vm.findClass own = some m.cls) (hcls : Bundle.fit cls = true) (hnames : ∀ n ∈ names, Bundle.fit n = true)
    (hk : (Cond.classLink own ik cls).before args s = true) (hini : (Cond.initialized cls).before args s = true) (hat : ∀ w ∈ vx_at0 own ic cls names, w.before args s = true)
    (hgood : ∀ w ∈ Cond.classLink own ik cls :: Cond.initialized cls :: vx_at0 own ic cls names, vx_ot w = true)
    (hU : vx_Zq Bundle.tN "UNASSIGNED_STACK" Bundle.steD A s s.heap) (hN : vx_Zq Bundle.tN "SUPPRESSED_SENTINEL" Bundle.listD A s s.heap) (hS : va_S A s.heap H locs) (hsize : ls.size = c.maxLocals)
    (d0 : decode cc pc = .ok (.new ik, 3)) (d3 : decode cc (pc + 3) = .ok (.dup, 1)) (d4 : decode cc (pc + 4) = .ok (.invokespecial ic, 3)) (d7 : decode cc (pc + 7) = .ok (.athrow, 1))
    (hout : ∀ x ∈ c.exceptionTable.toList, covers x (pc + 7) = false)
    (hRframes : names.length + 3 < R.frames) (hRlocals : (rest.map fun v => v.category).sum + (13 * (names.length + 1) + 42) ≤ R.locals) (hRcells : cells + 1 ≤ R.cells) (hRslots : slots + 6 ≤ R.slots) (hlocks : meth.locks = false)
    (hx : ∀ t : State, s.vm.Alike t.vm → H.size ≤ t.heap.size → (∀ q : Nat, q < H.size → t.heap[q]? = H[q]?) → XC cls s t)
    (hf : ∀ z ∈ locs, free z.base) (hc : cells + 1 ≤ mc) (hs : slots + 6 ≤ ms) :
    W p l e R s m args below meth c H locs cells slots (vx_MQ below Qc XC args s mc ms free) (F0 m pc ls rest) := by
  intro T hT X
  have htr : e.platform.stackTraces = false := (show e.platform.stackTraces = l.stackTraces by rw [X.admits.platform]).trans hl
  have Y := vx_rebase X (R' := { frames := R.frames, locals := R.locals, cells := 1, slots := 6 }) (Nat.le_refl _) (Nat.le_refl _) hRcells hRslots
  obtain ⟨s', hA⟩ : ∃ z, z = (T.setVm s.vm).setFrames (.invoking m args :: below) := ⟨_, rfl⟩
  rw [← hA] at Y
  have hvm : s'.vm = s.vm := by rw [hA]; rfl
  have hhp : s'.heap = H := by rw [hA]; exact hT
  have hW0 : s.WarmedH s'.vm := by rw [hvm]; exact State.WarmedH.refl s
  have hat' : ∀ w ∈ vx_at0 own ic cls names, w.before args s' = true := fun w hw => vx_ot_at hW0 hvm.symm (hgood w (List.mem_cons_of_mem _ (List.mem_cons_of_mem _ hw))) (hat w hw)
  have hk' : (Cond.classLink own ik cls).before args s' = true := vx_ot_at hW0 hvm.symm (hgood _ List.mem_cons_self) hk
  have hini' : (Cond.initialized cls).before args s' = true := vx_ot_at hW0 hvm.symm (hgood _ (List.mem_cons_of_mem _ List.mem_cons_self)) hini
  have hU' : vx_Zq Bundle.tN "UNASSIGNED_STACK" Bundle.steD A s' s'.heap := by rw [hhp]; exact vx_Zq.moved hW0.alike (hU.kept hS.2.1)
  have hN' : vx_Zq Bundle.tN "SUPPRESSED_SENTINEL" Bundle.listD A s' s'.heap := by rw [hhp]; exact vx_Zq.moved hW0.alike (hN.kept hS.2.1)
  have h : ∀ w ∈ Bundle.ownAtoms0 own ic cls names, w.before args s' = true := vx_own hat' (vx_isRefq hU'.1) (vx_isRefq hN'.1) hU'.2.word hN'.2.word
  have hown' : s'.vm.findClass own = some m.cls := by rw [hvm]; exact hown
  have hins : (Cond.instantiable cls 6).before args s' = true := h _ (by simp [Bundle.ownAtoms0])
  obtain ⟨vm₁, cX, kX, hfX, hkX, -, -, X₁, st1⟩ := Y.newCold hexec (own := own) (C := cls) (index := ik) (n := 6) hown' hk' hins hini'
    (g := F0 m pc ls rest) rfl (by rw [hb]; exact d0) (Nat.le_refl _) (Nat.le_refl _)
  generalize hT1 : (T.setVm vm₁).pushCell { cls := cX, slots := kX.instanceTypes.map defaultValue, vm := .none } = T1 at X₁ st1
  have hcat : (Value.ref T.heap.size).category = 1 := rfl
  have hcellA : T1.heap[T.heap.size]? = some (freshCell cX kX) := by rw [← hT1]; exact State.heap_pushCell_size _ _
  have d3' : decode c.code (pc + 3) = .ok (.dup, 1) := by rw [hb]; exact d3
  obtain ⟨U, hsteps, hrun, hend, hW, hsame, ce, hce, hO⟩ := X₁.ctorThrow0 hexec htr (own := own) (cls := cls) (names := names) (ic := ic) hown' hcls hnames h (fun x hx => nomatch hx) hfX hkX hcellA (by rw [hhp, hT]; exact Nat.le_refl _)
    (g := { method := m, pc := pc + 4, locals := ls, stack := .ref T.heap.size :: .ref T.heap.size :: rest, locked := none }) rfl hsize rfl rfl (rest := rest) rfl
    (by rw [hb]; exact d4) (by rw [hb]; exact d7) hout hRframes (by simp only [List.map_cons, List.sum_cons, hcat]; omega) hlocks
  obtain ⟨f1, f2⟩ := vx_frame hsame
  rw [hhp] at f1 f2
  have hWs : s.WarmedH U.vm := State.WarmedH.trans hW0 hW
  have hcl : s.vm.findClass cls = some ce.cls := by
    have h9 := hO.cls
    rw [hvm] at h9
    exact h9
  have hall : s.sameButNew ({ U with vm := s.vm } : State) locs mc ms := by
    subst hA
    obtain ⟨e1, e2⟩ := hsame
    rw [State.setFrames_setFrames] at e1
    have h2 : (T.setVm s.vm).sameButNew ({ U with vm := s.vm } : State) [] (0 + 1) (0 + 6) := ⟨e1, e2⟩
    have h3 := X.same.trans h2
    rw [List.append_nil] at h3
    exact h3.mono hc hs
  refine ⟨U, ?_, .threw T.heap.size, hrun, hend, Or.inr ⟨T.heap.size, rfl, cls, ce, locs, hx U hWs.alike f1 (fun q hq => f2 q hq (fun z hz => nomatch hz)), hce, hO.vm, hcl, hWs, hall, hf⟩⟩
  refine st1 _ ?_
  show Steps p.tables e below (T1.setTop { method := m, pc := pc + 3, locals := ls, stack := .ref T.heap.size :: rest, locked := none }) _
  jvm_step X₁.here [X₁.here.top, hexec, d3', Value.category]
  exact hsteps
end Ends
section Bodies
variable {l : Launch}
theorem vx_ofW {y : MethodName} {ws ws' : List Cond} {rm : Room} {Pc : Array Value → State → Prop} {Qc : Array Value → State → Outcome → State → Prop} {XC : String → State → State → Prop} {mc ms : Nat} {free : Addr → Prop} {cc : ByteArray} {maxL : Nat} {ret : Option FieldType}
    (hy : plainName y.cls = true) (hw : ws = Cond.code y cc maxL ret :: ws')
    (body : ∀ p e s m args below meth c s₁, BodyLoose p l y (headSpec ws rm) cc maxL ret e s m args below meth c s₁ → c.maxLocals = maxL → (∀ x ∈ c.exceptionTable.toList, False) → Pc args s →
      W p l e (headSpec ws rm).room s m args below meth c s.heap [] 0 0 (vx_MQ below Qc XC args s mc ms free) (entryFrame m args maxL)) : vx_Met l y ws rm Pc Qc XC mc ms free := by
  refine MetFree.of_bodyS (code := cc) (maxLocals := maxL) (ret := ret) hy ?_ ?_
  · intro args s m h hn
    obtain ⟨meth, c, h1, h2, h3, h4, h5, h6, -, -⟩ := Cond.code_spec hn (atoms_spec (ws := ws) h _ (by rw [hw]; exact List.mem_cons_self))
    exact ⟨meth, c, h1, h2, h3, h4, h5, h6⟩
  · intro p e s m args below meth c s₁ B hml hP _
    have hh0 : s₁.heap = s.heap := by rw [B.state]; rfl
    have ht : ∀ x ∈ c.exceptionTable.toList, False := by
      obtain ⟨meth9, c9, h1, h2, -, -, -, -, h7, -⟩ := Cond.code_spec B.named (atoms_spec (ws := ws) B.pre _ (by rw [hw]; exact List.mem_cons_self))
      cases Option.some.inj (h1.symm.trans B.method)
      cases Option.some.inj (h2.symm.trans (Stand.of_body B).code)
      intro x hx
      rw [Array.isEmpty_iff.mp h7] at hx
      cases hx
    obtain ⟨t, a1, o, b1, b2, b3⟩ := body p e s m args below meth c s₁ B hml ht hP s₁ hh0 (Stand.of_body B)
    exact ⟨t, o, a1, b1, b2, b3⟩
/-- the table of a body with handlers -/
theorem vx_table {p : Program} {x y : MethodName} {S : Spec} {cc bytes : ByteArray} {maxL maxL' : Nat} {ret ret' : Option FieldType} {e : Env} {s s₁ : State} {m : MethodId} {args : Array Value} {below : List Frame} {meth : Method} {c : Code} {hh : List (Nat × Nat × Nat × Nat)}
    (B : BodyLoose p l y S cc maxL ret e s m args below meth c s₁) (h : (Cond.codeWith y bytes maxL' ret' hh).before args s = true) : c.exceptionTable.toList = tableOf hh := by
  obtain ⟨m9, meth9, c9, hn9, h1, h2, -, -, h6, -⟩ := Cond.codeWith_spec h
  cases Option.some.inj (hn9.symm.trans B.named)
  cases Option.some.inj (h1.symm.trans B.method)
  cases Option.some.inj (h2.symm.trans (Stand.of_body B).code)
  rw [← h6, table_eq]
end Bodies
end VXA
/-! ===== END ===== -/
/-! ===== BEGIN a static call of a method with an exception table ===== -/
section VXS
variable {p : Program} {l : Launch} {e : Env} {R : Room} {s : State} {m : MethodId} {args : Array Value} {below : List Frame} {meth : Method} {c : Code} {T : State} {H : Heap} {locs : List Loc} {cells slots : Nat}
abbrev vx_CSW (R : Room) (s : State) (args : Array Value) (own : String) (index : Nat) (y : MethodName) (bytes : ByteArray) (maxL : Nat) (ret : Option FieldType) (hh : List (Nat × Nat × Nat × Nat)) (ws : List Cond) (rm : Room) (mc ms n : Nat) : Prop :=
  (rm.cells = mc ∧ rm.slots = ms ∧ rm.frames + 1 ≤ R.frames ∧ 8 + (maxL + 11) + rm.locals ≤ R.locals ∧ (∀ w ∈ ws, ∀ (a' : Array Value) (U : State), s.WarmedH U.vm → w.before a' U = true) ∧ Cond.codeWith y bytes maxL ret hh ∈ ws) ∧
  (Cond.codeWith y bytes maxL ret hh).before args s = true ∧ (Cond.initialized y.cls).before args s = true ∧ (y.cls ≠ "java/lang/invoke/MethodHandle" ∧ y.cls ≠ "java/lang/invoke/VarHandle") ∧
  (∀ sig, parseMethodDescriptor y.desc = some sig → n = sig.parameters.length) ∧ (Cond.methodLink own index y).before args s = true ∧ (Cond.static y).before args s = true
theorem vx_cwSW {own : String} {index maxL mc ms : Nat} {y : MethodName} {bytes : ByteArray} {ret : Option FieldType} {hh : List (Nat × Nat × Nat × Nat)} {Ts ws ws' : List Cond} {rm : Room} (n : Nat) (ht : ∀ w ∈ Ts, w.before args s = true) (hT : GoodIn Ts (va_wsS own index y ws)) (hw : ws = Cond.codeWith y bytes maxL ret hh :: ws') (hrc : rm.cells = mc) (hrs : rm.slots = ms)
    (hd : y.cls ≠ "java/lang/invoke/MethodHandle" ∧ y.cls ≠ "java/lang/invoke/VarHandle" ∧ (parseMethodDescriptor y.desc).map (fun d => d.parameters.length) = some n) (hR : rm.frames + 1 ≤ R.frames ∧ 8 + (maxL + 11) + rm.locals ≤ R.locals) :
    vx_CSW R s args own index y bytes maxL ret hh ws rm mc ms n := by
  have ok : ∀ w ∈ va_wsS own index y ws, w.before args s = true := fun w h => ht w (hT w h).1
  have hG : GoodIn Ts ws := fun w h => hT w (by unfold va_wsS; exact List.mem_append_right _ h)
  have hc : Cond.codeWith y bytes maxL ret hh ∈ ws := by rw [hw]; exact List.mem_cons_self
  refine ⟨⟨hrc, hrs, hR.1, hR.2, pay_in ht hG, hc⟩, ht _ (hG _ hc).1, ok _ (by simp [va_wsS]), ⟨hd.1, hd.2.1⟩, fun sig h => ?_, ok _ (by simp [va_wsS]), ok _ (by simp [va_wsS])⟩
  have h2 := hd.2.2
  rw [h] at h2
  exact (Option.some.inj h2).symm
theorem vx_callSW (X : Stand p l e R s m args below meth c T locs cells slots) (hexec : p.tables.exec = Jvm.exec) {own : String} {index : Nat} {y : MethodName} {bytes : ByteArray} {maxL : Nat} {ret : Option FieldType} {hh : List (Nat × Nat × Nat × Nat)}
    (hown : s.vm.findClass own = some m.cls) (hlink : (Cond.methodLink own index y).before args s = true) (hstat : (Cond.static y).before args s = true) (hinit : (Cond.initialized y.cls).before args s = true)
    (hcode : (Cond.codeWith y bytes maxL ret hh).before args s = true) (hy : y.cls ≠ "java/lang/invoke/MethodHandle" ∧ y.cls ≠ "java/lang/invoke/VarHandle")
    {W9 : Nat} {Pre : Pt → Array Value → Prop} {Post : Pt → Array Value → Option Value → Pt → Prop} (hK : Back l R p e below s args y 3 W9 Pre Post)
    {g : JFrame} (hg : g.method = m) (hsize : g.locals.size = c.maxLocals) {argsL rest : List Value} (hlen : ∀ sig, parseMethodDescriptor y.desc = some sig → argsL.length = sig.parameters.length)
    (hstack : g.stack = argsL.reverse ++ rest) (hW : 2 * g.monitorRoom + (rest.map fun v => v.category).sum ≤ W9) (hdg : decode c.code g.pc = .ok (.invokestatic index, 3))
    (hpre : ∀ vm₁, s.WarmedH vm₁ → Pre ⟨T.setVm vm₁, locs, cells, slots⟩ argsL.toArray) :
    ∃ (v : Option Value) (vm₁ : Vm) (B : Pt), s.WarmedH vm₁ ∧ Stand p l e R s m args below meth c B.U B.locs B.cells B.slots ∧ Post ⟨T.setVm vm₁, locs, cells, slots⟩ argsL.toArray v B ∧
      ∀ target, Steps p.tables e below (B.U.setTop { g with pc := g.pc + 3, stack := v.toList ++ rest }) target → Steps p.tables e below (T.setTop g) target := by
  obtain ⟨mk, methM, cM, hnamed, hmethM, -, -, -, -, -, -, hsigM⟩ := Cond.codeWith_spec hcode
  have hstatic : methM.isStatic = true := Cond.static_spec hnamed hmethM hstat
  obtain ⟨kP, hkP, -⟩ := className_of_methodNamed hnamed
  have hinitP : kP.init = .initialized := Cond.initialized_spec (findClass_of_methodNamed hnamed) hkP hinit
  obtain ⟨vm₁, X₁, hstep₁⟩ := X.invokestatic hexec hown hlink hnamed hmethM hstatic hkP hinitP hy (g := g) hg (argsL := argsL) (rest := rest) (hlen _ hsigM) hstack hdg
  obtain ⟨v, B, X', hpost, hsteps⟩ := hK m meth c ⟨T.setVm vm₁, locs, cells, slots⟩ { g with stack := rest } (.invokestatic index) mk argsL.toArray X₁ hg hsize hdg hW (X₁.named hnamed) (hpre vm₁ X₁.warmed)
  exact ⟨v, vm₁, B, X₁.warmed, X', hpost, fun target h => hstep₁ _ fun acts => by rw [doInvoke_state]; exact hsteps.trans h⟩
theorem vx_runSW {y : MethodName} {bytes cc : ByteArray} {maxL nL mc ms n index : Nat} {ret : Option FieldType} {hh : List (Nat × Nat × Nat × Nat)} {ws : List Cond} {rm : Room} {Pc : Array Value → State → Prop} {Qc : Array Value → State → Outcome → State → Prop} {free : Addr → Prop} {Ts : List Cond} {own : String} {As rest : List Value} {g : JFrame}
    (S : CallFix p m c cc nL s args Ts own) (hM : Met l y ws rm Pc Qc mc ms free) (cw : vx_CSW R s args own index y bytes maxL ret hh ws rm mc ms n) (hp : PreS s H Pc As)
    (hg : g.method = m) (hn : As.length = n) (hsize : g.locals.size = nL) (hstack : g.stack = As.reverse ++ rest) (hW : 2 * g.monitorRoom + (rest.map fun v => v.category).sum ≤ 8) (hdg : decode cc g.pc = .ok (.invokestatic index, 3)) (hf : cells + mc ≤ R.cells ∧ slots + ms ≤ R.slots) :
    va_Run p l e R s m args below meth c H locs cells slots mc ms g rest (Qc As.toArray) (free) := by
  obtain ⟨⟨hrc, hrs, hfr, hlo, hws, hcw⟩, hcode, hini, hy, hlen, hl, hstt⟩ := cw
  have hK : Back l R p e below s args y 3 8 (PreOf R mc ms Pc) (PostOf Qc mc ms free) := va_backW (hh := hh) (bytes := bytes) (maxL := maxL) (ret := ret) hM hp.1 hrc hrs hfr hlo hws hcw (fun a' U hW => word_at hW (Or.inl (by first | rfl | simp [Cond.onTables, Cond.keeps, Cond.steady])) hini)
  obtain ⟨hx, hb, hml, ho, -⟩ := S
  intro T hT X
  obtain ⟨v, vm₁, ⟨U', l2, c2, s2⟩, hW₁, X', ⟨g', mk, t, L, e1, e2, hq, h1, hL, h2, h3⟩, st⟩ := vx_callSW X hx (hh := hh) (bytes := bytes) (maxL := maxL) (ret := ret) ho hl hstt hini hcode hy hK hg (hsize.trans hml.symm) (argsL := As) (rest := rest) (fun sig h => hn.trans (hlen sig h)) hstack hW (by rw [hb]; exact hdg)
    (fun vm₁ hW₁ => ⟨hf.1, hf.2, hp.2 (T.setVm vm₁) hT hW₁⟩)
  dsimp only [Pt.U, Pt.locs, Pt.cells, Pt.slots] at X' e1 e2 h1 h2 h3 st
  subst h1; subst h2; subst h3
  exact ⟨v, (T.setVm vm₁).calling g' mk As.toArray, t, U', L, hT, X', hL, e1, e2, hq, st⟩
/-- a thing of a world lies in the heap -/
theorem vx_lt {D : va_G} {cl : List vw_C} {ws : va_W} {H1 : Heap} (h : va_P D cl ws H1) {k : Nat} {q : Nat × va_E} (hk : ws[k]? = some q) : q.1 < H1.size := (h k q hk).lt
end VXS
/-! ===== END ===== -/
/-! ===== BEGIN methods with a table of their own: called by a name, returning or throwing ===== -/
section VXH
/-! vx_backW, vx_callVX, vx_callSX, vx_callVW, vx_runVW, vx_runVX, vx_runSX, vx_ofWH follow the same proofs as their sisters above (Free/Laws.lean, Shelf42/LK1.lean); vx_outP calls Shelf42/NT130.lean (outThrough). -/
section
variable {l : Launch} {R : Room} {p : Program} {e : Env} {below : List Frame} {s : State} {sargs : Array Value} {y : MethodName} {len W9 : Nat}
theorem vx_backW {ws : List Cond} {rm : Room} {Pc : Array Value → State → Prop} {Qc : Array Value → State → Outcome → State → Prop} {XC : String → State → State → Prop} {mc ms : Nat} {free : Addr → Prop} {bytes : ByteArray} {maxL : Nat} {ret : Option FieldType} {hh : List (Nat × Nat × Nat × Nat)}
    (hM : vx_Met l y ws rm Pc Qc XC mc ms free) (hblind : FrameBlind Pc) (hrc : rm.cells = mc) (hrs : rm.slots = ms)
    (hframes : rm.frames + 1 ≤ R.frames) (hlocals : W9 + (maxL + 11) + rm.locals ≤ R.locals)
    (hws : ∀ w ∈ ws, ∀ a' U, s.WarmedH U.vm → w.before a' U = true) (hcode : Cond.codeWith y bytes maxL ret hh ∈ ws) (hinit : ∀ a' U, s.WarmedH U.vm → (Cond.initialized y.cls).before a' U = true) :
    vx_Back l R p e below s sargs y len W9 (PreOf R mc ms Pc) (PostOf Qc mc ms free) (vx_Post XC mc ms free) := by
  intro m meth c A g ig mk a X hg hsize hdg hW hn hp
  have h1 : (headSpec ws rm).pre.before a A.U = true := atoms_intro fun w hw => hws w hw _ _ X.warmed
  have h2 : (Cond.codeWith y bytes maxL ret hh).before a A.U = true := hws _ hcode _ _ X.warmed
  have h3 : (Cond.initialized y.cls).before a A.U = true := hinit _ _ X.warmed
  have h4 : A.cells + (headSpec ws rm).room.cells ≤ R.cells := by rw [show (headSpec ws rm).room.cells = mc from hrc]; exact hp.1
  have h5 : A.slots + (headSpec ws rm).room.slots ≤ R.slots := by rw [show (headSpec ws rm).room.slots = ms from hrs]; exact hp.2.1
  have hPc : Pc a (A.U.calling g mk a) := hblind _ _ _ _ hp.2.2
  obtain ⟨U, Ls, c0, s0⟩ := A
  dsimp only [Pt.U, Pt.locs, Pt.cells, Pt.slots] at h1 h2 h3 h4 h5 X hn hPc ⊢
  obtain ⟨m9, methY, cY, hn9, hmY, hcY, -, hlY, -⟩ := Cond.codeWith_spec h2
  cases Option.some.inj (hn9.symm.trans hn)
  obtain ⟨kY, hkY, -⟩ := className_of_methodNamed hn
  have hinitY : kY.init = .initialized := Cond.initialized_spec (findClass_of_methodNamed hn) hkY h3
  have h : At U g.method c below := by rw [hg]; exact X.here
  have hlocals9 : W9 + (maxL + 11) + (headSpec ws rm).room.locals ≤ R.locals := hlocals
  have happ : (headSpec ws rm).appliesLoose y e.platform (U.calling g mk a) = true :=
    Spec.appliesLoose_calling (g := g) h hdg hn hkY hinitY
      (X.room_calling (g := g) (R' := (headSpec ws rm).room) hsize hmY hcY hframes (by rw [hlY]; omega) h4 h5) h1
  obtain ⟨mid, hmid⟩ := h.above
  have hfr : (U.setTop g).frames = (.java g :: mid) ++ below := by rw [State.frames_setTop' g h.top, hmid]; rfl
  obtain ⟨o, s₂, hsteps, -, hend, hq⟩ := Steps.callFree hM p X.admits X.cas X.clock (acts := []) hfr happ hPc trivial
  have hq' : vx_Q Qc XC mc ms free a (U.calling g mk a) o s₂ := hq
  rw [State.frames_setTop' g h.top] at hend
  obtain ⟨g₀, hg0⟩ := Option.isSome_iff_exists.mp h.top
  obtain ⟨r, hr⟩ := State.topJava?_eq_some.mp hg0
  have hr' : (({ U with heap := s₂.heap, slotsUsed := s₂.slotsUsed } : State).setVm s₂.vm).frames = .java g₀ :: r := hr
  rcases hq' with ⟨hqc, L, hfe, hL⟩ | ⟨q, rfl, E, ce, L, hx, hce, hcv, hcl, hW₂, hsm, hL⟩
  · obtain ⟨⟨v, rfl⟩, hW₂, e2, q2, q3, q4, q5, q6⟩ := id hfe
    have e3 : s₂ = ({ (U.calling g mk a).setFrames s₂.frames with heap := s₂.heap, slotsUsed := s₂.slotsUsed } : State).setVm s₂.vm := by
      have : s₂ = ({ s₂ with vm := (U.calling g mk a).vm } : State).setVm s₂.vm := rfl
      rw [e2] at this
      exact this
    obtain ⟨c₂, i₂, len₂, hc₂, hd₂, hf₂⟩ := hend
    have hW' : U.WarmedH s₂.vm := hW₂
    have hcc : c₂ = c := by
      have h1 : s₂.code? g.method = U.code? g.method := by
        rw [State.code?_eq, State.code?_eq, hW'.alike.method?]
      exact Option.some.inj (hc₂.symm.trans (h1.trans h.code))
    subst hcc
    have hlen : len₂ = len := by rw [hdg] at hd₂; cases hd₂; rfl
    subst hlen
    have hs₂ : s₂ = (({ U with heap := s₂.heap, slotsUsed := s₂.slotsUsed } : State).setVm s₂.vm).setTop { g with pc := g.pc + len₂, stack := v.toList ++ g.stack } := by
      refine e3.trans ?_
      rw [hf₂, State.calling_eq h.top, State.setFrames_setFrames, State.setTop_of_frames _ hr', hr]
      rfl
    have hsame : U.sameButNew ({ U with heap := s₂.heap, slotsUsed := s₂.slotsUsed } : State) L mc ms := by
      refine ⟨?_, q2, q3, q4, q5, q6⟩
      obtain ⟨t, ht, -⟩ := State.frames_cons hr
      show ({ U with heap := s₂.heap, slotsUsed := s₂.slotsUsed } : State) = { U.setFrames U.frames with heap := s₂.heap, slotsUsed := s₂.slotsUsed }
      rw [State.setFrames_self ht]
    subst hg
    refine Or.inl ⟨v, ⟨(({ U with heap := s₂.heap, slotsUsed := s₂.slotsUsed } : State).setVm s₂.vm), Ls ++ L, c0 + mc, s0 + ms⟩,
      ⟨X.admits, X.cas, X.clock, X.frames, X.room, X.hears, X.method, X.code, (X.here.setHeapUsed s₂.heap s₂.slotsUsed).setVm hW'.alike, X.tail, State.WarmedH.trans X.warmed hW', X.limits, X.bytes, X.same.trans (hsame.setVm s.vm)⟩,
      ⟨g, mk, s₂, L, rfl, rfl, hqc, rfl, hL, rfl, rfl⟩, ?_⟩
    show Steps p.tables e below _ ((({ U with heap := s₂.heap, slotsUsed := s₂.slotsUsed } : State).setVm s₂.vm).setTop { g with pc := g.pc + len₂, stack := v.toList ++ g.stack })
    rw [← hs₂]
    exact hsteps
  · obtain ⟨e2, q2, q3, q4, q5, q6⟩ := id hsm
    have e3 : s₂ = ({ (U.calling g mk a).setFrames s₂.frames with heap := s₂.heap, slotsUsed := s₂.slotsUsed } : State).setVm s₂.vm := by
      have : s₂ = ({ s₂ with vm := (U.calling g mk a).vm } : State).setVm s₂.vm := rfl
      rw [e2] at this
      exact this
    have hf₂ : s₂.frames = .throwing q :: .java g :: U.frames.tail := hend
    have hW' : U.WarmedH s₂.vm := hW₂
    have hs₂ : s₂ = ((({ U with heap := s₂.heap, slotsUsed := s₂.slotsUsed } : State).setVm s₂.vm).setTop g).pushFrame (.throwing q) := by
      refine e3.trans ?_
      rw [hf₂, State.calling_eq h.top, State.setFrames_setFrames, State.pushFrame, State.frames_setTop _ hr', State.setTop_of_frames _ hr', State.setFrames_setFrames, hr]
      rfl
    have hsame : U.sameButNew ({ U with heap := s₂.heap, slotsUsed := s₂.slotsUsed } : State) L mc ms := by
      refine ⟨?_, q2, q3, q4, q5, q6⟩
      obtain ⟨t, ht, -⟩ := State.frames_cons hr
      show ({ U with heap := s₂.heap, slotsUsed := s₂.slotsUsed } : State) = { U.setFrames U.frames with heap := s₂.heap, slotsUsed := s₂.slotsUsed }
      rw [State.setFrames_self ht]
    subst hg
    refine Or.inr ⟨q, ⟨(({ U with heap := s₂.heap, slotsUsed := s₂.slotsUsed } : State).setVm s₂.vm), Ls ++ L, c0 + mc, s0 + ms⟩,
      ⟨X.admits, X.cas, X.clock, X.frames, X.room, X.hears, X.method, X.code, (X.here.setHeapUsed s₂.heap s₂.slotsUsed).setVm hW'.alike, X.tail, State.WarmedH.trans X.warmed hW', X.limits, X.bytes, X.same.trans (hsame.setVm s.vm)⟩,
      ⟨g, mk, s₂, L, E, ce, rfl, rfl, hx, hce, hcv, hcl, rfl, hL, rfl, rfl⟩, ?_⟩
    show Steps p.tables e below _ (((({ U with heap := s₂.heap, slotsUsed := s₂.slotsUsed } : State).setVm s₂.vm).setTop g).pushFrame (.throwing q))
    rw [← hs₂]
    exact hsteps
end
variable {p : Program} {l : Launch} {e : Env} {R : Room} {s : State} {m : MethodId} {args : Array Value} {below : List Frame} {meth : Method} {c : Code} {T : State} {H : Heap} {locs : List Loc} {cells slots : Nat}
theorem vx_callVX (X : Stand p l e R s m args below meth c T locs cells slots) (hexec : p.tables.exec = Jvm.exec) {own C : String} {index : Nat} {y : MethodName} {bytes : ByteArray} {maxL : Nat} {ret : Option FieldType} {hh : List (Nat × Nat × Nat × Nat)}
    (hown : s.vm.findClass own = some m.cls) (hlink : (Cond.methodLink own index y).before args s = true) (hinst : (Cond.instanceMethod y).before args s = true) (hsel : (Cond.selects C y y).before args s = true)
    (hcode : (Cond.codeWith y bytes maxL ret hh).before args s = true) (hy : y.cls ≠ "java/lang/invoke/MethodHandle" ∧ y.cls ≠ "java/lang/invoke/VarHandle")
    {W9 : Nat} {Pre : Pt → Array Value → Prop} {Post : Pt → Array Value → Option Value → Pt → Prop} {PostX : Pt → Array Value → Addr → Pt → Prop} (hK : vx_Back l R p e below s args y 3 W9 Pre Post PostX)
    {b : Addr} {cellB : Cell} (hcell : T.heap[b]? = some cellB) (hobj : cellB.vm.isStatics = false) (hcls : s.vm.findClass C = some cellB.cls)
    {g : JFrame} (hg : g.method = m) (hsize : g.locals.size = c.maxLocals) {argsL rest : List Value} (hlen : ∀ sig, parseMethodDescriptor y.desc = some sig → argsL.length = sig.parameters.length)
    (hstack : g.stack = argsL.reverse ++ .ref b :: rest) (hW : 2 * g.monitorRoom + (rest.map fun v => v.category).sum ≤ W9) (hdg : decode c.code g.pc = .ok (.invokevirtual index, 3))
    (hpre : ∀ vm₁, s.WarmedH vm₁ → Pre ⟨T.setVm vm₁, locs, cells, slots⟩ (Value.ref b :: argsL).toArray) :
    (∃ (v : Option Value) (vm₁ : Vm) (B : Pt), s.WarmedH vm₁ ∧ Stand p l e R s m args below meth c B.U B.locs B.cells B.slots ∧ Post ⟨T.setVm vm₁, locs, cells, slots⟩ (Value.ref b :: argsL).toArray v B ∧
      ∀ target, Steps p.tables e below (B.U.setTop { g with pc := g.pc + 3, stack := v.toList ++ rest }) target → Steps p.tables e below (T.setTop g) target) ∨
    (∃ (q : Addr) (vm₁ : Vm) (B : Pt), s.WarmedH vm₁ ∧ Stand p l e R s m args below meth c B.U B.locs B.cells B.slots ∧ PostX ⟨T.setVm vm₁, locs, cells, slots⟩ (Value.ref b :: argsL).toArray q B ∧
      Steps p.tables e below (T.setTop g) ((B.U.setTop { g with stack := rest }).pushFrame (.throwing q))) := by
  obtain ⟨mk, methM, hnamed, hmethM, hstM, habM⟩ := Cond.instanceMethod_spec hinst
  obtain ⟨m8, methM', cM, hn8, hmethM', -, -, -, -, -, -, hsigM⟩ := Cond.codeWith_spec hcode
  cases Option.some.inj (hn8.symm.trans hnamed)
  cases hmethM.symm.trans hmethM'
  obtain ⟨c2, r2, m2, q1, q2, q3, q4, kP, hkP, hkPi⟩ := Cond.selects_spec hsel
  cases hcls.symm.trans q1
  cases (State.methodFound?_of_named hnamed hy).symm.trans q2
  cases hnamed.symm.trans q3
  have hselP : selectMethod e.platform s.vm cellB.cls mk = .method mk := by rw [Launch.admits_selectMethod X.admits]; exact q4
  obtain ⟨vm₁, X₁, hstep₁⟩ := X.invokevirtual hexec hown hlink hnamed hmethM hstM hkP hkPi hy (a := b) (cell := cellB) hcell
    (fun z h => by rw [h] at hobj; cases hobj) hselP hmethM habM hkP hkPi (g := g) hg (argsL := argsL) (rest := rest) (hlen _ hsigM) hstack hdg
  rcases hK m meth c ⟨T.setVm vm₁, locs, cells, slots⟩ { g with stack := rest } (.invokevirtual index) mk (Value.ref b :: argsL).toArray X₁ hg hsize hdg hW (X₁.named hnamed) (hpre vm₁ X₁.warmed) with ⟨v, B, X', hpost, hsteps⟩ | ⟨q, B, X', hpost, hsteps⟩
  · exact Or.inl ⟨v, vm₁, B, X₁.warmed, X', hpost, fun target h => hstep₁ _ fun acts => by rw [doInvoke_state]; exact hsteps.trans h⟩
  · exact Or.inr ⟨q, vm₁, B, X₁.warmed, X', hpost, hstep₁ _ fun acts => by rw [doInvoke_state]; exact hsteps⟩
theorem vx_callSX (X : Stand p l e R s m args below meth c T locs cells slots) (hexec : p.tables.exec = Jvm.exec) {own : String} {index : Nat} {y : MethodName} {bytes : ByteArray} {maxL : Nat} {ret : Option FieldType} {hh : List (Nat × Nat × Nat × Nat)}
    (hown : s.vm.findClass own = some m.cls) (hlink : (Cond.methodLink own index y).before args s = true) (hstat : (Cond.static y).before args s = true) (hinit : (Cond.initialized y.cls).before args s = true)
    (hcode : (Cond.codeWith y bytes maxL ret hh).before args s = true) (hy : y.cls ≠ "java/lang/invoke/MethodHandle" ∧ y.cls ≠ "java/lang/invoke/VarHandle")
    {W9 : Nat} {Pre : Pt → Array Value → Prop} {Post : Pt → Array Value → Option Value → Pt → Prop} {PostX : Pt → Array Value → Addr → Pt → Prop} (hK : vx_Back l R p e below s args y 3 W9 Pre Post PostX)
    {g : JFrame} (hg : g.method = m) (hsize : g.locals.size = c.maxLocals) {argsL rest : List Value} (hlen : ∀ sig, parseMethodDescriptor y.desc = some sig → argsL.length = sig.parameters.length)
    (hstack : g.stack = argsL.reverse ++ rest) (hW : 2 * g.monitorRoom + (rest.map fun v => v.category).sum ≤ W9) (hdg : decode c.code g.pc = .ok (.invokestatic index, 3))
    (hpre : ∀ vm₁, s.WarmedH vm₁ → Pre ⟨T.setVm vm₁, locs, cells, slots⟩ argsL.toArray) :
    (∃ (v : Option Value) (vm₁ : Vm) (B : Pt), s.WarmedH vm₁ ∧ Stand p l e R s m args below meth c B.U B.locs B.cells B.slots ∧ Post ⟨T.setVm vm₁, locs, cells, slots⟩ argsL.toArray v B ∧
      ∀ target, Steps p.tables e below (B.U.setTop { g with pc := g.pc + 3, stack := v.toList ++ rest }) target → Steps p.tables e below (T.setTop g) target) ∨
    (∃ (q : Addr) (vm₁ : Vm) (B : Pt), s.WarmedH vm₁ ∧ Stand p l e R s m args below meth c B.U B.locs B.cells B.slots ∧ PostX ⟨T.setVm vm₁, locs, cells, slots⟩ argsL.toArray q B ∧
      Steps p.tables e below (T.setTop g) ((B.U.setTop { g with stack := rest }).pushFrame (.throwing q))) := by
  obtain ⟨mk, methM, cM, hnamed, hmethM, -, -, -, -, -, -, hsigM⟩ := Cond.codeWith_spec hcode
  have hstatic : methM.isStatic = true := Cond.static_spec hnamed hmethM hstat
  obtain ⟨kP, hkP, -⟩ := className_of_methodNamed hnamed
  have hinitP : kP.init = .initialized := Cond.initialized_spec (findClass_of_methodNamed hnamed) hkP hinit
  obtain ⟨vm₁, X₁, hstep₁⟩ := X.invokestatic hexec hown hlink hnamed hmethM hstatic hkP hinitP hy (g := g) hg (argsL := argsL) (rest := rest) (hlen _ hsigM) hstack hdg
  rcases hK m meth c ⟨T.setVm vm₁, locs, cells, slots⟩ { g with stack := rest } (.invokestatic index) mk argsL.toArray X₁ hg hsize hdg hW (X₁.named hnamed) (hpre vm₁ X₁.warmed) with ⟨v, B, X', hpost, hsteps⟩ | ⟨q, B, X', hpost, hsteps⟩
  · exact Or.inl ⟨v, vm₁, B, X₁.warmed, X', hpost, fun target h => hstep₁ _ fun acts => by rw [doInvoke_state]; exact hsteps.trans h⟩
  · exact Or.inr ⟨q, vm₁, B, X₁.warmed, X', hpost, hstep₁ _ fun acts => by rw [doInvoke_state]; exact hsteps⟩
theorem vx_callVW (X : Stand p l e R s m args below meth c T locs cells slots) (hexec : p.tables.exec = Jvm.exec) {own C : String} {index : Nat} {y : MethodName} {bytes : ByteArray} {maxL : Nat} {ret : Option FieldType} {hh : List (Nat × Nat × Nat × Nat)}
    (hown : s.vm.findClass own = some m.cls) (hlink : (Cond.methodLink own index y).before args s = true) (hinst : (Cond.instanceMethod y).before args s = true) (hsel : (Cond.selects C y y).before args s = true)
    (hcode : (Cond.codeWith y bytes maxL ret hh).before args s = true) (hy : y.cls ≠ "java/lang/invoke/MethodHandle" ∧ y.cls ≠ "java/lang/invoke/VarHandle")
    {W9 : Nat} {Pre : Pt → Array Value → Prop} {Post : Pt → Array Value → Option Value → Pt → Prop} (hK : Back l R p e below s args y 3 W9 Pre Post)
    {b : Addr} {cellB : Cell} (hcell : T.heap[b]? = some cellB) (hobj : cellB.vm.isStatics = false) (hcls : s.vm.findClass C = some cellB.cls)
    {g : JFrame} (hg : g.method = m) (hsize : g.locals.size = c.maxLocals) {argsL rest : List Value} (hlen : ∀ sig, parseMethodDescriptor y.desc = some sig → argsL.length = sig.parameters.length)
    (hstack : g.stack = argsL.reverse ++ .ref b :: rest) (hW : 2 * g.monitorRoom + (rest.map fun v => v.category).sum ≤ W9) (hdg : decode c.code g.pc = .ok (.invokevirtual index, 3))
    (hpre : ∀ vm₁, s.WarmedH vm₁ → Pre ⟨T.setVm vm₁, locs, cells, slots⟩ (Value.ref b :: argsL).toArray) :
    ∃ (v : Option Value) (vm₁ : Vm) (B : Pt), s.WarmedH vm₁ ∧ Stand p l e R s m args below meth c B.U B.locs B.cells B.slots ∧ Post ⟨T.setVm vm₁, locs, cells, slots⟩ (Value.ref b :: argsL).toArray v B ∧
      ∀ target, Steps p.tables e below (B.U.setTop { g with pc := g.pc + 3, stack := v.toList ++ rest }) target → Steps p.tables e below (T.setTop g) target := by
  obtain ⟨mk, methM, hnamed, hmethM, hstM, habM⟩ := Cond.instanceMethod_spec hinst
  obtain ⟨m8, methM', cM, hn8, hmethM', -, -, -, -, -, -, hsigM⟩ := Cond.codeWith_spec hcode
  cases Option.some.inj (hn8.symm.trans hnamed)
  cases hmethM.symm.trans hmethM'
  obtain ⟨c2, r2, m2, q1, q2, q3, q4, kP, hkP, hkPi⟩ := Cond.selects_spec hsel
  cases hcls.symm.trans q1
  cases (State.methodFound?_of_named hnamed hy).symm.trans q2
  cases hnamed.symm.trans q3
  have hselP : selectMethod e.platform s.vm cellB.cls mk = .method mk := by rw [Launch.admits_selectMethod X.admits]; exact q4
  obtain ⟨vm₁, X₁, hstep₁⟩ := X.invokevirtual hexec hown hlink hnamed hmethM hstM hkP hkPi hy (a := b) (cell := cellB) hcell
    (fun z h => by rw [h] at hobj; cases hobj) hselP hmethM habM hkP hkPi (g := g) hg (argsL := argsL) (rest := rest) (hlen _ hsigM) hstack hdg
  obtain ⟨v, B, X', hpost, hsteps⟩ := hK m meth c ⟨T.setVm vm₁, locs, cells, slots⟩ { g with stack := rest } (.invokevirtual index) mk (Value.ref b :: argsL).toArray X₁ hg hsize hdg hW (X₁.named hnamed) (hpre vm₁ X₁.warmed)
  exact ⟨v, vm₁, B, X₁.warmed, X', hpost, fun target h => hstep₁ _ fun acts => by rw [doInvoke_state]; exact hsteps.trans h⟩
abbrev vx_CVW (R : Room) (s : State) (args : Array Value) (own C : String) (index : Nat) (y : MethodName) (bytes : ByteArray) (maxL : Nat) (ret : Option FieldType) (hh : List (Nat × Nat × Nat × Nat)) (ws : List Cond) (rm : Room) (mc ms n : Nat) : Prop :=
  (rm.cells = mc ∧ rm.slots = ms ∧ rm.frames + 1 ≤ R.frames ∧ 8 + (maxL + 11) + rm.locals ≤ R.locals ∧ (∀ w ∈ ws, ∀ (a' : Array Value) (U : State), s.WarmedH U.vm → w.before a' U = true) ∧ Cond.codeWith y bytes maxL ret hh ∈ ws) ∧
  (Cond.codeWith y bytes maxL ret hh).before args s = true ∧ (Cond.initialized y.cls).before args s = true ∧ (y.cls ≠ "java/lang/invoke/MethodHandle" ∧ y.cls ≠ "java/lang/invoke/VarHandle") ∧
  (∀ sig, parseMethodDescriptor y.desc = some sig → n = sig.parameters.length) ∧ (Cond.methodLink own index y).before args s = true ∧ (Cond.instanceMethod y).before args s = true ∧ (Cond.selects C y y).before args s = true
theorem vx_cwVW {own C : String} {index maxL mc ms : Nat} {y : MethodName} {bytes : ByteArray} {ret : Option FieldType} {hh : List (Nat × Nat × Nat × Nat)} {Ts ws ws' : List Cond} {rm : Room} (n : Nat) (ht : ∀ w ∈ Ts, w.before args s = true) (hT : GoodIn Ts (wsV own index C y ws)) (hw : ws = Cond.codeWith y bytes maxL ret hh :: ws') (hrc : rm.cells = mc) (hrs : rm.slots = ms)
    (hd : y.cls = C ∧ y.cls ≠ "java/lang/invoke/MethodHandle" ∧ y.cls ≠ "java/lang/invoke/VarHandle" ∧ (parseMethodDescriptor y.desc).map (fun d => d.parameters.length) = some n) (hR : rm.frames + 1 ≤ R.frames ∧ 8 + (maxL + 11) + rm.locals ≤ R.locals) :
    vx_CVW R s args own C index y bytes maxL ret hh ws rm mc ms n := by
  obtain ⟨hC, hd⟩ := hd
  subst hC
  have ok : ∀ w ∈ wsV own index y.cls y ws, w.before args s = true := fun w h => ht w (hT w h).1
  have hG : GoodIn Ts ws := fun w h => hT w (by unfold wsV; exact List.mem_append_right _ h)
  have hc : Cond.codeWith y bytes maxL ret hh ∈ ws := by rw [hw]; exact List.mem_cons_self
  refine ⟨⟨hrc, hrs, hR.1, hR.2, pay_in ht hG, hc⟩, ht _ (hG _ hc).1, ok _ (by simp [wsV]), ⟨hd.1, hd.2.1⟩, fun sig h => ?_, ok _ (by simp [wsV]), ok _ (by simp [wsV]), ok _ (by simp [wsV])⟩
  have h2 := hd.2.2
  rw [h] at h2
  exact (Option.some.inj h2).symm
theorem vx_runVW {y : MethodName} {bytes cc : ByteArray} {maxL nL mc ms n index : Nat} {ret : Option FieldType} {hh : List (Nat × Nat × Nat × Nat)} {ws : List Cond} {rm : Room} {Pc : Array Value → State → Prop} {Qc : Array Value → State → Outcome → State → Prop} {free : Addr → Prop} {Ts : List Cond} {own C : String} {b : Addr} {As rest : List Value} {g : JFrame}
    (S : CallFix p m c cc nL s args Ts own) (hM : Met l y ws rm Pc Qc mc ms free) (cw : vx_CVW R s args own C index y bytes maxL ret hh ws rm mc ms n) (hp : PreV s H C b Pc As)
    (hg : g.method = m) (hn : As.length = n) (hsize : g.locals.size = nL) (hstack : g.stack = As.reverse ++ .ref b :: rest) (hW : 2 * g.monitorRoom + (rest.map fun v => v.category).sum ≤ 8) (hdg : decode cc g.pc = .ok (.invokevirtual index, 3)) (hf : cells + mc ≤ R.cells ∧ slots + ms ≤ R.slots) :
    va_Run p l e R s m args below meth c H locs cells slots mc ms g rest (Qc (Value.ref b :: As).toArray) free := by
  obtain ⟨⟨hrc, hrs, hfr, hlo, hws, hcw⟩, hcode, hini, hy, hlen, hl, hin, hse⟩ := cw
  have hK : Back l R p e below s args y 3 8 (PreOf R mc ms Pc) (PostOf Qc mc ms free) := va_backW (hh := hh) (bytes := bytes) (maxL := maxL) (ret := ret) hM hp.1 hrc hrs hfr hlo hws hcw (fun a' U hW => word_at hW (Or.inl (by first | rfl | simp [Cond.onTables, Cond.keeps, Cond.steady])) hini)
  obtain ⟨hx, hb, hml, ho, -⟩ := S
  obtain ⟨-, ⟨cellB, hcB, hoB, hclB⟩, hPc⟩ := hp
  intro T hT X
  obtain ⟨v, vm₁, ⟨U', l2, c2, s2⟩, hW₁, X', ⟨g', mk, t, L, e1, e2, hq, h1, hL, h2, h3⟩, st⟩ := vx_callVW X hx (C := C) (hh := hh) (bytes := bytes) (maxL := maxL) (ret := ret) ho hl hin hse hcode hy hK (by rw [hT]; exact hcB) hoB hclB hg (hsize.trans hml.symm) (argsL := As) (rest := rest) (fun sig h => hn.trans (hlen sig h)) hstack hW (by rw [hb]; exact hdg)
    (fun vm₁ hW₁ => ⟨hf.1, hf.2, hPc (T.setVm vm₁) hT hW₁⟩)
  dsimp only [Pt.U, Pt.locs, Pt.cells, Pt.slots] at X' e1 e2 h1 h2 h3 st
  subst h1; subst h2; subst h3
  exact ⟨v, (T.setVm vm₁).calling g' mk (Value.ref b :: As).toArray, t, U', L, hT, X', hL, e1, e2, hq, st⟩
section
variable {y : MethodName} {bytes cc : ByteArray} {maxL nL mc ms n index : Nat} {ret : Option FieldType} {ws : List Cond} {rm : Room} {Pc : Array Value → State → Prop} {Qc : Array Value → State → Outcome → State → Prop} {XC : String → State → State → Prop} {free : Addr → Prop} {Ts : List Cond} {own C : String} {b : Addr} {As rest : List Value} {g : JFrame}
theorem vx_runVX {hh : List (Nat × Nat × Nat × Nat)} (S : CallFix p m c cc nL s args Ts own) (hM : vx_Met l y ws rm Pc Qc XC mc ms free) (cw : vx_CVW R s args own C index y bytes maxL ret hh ws rm mc ms n) (hp : PreV s H C b Pc As)
    (hg : g.method = m) (hn : As.length = n) (hsize : g.locals.size = nL) (hstack : g.stack = As.reverse ++ .ref b :: rest) (hW : 2 * g.monitorRoom + (rest.map fun v => v.category).sum ≤ 8) (hdg : decode cc g.pc = .ok (.invokevirtual index, 3)) (hf : cells + mc ≤ R.cells ∧ slots + ms ≤ R.slots) :
    vx_Run p l e R s m args below meth c H locs cells slots mc ms g rest (Qc (Value.ref b :: As).toArray) XC free := by
  obtain ⟨⟨hrc, hrs, hfr, hlo, hws, hcw⟩, hcode, hini, hy, hlen, hl, hin, hse⟩ := cw
  have hK : vx_Back l R p e below s args y 3 8 (PreOf R mc ms Pc) (PostOf Qc mc ms free) (vx_Post XC mc ms free) := vx_backW (hh := hh) (bytes := bytes) (maxL := maxL) (ret := ret) hM hp.1 hrc hrs hfr hlo hws hcw (fun a' U hW => word_at hW (Or.inl (by first | rfl | simp [Cond.onTables, Cond.keeps, Cond.steady])) hini)
  obtain ⟨hx, hb, hml, ho, -⟩ := S
  obtain ⟨-, ⟨cellB, hcB, hoB, hclB⟩, hPc⟩ := hp
  intro T hT X
  rcases vx_callVX X hx (C := C) (hh := hh) (bytes := bytes) (maxL := maxL) (ret := ret) ho hl hin hse hcode hy hK (by rw [hT]; exact hcB) hoB hclB hg (hsize.trans hml.symm) (argsL := As) (rest := rest) (fun sig h => hn.trans (hlen sig h)) hstack hW (by rw [hb]; exact hdg)
    (fun vm₁ hW₁ => ⟨hf.1, hf.2, hPc (T.setVm vm₁) hT hW₁⟩) with ⟨v, vm₁, ⟨U', l2, c2, s2⟩, hW₁, X', ⟨g', mk, t, L, e1, e2, hq, h1, hL, h2, h3⟩, st⟩ | ⟨q, vm₁, ⟨U', l2, c2, s2⟩, hW₁, X', ⟨g', mk, t, L, E, ce, e1, e2, hq, hce, hcv, hcl, h1, hL, h2, h3⟩, st⟩
  · dsimp only [Pt.U, Pt.locs, Pt.cells, Pt.slots] at X' e1 e2 h1 h2 h3 st
    subst h1; subst h2; subst h3
    exact Or.inl ⟨v, (T.setVm vm₁).calling g' mk (Value.ref b :: As).toArray, t, U', L, hT, X', hL, e1, e2, hq, st⟩
  · dsimp only [Pt.U, Pt.locs, Pt.cells, Pt.slots] at X' e1 e2 h1 h2 h3 st hcl
    subst h1; subst h2; subst h3
    exact Or.inr ⟨q, (T.setVm vm₁).calling g' mk (Value.ref b :: As).toArray, t, U', L, E, ce, hT, X', hL, e1, e2, hq, hce, hcv, vx_cls hW₁ hcl, st⟩
theorem vx_runSX {hh : List (Nat × Nat × Nat × Nat)} (S : CallFix p m c cc nL s args Ts own) (hM : vx_Met l y ws rm Pc Qc XC mc ms free) (cw : vx_CSW R s args own index y bytes maxL ret hh ws rm mc ms n) (hp : PreS s H Pc As)
    (hg : g.method = m) (hn : As.length = n) (hsize : g.locals.size = nL) (hstack : g.stack = As.reverse ++ rest) (hW : 2 * g.monitorRoom + (rest.map fun v => v.category).sum ≤ 8) (hdg : decode cc g.pc = .ok (.invokestatic index, 3)) (hf : cells + mc ≤ R.cells ∧ slots + ms ≤ R.slots) :
    vx_Run p l e R s m args below meth c H locs cells slots mc ms g rest (Qc As.toArray) XC free := by
  obtain ⟨⟨hrc, hrs, hfr, hlo, hws, hcw⟩, hcode, hini, hy, hlen, hl, hstt⟩ := cw
  have hK : vx_Back l R p e below s args y 3 8 (PreOf R mc ms Pc) (PostOf Qc mc ms free) (vx_Post XC mc ms free) := vx_backW (hh := hh) (bytes := bytes) (maxL := maxL) (ret := ret) hM hp.1 hrc hrs hfr hlo hws hcw (fun a' U hW => word_at hW (Or.inl (by first | rfl | simp [Cond.onTables, Cond.keeps, Cond.steady])) hini)
  obtain ⟨hx, hb, hml, ho, -⟩ := S
  intro T hT X
  rcases vx_callSX X hx (hh := hh) (bytes := bytes) (maxL := maxL) (ret := ret) ho hl hstt hini hcode hy hK hg (hsize.trans hml.symm) (argsL := As) (rest := rest) (fun sig h => hn.trans (hlen sig h)) hstack hW (by rw [hb]; exact hdg)
    (fun vm₁ hW₁ => ⟨hf.1, hf.2, hp.2 (T.setVm vm₁) hT hW₁⟩) with ⟨v, vm₁, ⟨U', l2, c2, s2⟩, hW₁, X', ⟨g', mk, t, L, e1, e2, hq, h1, hL, h2, h3⟩, st⟩ | ⟨q, vm₁, ⟨U', l2, c2, s2⟩, hW₁, X', ⟨g', mk, t, L, E, ce, e1, e2, hq, hce, hcv, hcl, h1, hL, h2, h3⟩, st⟩
  · dsimp only [Pt.U, Pt.locs, Pt.cells, Pt.slots] at X' e1 e2 h1 h2 h3 st
    subst h1; subst h2; subst h3
    exact Or.inl ⟨v, (T.setVm vm₁).calling g' mk As.toArray, t, U', L, hT, X', hL, e1, e2, hq, st⟩
  · dsimp only [Pt.U, Pt.locs, Pt.cells, Pt.slots] at X' e1 e2 h1 h2 h3 st hcl
    subst h1; subst h2; subst h3
    exact Or.inr ⟨q, (T.setVm vm₁).calling g' mk As.toArray, t, U', L, E, ce, hT, X', hL, e1, e2, hq, hce, hcv, vx_cls hW₁ hcl, st⟩
end
end VXH
theorem vx_ofWH {l : Launch} {y : MethodName} {ws ws' : List Cond} {rm : Room} {Pc : Array Value → State → Prop} {Qc : Array Value → State → Outcome → State → Prop} {XC : String → State → State → Prop} {mc ms : Nat} {free : Addr → Prop} {cc : ByteArray} {maxL : Nat} {ret : Option FieldType} {hh : List (Nat × Nat × Nat × Nat)}
    (hy : plainName y.cls = true) (hw : ws = Cond.codeWith y cc maxL ret hh :: ws')
    (body : ∀ p e s m args below meth c s₁, BodyLoose p l y (headSpec ws rm) cc maxL ret e s m args below meth c s₁ → c.maxLocals = maxL → Pc args s →
      W p l e (headSpec ws rm).room s m args below meth c s.heap [] 0 0 (vx_MQ below Qc XC args s mc ms free) (entryFrame m args maxL)) : vx_Met l y ws rm Pc Qc XC mc ms free := by
  refine MetFree.of_bodyS (code := cc) (maxLocals := maxL) (ret := ret) hy ?_ ?_
  · intro args s m h hn
    obtain ⟨m9, meth, c, hn9, h1, h2, h3, h4, -, h5, h6, -⟩ := Cond.codeWith_spec (atoms_spec (ws := ws) h _ (by rw [hw]; exact List.mem_cons_self))
    cases hn.symm.trans hn9
    exact ⟨meth, c, h1, h2, h3, h4, h5, h6⟩
  · intro p e s m args below meth c s₁ B hml hP _
    have hh0 : s₁.heap = s.heap := by rw [B.state]; rfl
    obtain ⟨t, a1, o, b1, b2, b3⟩ := body p e s m args below meth c s₁ B hml hP s₁ hh0 (Stand.of_body B)
    exact ⟨t, o, a1, b1, b2, b3⟩
/-! ===== END ===== -/
end
section
/-! ===== BEGIN printed: names, fields, word lists, decode rows ===== -/
def RX0 : String := "WordGuest$Flags"
def TX0 : u_T := fun k => match k with
  | 0 => ("WordGuest$Flags", "n", "Z", false)
  | 1 => ("WordGuest$Flags", "z", "Z", false)
  | 2 => ("WordGuest$Flags", "v", "Z", false)
  | _ => ("WordGuest$Flags", "c", "Z", false)
def tyX0 : Nat → FieldType := fun k => match k with
  | 0 => .boolean
  | 1 => .boolean
  | 2 => .boolean
  | _ => .boolean
abbrev wsX00 : List Cond := u_ws RX0 TX0 4
theorem nmX0 : ∀ a, a < 4 → ∀ b, b < 4 → a ≠ b → (TX0 a).2.1 ≠ (TX0 b).2.1 := by decide +kernel
theorem tyX0_ok : ∀ k, k < 4 → parseFieldDescriptor (TX0 k).2.2.1 = some (tyX0 k) := by decide +kernel
abbrev cX0_init : ByteArray := prog_2_method_1_code
def yX0_init : MethodName := ⟨RX0, "<init>", "()V"⟩
abbrev cX0_number : ByteArray := prog_2_method_2_code
def yX0_number : MethodName := ⟨RX0, "number", "()I"⟩
abbrev cX0_become : ByteArray := prog_2_method_3_code
def yX0_become : MethodName := ⟨RX0, "become", "(I)V"⟩
abbrev cX0_setByResult : ByteArray := prog_2_method_4_code
def yX0_setByResult : MethodName := ⟨RX0, "setByResult", "(II)V"⟩
abbrev cX0_below : ByteArray := prog_2_method_5_code
def yX0_below : MethodName := ⟨RX0, "below", "()Z"⟩
def RX1 : String := "WordGuest$Memory"
def TX1 : u_T := fun k => match k with
  | 0 => ("WordGuest$Memory", "words", "[I", true)
  | 1 => ("WordGuest$Memory", "told", "[I", true)
  | _ => ("WordGuest$Memory", "toldCount", "I", false)
def tyX1 : Nat → FieldType := fun k => match k with
  | 0 => .array .int
  | 1 => .array .int
  | _ => .int
abbrev wsX10 : List Cond := u_ws RX1 TX1 3
theorem nmX1 : ∀ a, a < 3 → ∀ b, b < 3 → a ≠ b → (TX1 a).2.1 ≠ (TX1 b).2.1 := by decide +kernel
theorem tyX1_ok : ∀ k, k < 3 → parseFieldDescriptor (TX1 k).2.2.1 = some (tyX1 k) := by decide +kernel
abbrev cX1_init : ByteArray := prog_3_method_1_code
def yX1_init : MethodName := ⟨RX1, "<init>", "()V"⟩
abbrev cX1_faultAt : ByteArray := prog_3_method_2_code
def yX1_faultAt : MethodName := ⟨RX1, "faultAt", "(II)I"⟩
abbrev cX1_valueAt : ByteArray := prog_3_method_3_code
def yX1_valueAt : MethodName := ⟨RX1, "valueAt", "(II)I"⟩
abbrev cX1_setWord : ByteArray := prog_3_method_4_code
def yX1_setWord : MethodName := ⟨RX1, "setWord", "(II)V"⟩
abbrev cX1_setPair : ByteArray := prog_3_method_5_code
def yX1_setPair : MethodName := ⟨RX1, "setPair", "(II)I"⟩
abbrev cX1_write : ByteArray := prog_3_method_6_code
def yX1_write : MethodName := ⟨RX1, "write", "(III)V"⟩
abbrev cX1_empty : ByteArray := prog_3_method_7_code
def yX1_empty : MethodName := ⟨RX1, "empty", "()V"⟩
abbrev cX1_setIfThere : ByteArray := prog_3_method_8_code
def yX1_setIfThere : MethodName := ⟨RX1, "setIfThere", "(II)I"⟩
def RX2 : String := "WordGuest$Parts"
def TX2 : u_T := fun k => match k with
  | 0 => ("WordGuest$Parts", "memory", "LWordGuest$Memory;", true)
  | 1 => ("WordGuest$Parts", "registers", "[I", true)
  | 2 => ("WordGuest$Parts", "registersBefore", "[I", true)
  | _ => ("WordGuest$Parts", "fault", "I", false)
def tyX2 : Nat → FieldType := fun k => match k with
  | 0 => .object "WordGuest$Memory"
  | 1 => .array .int
  | 2 => .array .int
  | _ => .int
abbrev wsX20 : List Cond := u_ws RX2 TX2 4
theorem nmX2 : ∀ a, a < 4 → ∀ b, b < 4 → a ≠ b → (TX2 a).2.1 ≠ (TX2 b).2.1 := by decide +kernel
theorem tyX2_ok : ∀ k, k < 4 → parseFieldDescriptor (TX2 k).2.2.1 = some (tyX2 k) := by decide +kernel
abbrev cX2_init : ByteArray := prog_4_method_1_code
def yX2_init : MethodName := ⟨RX2, "<init>", "(LWordGuest$Memory;)V"⟩
abbrev cX2_begin : ByteArray := prog_4_method_2_code
def yX2_begin : MethodName := ⟨RX2, "begin", "()V"⟩
abbrev cX2_takeBack : ByteArray := prog_4_method_3_code
def yX2_takeBack : MethodName := ⟨RX2, "takeBack", "()V"⟩
abbrev cX2_empty : ByteArray := prog_4_method_4_code
def yX2_empty : MethodName := ⟨RX2, "empty", "()V"⟩
abbrev cX2_locate : ByteArray := prog_4_method_5_code
def yX2_locate : MethodName := ⟨RX2, "locate", "(II)I"⟩
abbrev cX2_fetch : ByteArray := prog_4_method_6_code
def yX2_fetch : MethodName := ⟨RX2, "fetch", "(II)I"⟩
abbrev cX2_store : ByteArray := prog_4_method_7_code
def yX2_store : MethodName := ⟨RX2, "store", "(III)V"⟩
abbrev cX2_storeMoved : ByteArray := prog_4_method_8_code
def yX2_storeMoved : MethodName := ⟨RX2, "storeMoved", "(III)V"⟩
abbrev cX2_takeNext : ByteArray := prog_4_method_9_code
def yX2_takeNext : MethodName := ⟨RX2, "takeNext", "()I"⟩
abbrev cX2_push : ByteArray := prog_4_method_10_code
def yX2_push : MethodName := ⟨RX2, "push", "(I)V"⟩
abbrev cX2_pop : ByteArray := prog_4_method_11_code
def yX2_pop : MethodName := ⟨RX2, "pop", "()I"⟩
abbrev cX2_goOn : ByteArray := prog_4_method_12_code
def yX2_goOn : MethodName := ⟨RX2, "goOn", "(I)V"⟩
abbrev cX2_grow : ByteArray := prog_4_method_13_code
def yX2_grow : MethodName := ⟨RX2, "grow", "(II)I"⟩
abbrev cX2_shrink : ByteArray := prog_4_method_14_code
def yX2_shrink : MethodName := ⟨RX2, "shrink", "(II)I"⟩
abbrev cX2_fromRegister : ByteArray := prog_4_method_15_code
def yX2_fromRegister : MethodName := ⟨RX2, "fromRegister", "(II)I"⟩
abbrev cX2_strideOf : ByteArray := prog_4_method_16_code
def yX2_strideOf : MethodName := ⟨RX2, "strideOf", "(II)I"⟩
def RX3 : String := "WordGuest$Processor"
def TX3 : u_T := fun k => match k with
  | 0 => ("WordGuest$Processor", "parts", "LWordGuest$Parts;", true)
  | _ => ("WordGuest$Processor", "conditions", "LWordGuest$Flags;", true)
def tyX3 : Nat → FieldType := fun k => match k with
  | 0 => .object "WordGuest$Parts"
  | _ => .object "WordGuest$Flags"
abbrev wsX30 : List Cond := u_ws RX3 TX3 2
theorem nmX3 : ∀ a, a < 2 → ∀ b, b < 2 → a ≠ b → (TX3 a).2.1 ≠ (TX3 b).2.1 := by decide +kernel
theorem tyX3_ok : ∀ k, k < 2 → parseFieldDescriptor (TX3 k).2.2.1 = some (tyX3 k) := by decide +kernel
abbrev cX3_init : ByteArray := prog_5_method_1_code
def yX3_init : MethodName := ⟨RX3, "<init>", "(LWordGuest$Memory;)V"⟩
abbrev cX3_empty : ByteArray := prog_5_method_2_code
def yX3_empty : MethodName := ⟨RX3, "empty", "()V"⟩
abbrev cX3_step : ByteArray := prog_5_method_3_code
def yX3_step : MethodName := ⟨RX3, "step", "()I"⟩
abbrev cX3_refuse : ByteArray := prog_5_method_4_code
def yX3_refuse : MethodName := ⟨RX3, "refuse", "()V"⟩
abbrev cX3_hasHighestBit : ByteArray := prog_5_method_5_code
def yX3_hasHighestBit : MethodName := ⟨RX3, "hasHighestBit", "(I)Z"⟩
abbrev cX3_sizeIn : ByteArray := prog_5_method_6_code
def yX3_sizeIn : MethodName := ⟨RX3, "sizeIn", "(I)I"⟩
abbrev cX3_performTwo : ByteArray := prog_5_method_7_code
def yX3_performTwo : MethodName := ⟨RX3, "performTwo", "(II)V"⟩
abbrev cX3_combine : ByteArray := prog_5_method_8_code
def yX3_combine : MethodName := ⟨RX3, "combine", "(III)I"⟩
abbrev cX3_addOrSubtract : ByteArray := prog_5_method_9_code
def yX3_addOrSubtract : MethodName := ⟨RX3, "addOrSubtract", "(I)V"⟩
abbrev cX3_setByDifference : ByteArray := prog_5_method_10_code
def yX3_setByDifference : MethodName := ⟨RX3, "setByDifference", "(III)V"⟩
abbrev cX3_performByHead : ByteArray := prog_5_method_11_code
def yX3_performByHead : MethodName := ⟨RX3, "performByHead", "(I)V"⟩
abbrev cX3_performOne : ByteArray := prog_5_method_12_code
def yX3_performOne : MethodName := ⟨RX3, "performOne", "(II)V"⟩
abbrev cX3_count : ByteArray := prog_5_method_13_code
def yX3_count : MethodName := ⟨RX3, "count", "(III)I"⟩
abbrev cX3_withoutOverflow : ByteArray := prog_5_method_14_code
def yX3_withoutOverflow : MethodName := ⟨RX3, "withoutOverflow", "(IZ)I"⟩
abbrev cX3_oneMore : ByteArray := prog_5_method_15_code
def yX3_oneMore : MethodName := ⟨RX3, "oneMore", "(II)I"⟩
abbrev cX3_oneLess : ByteArray := prog_5_method_16_code
def yX3_oneLess : MethodName := ⟨RX3, "oneLess", "(II)I"⟩
abbrev cX3_minus : ByteArray := prog_5_method_17_code
def yX3_minus : MethodName := ⟨RX3, "minus", "(II)I"⟩
abbrev cX3_carryMore : ByteArray := prog_5_method_18_code
def yX3_carryMore : MethodName := ⟨RX3, "carryMore", "(II)I"⟩
abbrev cX3_carryLess : ByteArray := prog_5_method_19_code
def yX3_carryLess : MethodName := ⟨RX3, "carryLess", "(II)I"⟩
abbrev cX3_shiftByOne : ByteArray := prog_5_method_20_code
def yX3_shiftByOne : MethodName := ⟨RX3, "shiftByOne", "(III)I"⟩
abbrev cX3_exchangeBytes : ByteArray := prog_5_method_21_code
def yX3_exchangeBytes : MethodName := ⟨RX3, "exchangeBytes", "(I)V"⟩
abbrev cX3_spreadSign : ByteArray := prog_5_method_22_code
def yX3_spreadSign : MethodName := ⟨RX3, "spreadSign", "(I)V"⟩
abbrev cX3_performWithRegister : ByteArray := prog_5_method_23_code
def yX3_performWithRegister : MethodName := ⟨RX3, "performWithRegister", "(I)V"⟩
abbrev cX3_multiply : ByteArray := prog_5_method_24_code
def yX3_multiply : MethodName := ⟨RX3, "multiply", "(II)V"⟩
abbrev cX3_divide : ByteArray := prog_5_method_25_code
def yX3_divide : MethodName := ⟨RX3, "divide", "(II)V"⟩
abbrev cX3_fitsWord : ByteArray := prog_5_method_26_code
def yX3_fitsWord : MethodName := ⟨RX3, "fitsWord", "(J)Z"⟩
abbrev cX3_shift : ByteArray := prog_5_method_27_code
def yX3_shift : MethodName := ⟨RX3, "shift", "(II)V"⟩
abbrev cX3_exclude : ByteArray := prog_5_method_28_code
def yX3_exclude : MethodName := ⟨RX3, "exclude", "(II)V"⟩
abbrev cX3_countDown : ByteArray := prog_5_method_29_code
def yX3_countDown : MethodName := ⟨RX3, "countDown", "(II)V"⟩
abbrev cX3_branch : ByteArray := prog_5_method_30_code
def yX3_branch : MethodName := ⟨RX3, "branch", "(I)V"⟩
abbrev cX3_isMet : ByteArray := prog_5_method_31_code
def yX3_isMet : MethodName := ⟨RX3, "isMet", "(I)Z"⟩
abbrev cX3_isRegisterWay : ByteArray := prog_5_method_32_code
def yX3_isRegisterWay : MethodName := ⟨RX3, "isRegisterWay", "(I)Z"⟩
abbrev cX3_jump : ByteArray := prog_5_method_33_code
def yX3_jump : MethodName := ⟨RX3, "jump", "(I)V"⟩
abbrev cX3_callPart : ByteArray := prog_5_method_34_code
def yX3_callPart : MethodName := ⟨RX3, "callPart", "(I)V"⟩
abbrev cX3_returnOrSetFlags : ByteArray := prog_5_method_35_code
def yX3_returnOrSetFlags : MethodName := ⟨RX3, "returnOrSetFlags", "(I)V"⟩
def RX4 : String := "WordGuest"
def TX4 : u_T := fun k => match k with
  | 0 => ("WordGuest", "memory", "LWordGuest$Memory;", true)
  | 1 => ("WordGuest", "processor", "LWordGuest$Processor;", true)
  | _ => ("WordGuest", "latestSteps", "I", false)
def tyX4 : Nat → FieldType := fun k => match k with
  | 0 => .object "WordGuest$Memory"
  | 1 => .object "WordGuest$Processor"
  | _ => .int
abbrev wsX40 : List Cond := u_ws RX4 TX4 3
theorem nmX4 : ∀ a, a < 3 → ∀ b, b < 3 → a ≠ b → (TX4 a).2.1 ≠ (TX4 b).2.1 := by decide +kernel
theorem tyX4_ok : ∀ k, k < 3 → parseFieldDescriptor (TX4 k).2.2.1 = some (tyX4 k) := by decide +kernel
abbrev cX4_init : ByteArray := prog_1_method_1_code
def yX4_init : MethodName := ⟨RX4, "<init>", "()V"⟩
abbrev cX4_load : ByteArray := prog_1_method_2_code
def yX4_load : MethodName := ⟨RX4, "load", "(IIIIII)I"⟩
abbrev cX4_word : ByteArray := prog_1_method_3_code
def yX4_word : MethodName := ⟨RX4, "word", "(I)I"⟩
abbrev cX4_poke : ByteArray := prog_1_method_4_code
def yX4_poke : MethodName := ⟨RX4, "poke", "(II)Z"⟩
abbrev cX4_register : ByteArray := prog_1_method_5_code
def yX4_register : MethodName := ⟨RX4, "register", "(I)I"⟩
abbrev cX4_put : ByteArray := prog_1_method_6_code
def yX4_put : MethodName := ⟨RX4, "put", "(II)V"⟩
abbrev cX4_flags : ByteArray := prog_1_method_7_code
def yX4_flags : MethodName := ⟨RX4, "flags", "()I"⟩
abbrev cX4_flag : ByteArray := prog_1_method_8_code
def yX4_flag : MethodName := ⟨RX4, "flag", "(I)V"⟩
abbrev cX4_run : ByteArray := prog_1_method_9_code
def yX4_run : MethodName := ⟨RX4, "run", "(I)I"⟩
abbrev cX4_steps : ByteArray := prog_1_method_10_code
def yX4_steps : MethodName := ⟨RX4, "steps", "()I"⟩
abbrev cX4_output : ByteArray := prog_1_method_11_code
def yX4_output : MethodName := ⟨RX4, "output", "(I)I"⟩
abbrev cX4_outputs : ByteArray := prog_1_method_12_code
def yX4_outputs : MethodName := ⟨RX4, "outputs", "()I"⟩
abbrev cX4_clear : ByteArray := prog_1_method_13_code
def yX4_clear : MethodName := ⟨RX4, "clear", "()V"⟩
abbrev cX4_needWordAt : ByteArray := prog_1_method_14_code
def yX4_needWordAt : MethodName := ⟨RX4, "needWordAt", "(I)V"⟩
abbrev cX4_needRegister : ByteArray := prog_1_method_15_code
def yX4_needRegister : MethodName := ⟨RX4, "needRegister", "(I)V"⟩
abbrev cX4_signOf : ByteArray := prog_1_method_16_code
def yX4_signOf : MethodName := ⟨RX4, "signOf", "(I)I"⟩
abbrev cX4_signed : ByteArray := prog_1_method_17_code
def yX4_signed : MethodName := ⟨RX4, "signed", "(II)I"⟩
def RX5 : String := "WordGuestModel"
def TX5 : u_T := fun k => match k with
  | 0 => ("WordGuestModel", "thrown", "I", false)
  | 1 => ("WordGuestModel", "bytes", "[I", true)
  | 2 => ("WordGuestModel", "registers", "[I", true)
  | 3 => ("WordGuestModel", "flags", "I", false)
  | 4 => ("WordGuestModel", "outs", "[I", true)
  | 5 => ("WordGuestModel", "outCount", "I", false)
  | 6 => ("WordGuestModel", "steps", "I", false)
  | 7 => ("WordGuestModel", "now", "[I", true)
  | 8 => ("WordGuestModel", "nowFlags", "I", false)
  | 9 => ("WordGuestModel", "writePlace", "I", false)
  | 10 => ("WordGuestModel", "writeSize", "I", false)
  | 11 => ("WordGuestModel", "writeValue", "I", false)
  | 12 => ("WordGuestModel", "fault", "I", false)
  | 13 => ("WordGuestModel", "halt", "Z", false)
  | 14 => ("WordGuestModel", "isByte", "Z", false)
  | 15 => ("WordGuestModel", "atRegister", "I", false)
  | _ => ("WordGuestModel", "atPlace", "I", false)
def tyX5 : Nat → FieldType := fun k => match k with
  | 0 => .int
  | 1 => .array .int
  | 2 => .array .int
  | 3 => .int
  | 4 => .array .int
  | 5 => .int
  | 6 => .int
  | 7 => .array .int
  | 8 => .int
  | 9 => .int
  | 10 => .int
  | 11 => .int
  | 12 => .int
  | 13 => .boolean
  | 14 => .boolean
  | 15 => .int
  | _ => .int
abbrev wsX50 : List Cond := u_ws RX5 TX5 17
theorem nmX5 : ∀ a, a < 17 → ∀ b, b < 17 → a ≠ b → (TX5 a).2.1 ≠ (TX5 b).2.1 := by decide +kernel
theorem tyX5_ok : ∀ k, k < 17 → parseFieldDescriptor (TX5 k).2.2.1 = some (tyX5 k) := by decide +kernel
abbrev cX5_init : ByteArray := prog_7_method_1_code
def yX5_init : MethodName := ⟨RX5, "<init>", "()V"⟩
abbrev cX5_thrown : ByteArray := prog_7_method_2_code
def yX5_thrown : MethodName := ⟨RX5, "thrown", "()I"⟩
abbrev cX5_isWord : ByteArray := prog_7_method_3_code
def yX5_isWord : MethodName := ⟨RX5, "isWord", "(I)Z"⟩
abbrev cX5_wordAt : ByteArray := prog_7_method_4_code
def yX5_wordAt : MethodName := ⟨RX5, "wordAt", "(I)I"⟩
abbrev cX5_setWord : ByteArray := prog_7_method_5_code
def yX5_setWord : MethodName := ⟨RX5, "setWord", "(II)V"⟩
abbrev cX5_load : ByteArray := prog_7_method_6_code
def yX5_load : MethodName := ⟨RX5, "load", "(IIIIII)I"⟩
abbrev cX5_word : ByteArray := prog_7_method_7_code
def yX5_word : MethodName := ⟨RX5, "word", "(I)I"⟩
abbrev cX5_poke : ByteArray := prog_7_method_8_code
def yX5_poke : MethodName := ⟨RX5, "poke", "(II)Z"⟩
abbrev cX5_register : ByteArray := prog_7_method_9_code
def yX5_register : MethodName := ⟨RX5, "register", "(I)I"⟩
abbrev cX5_put : ByteArray := prog_7_method_10_code
def yX5_put : MethodName := ⟨RX5, "put", "(II)V"⟩
abbrev cX5_flags : ByteArray := prog_7_method_11_code
def yX5_flags : MethodName := ⟨RX5, "flags", "()I"⟩
abbrev cX5_flag : ByteArray := prog_7_method_12_code
def yX5_flag : MethodName := ⟨RX5, "flag", "(I)V"⟩
abbrev cX5_steps : ByteArray := prog_7_method_13_code
def yX5_steps : MethodName := ⟨RX5, "steps", "()I"⟩
abbrev cX5_output : ByteArray := prog_7_method_14_code
def yX5_output : MethodName := ⟨RX5, "output", "(I)I"⟩
abbrev cX5_outputs : ByteArray := prog_7_method_15_code
def yX5_outputs : MethodName := ⟨RX5, "outputs", "()I"⟩
abbrev cX5_clear : ByteArray := prog_7_method_16_code
def yX5_clear : MethodName := ⟨RX5, "clear", "()V"⟩
abbrev cX5_fail : ByteArray := prog_7_method_17_code
def yX5_fail : MethodName := ⟨RX5, "fail", "(I)V"⟩
abbrev cX5_read : ByteArray := prog_7_method_18_code
def yX5_read : MethodName := ⟨RX5, "read", "(IZ)I"⟩
abbrev cX5_fetch : ByteArray := prog_7_method_19_code
def yX5_fetch : MethodName := ⟨RX5, "fetch", "()I"⟩
abbrev cX5_move : ByteArray := prog_7_method_20_code
def yX5_move : MethodName := ⟨RX5, "move", "(II)V"⟩
abbrev cX5_find : ByteArray := prog_7_method_21_code
def yX5_find : MethodName := ⟨RX5, "find", "(I)V"⟩
abbrev cX5_get : ByteArray := prog_7_method_22_code
def yX5_get : MethodName := ⟨RX5, "get", "()I"⟩
abbrev cX5_write : ByteArray := prog_7_method_23_code
def yX5_write : MethodName := ⟨RX5, "write", "(I)V"⟩
abbrev cX5_mask : ByteArray := prog_7_method_24_code
def yX5_mask : MethodName := ⟨RX5, "mask", "()I"⟩
abbrev cX5_top : ByteArray := prog_7_method_25_code
def yX5_top : MethodName := ⟨RX5, "top", "()I"⟩
abbrev cX5_negative : ByteArray := prog_7_method_26_code
def yX5_negative : MethodName := ⟨RX5, "negative", "(I)Z"⟩
abbrev cX5_set : ByteArray := prog_7_method_27_code
def yX5_set : MethodName := ⟨RX5, "set", "(ZZZZ)V"⟩
abbrev cX5_setBy : ByteArray := prog_7_method_28_code
def yX5_setBy : MethodName := ⟨RX5, "setBy", "(IZZ)V"⟩
abbrev cX5_has : ByteArray := prog_7_method_29_code
def yX5_has : MethodName := ⟨RX5, "has", "(I)Z"⟩
abbrev cX5_two : ByteArray := prog_7_method_30_code
def yX5_two : MethodName := ⟨RX5, "two", "(II)V"⟩
abbrev cX5_sum : ByteArray := prog_7_method_31_code
def yX5_sum : MethodName := ⟨RX5, "sum", "(IZ)V"⟩
abbrev cX5_one : ByteArray := prog_7_method_32_code
def yX5_one : MethodName := ⟨RX5, "one", "(II)V"⟩
abbrev cX5_exchangeBytes : ByteArray := prog_7_method_33_code
def yX5_exchangeBytes : MethodName := ⟨RX5, "exchangeBytes", "(I)V"⟩
abbrev cX5_signOut : ByteArray := prog_7_method_34_code
def yX5_signOut : MethodName := ⟨RX5, "signOut", "(I)V"⟩
abbrev cX5_signed : ByteArray := prog_7_method_35_code
def yX5_signed : MethodName := ⟨RX5, "signed", "(I)I"⟩
abbrev cX5_product : ByteArray := prog_7_method_36_code
def yX5_product : MethodName := ⟨RX5, "product", "(II)V"⟩
abbrev cX5_quotient : ByteArray := prog_7_method_37_code
def yX5_quotient : MethodName := ⟨RX5, "quotient", "(II)V"⟩
abbrev cX5_shift : ByteArray := prog_7_method_38_code
def yX5_shift : MethodName := ⟨RX5, "shift", "(II)V"⟩
abbrev cX5_either : ByteArray := prog_7_method_39_code
def yX5_either : MethodName := ⟨RX5, "either", "(II)V"⟩
abbrev cX5_jump : ByteArray := prog_7_method_40_code
def yX5_jump : MethodName := ⟨RX5, "jump", "(IIZ)V"⟩
abbrev cX5_back : ByteArray := prog_7_method_41_code
def yX5_back : MethodName := ⟨RX5, "back", "(I)V"⟩
abbrev cX5_goes : ByteArray := prog_7_method_42_code
def yX5_goes : MethodName := ⟨RX5, "goes", "(I)Z"⟩
abbrev cX5_does : ByteArray := prog_7_method_43_code
def yX5_does : MethodName := ⟨RX5, "does", "(I)V"⟩
abbrev cX5_others : ByteArray := prog_7_method_44_code
def yX5_others : MethodName := ⟨RX5, "others", "(I)V"⟩
abbrev cX5_step : ByteArray := prog_7_method_45_code
def yX5_step : MethodName := ⟨RX5, "step", "()V"⟩
abbrev cX5_run : ByteArray := prog_7_method_46_code
def yX5_run : MethodName := ⟨RX5, "run", "(I)I"⟩
def RJ10 : String := "java/lang/System"
def TJ10 : u_T := fun k => match k with
  | _ => ("", "", "", false)
def tyJ10 : Nat → FieldType := fun k => match k with
  | _ => .int
abbrev wsJ100 : List Cond := u_ws RJ10 TJ10 0
theorem nmJ10 : ∀ a, a < 0 → ∀ b, b < 0 → a ≠ b → (TJ10 a).2.1 ≠ (TJ10 b).2.1 := by decide +kernel
theorem tyJ10_ok : ∀ k, k < 0 → parseFieldDescriptor (TJ10 k).2.2.1 = some (tyJ10 k) := by decide +kernel
def RJ7 : String := "java/util/Arrays"
def TJ7 : u_T := fun k => match k with
  | _ => ("", "", "", false)
def tyJ7 : Nat → FieldType := fun k => match k with
  | _ => .int
abbrev wsJ70 : List Cond := u_ws RJ7 TJ7 0
theorem nmJ7 : ∀ a, a < 0 → ∀ b, b < 0 → a ≠ b → (TJ7 a).2.1 ≠ (TJ7 b).2.1 := by decide +kernel
theorem tyJ7_ok : ∀ k, k < 0 → parseFieldDescriptor (TJ7 k).2.2.1 = some (tyJ7 k) := by decide +kernel
abbrev cJ7_fill_53178 : ByteArray := prog_14_method_103_code
def yJ7_fill_53178 : MethodName := ⟨RJ7, "fill", "([II)V"⟩
def RL : String := "WordGuestLaw"
abbrev cL_load : ByteArray := method_3_code
def yL_load : MethodName := ⟨RL, "load", "(LWordGuest;IIIIII[J)I"⟩
abbrev cL_word : ByteArray := method_4_code
def yL_word : MethodName := ⟨RL, "word", "(LWordGuest;I[J)I"⟩
abbrev cL_poke : ByteArray := method_5_code
def yL_poke : MethodName := ⟨RL, "poke", "(LWordGuest;II[J)I"⟩
abbrev cL_register : ByteArray := method_6_code
def yL_register : MethodName := ⟨RL, "register", "(LWordGuest;I[J)I"⟩
abbrev cL_put : ByteArray := method_7_code
def yL_put : MethodName := ⟨RL, "put", "(LWordGuest;II)I"⟩
abbrev cL_run : ByteArray := method_8_code
def yL_run : MethodName := ⟨RL, "run", "(LWordGuest;I[J)I"⟩
abbrev cL_output : ByteArray := method_9_code
def yL_output : MethodName := ⟨RL, "output", "(LWordGuest;I[J)I"⟩
abbrev cL_law : ByteArray := code
def yL_law : MethodName := ⟨RL, "law", "([I)Z"⟩
def wsX0_init : List Cond := .code yX0_init cX0_init 1 none :: ([.methodLink RX0 1 objectInit, .instanceMethod objectInit, .code objectInit ⟨#[0xb1]⟩ 1 none])
def wsX0_number : List Cond := .code yX0_number cX0_number 1 (some .int) :: ([.fieldLink RX0 7 "WordGuest$Flags" "n" "Z", .fieldLink RX0 13 "WordGuest$Flags" "z" "Z", .fieldLink RX0 16 "WordGuest$Flags" "v" "Z", .fieldLink RX0 19 "WordGuest$Flags" "c" "Z"] ++ wsX00)
def wsX0_become : List Cond := .code yX0_become cX0_become 2 none :: ([.fieldLink RX0 7 "WordGuest$Flags" "n" "Z", .fieldLink RX0 13 "WordGuest$Flags" "z" "Z", .fieldLink RX0 16 "WordGuest$Flags" "v" "Z", .fieldLink RX0 19 "WordGuest$Flags" "c" "Z"] ++ wsX00)
def wsX4_signOf : List Cond := .code yX4_signOf cX4_signOf 1 (some .int) :: ([.constant RX4 93 (32768)])
def wsX0_setByResult : List Cond := .code yX0_setByResult cX0_setByResult 3 none :: ([.fieldLink RX0 7 "WordGuest$Flags" "n" "Z", .fieldLink RX0 13 "WordGuest$Flags" "z" "Z", .static yX4_signOf, .initialized RX4, .code yX4_signOf cX4_signOf 1 (some .int), .constant RX4 93 (32768)] ++ wsX00)
def wsX0_below : List Cond := .code yX0_below cX0_below 1 (some .boolean) :: ([.fieldLink RX0 7 "WordGuest$Flags" "n" "Z", .fieldLink RX0 16 "WordGuest$Flags" "v" "Z"] ++ wsX00)
def wsX1_init : List Cond := .code yX1_init cX1_init 1 none :: ([.methodLink RX1 3 objectInit, .instanceMethod objectInit, .code objectInit ⟨#[0xb1]⟩ 1 none, .arrayClass .int, .fieldLink RX1 9 "WordGuest$Memory" "words" "[I", .fieldLink RX1 15 "WordGuest$Memory" "told" "[I"] ++ wsX10)
def wsX1_faultAt : List Cond := .code yX1_faultAt cX1_faultAt 3 (some .int) :: ([.constant RX1 18 (65535)])
def wsX1_valueAt : List Cond := .code yX1_valueAt cX1_valueAt 4 (some .int) :: ([.fieldLink RX1 9 "WordGuest$Memory" "words" "[I"] ++ wsX10)
def wsX1_setWord : List Cond := .code yX1_setWord cX1_setWord 3 none :: ([.fieldLink RX1 9 "WordGuest$Memory" "words" "[I", .constant RX1 18 (65535)] ++ wsX10)
def wsX1_setIfThere : List Cond := .code yX1_setIfThere cX1_setIfThere 3 (some .int) :: ([.constant RX1 18 (65535), .methodLink RX1 33 yX1_faultAt, .instanceMethod yX1_faultAt, .selects RX1 yX1_faultAt yX1_faultAt, .initialized RX1, .code yX1_faultAt cX1_faultAt 3 (some .int), .methodLink RX1 36 yX1_setWord, .instanceMethod yX1_setWord, .selects RX1 yX1_setWord yX1_setWord, .code yX1_setWord cX1_setWord 3 none, .fieldLink RX1 9 "WordGuest$Memory" "words" "[I"] ++ wsX10)
def wsX1_setPair : List Cond := .code yX1_setPair cX1_setPair 3 (some .int) :: ([.methodLink RX1 19 yX1_setIfThere, .instanceMethod yX1_setIfThere, .selects RX1 yX1_setIfThere yX1_setIfThere, .initialized RX1, .code yX1_setIfThere cX1_setIfThere 3 (some .int), .constant RX1 18 (65535), .methodLink RX1 33 yX1_faultAt, .instanceMethod yX1_faultAt, .selects RX1 yX1_faultAt yX1_faultAt, .code yX1_faultAt cX1_faultAt 3 (some .int), .methodLink RX1 36 yX1_setWord, .instanceMethod yX1_setWord, .selects RX1 yX1_setWord yX1_setWord, .code yX1_setWord cX1_setWord 3 none, .fieldLink RX1 9 "WordGuest$Memory" "words" "[I"] ++ wsX10)
def wsX1_write : List Cond := .code yX1_write cX1_write 6 none :: ([.fieldLink RX1 9 "WordGuest$Memory" "words" "[I", .fieldLink RX1 23 "WordGuest$Memory" "toldCount" "I", .fieldLink RX1 15 "WordGuest$Memory" "told" "[I"] ++ wsX10)
def wsJ7_fill_53178 : List Cond := .code yJ7_fill_53178 cJ7_fill_53178 4 none :: ([])
def wsX1_empty : List Cond := .code yX1_empty cX1_empty 1 none :: ([.fieldLink RX1 9 "WordGuest$Memory" "words" "[I", .fieldLink RX1 23 "WordGuest$Memory" "toldCount" "I", .methodLink RX1 27 yJ7_fill_53178, .static yJ7_fill_53178, .initialized RJ7, .code yJ7_fill_53178 cJ7_fill_53178 4 none] ++ wsX10)
def wsX2_init : List Cond := .code yX2_init cX2_init 2 none :: ([.methodLink RX2 3 objectInit, .instanceMethod objectInit, .code objectInit ⟨#[0xb1]⟩ 1 none, .arrayClass .int, .fieldLink RX2 9 "WordGuest$Parts" "registers" "[I", .fieldLink RX2 15 "WordGuest$Parts" "registersBefore" "[I", .fieldLink RX2 18 "WordGuest$Parts" "memory" "LWordGuest$Memory;"] ++ wsX20)
def wsX2_begin : List Cond := .code yX2_begin cX2_begin 1 none :: ([.fieldLink RX2 9 "WordGuest$Parts" "registers" "[I", .fieldLink RX2 15 "WordGuest$Parts" "registersBefore" "[I", .methodLink RX2 22 arraycopyName, .native arraycopyName, .static arraycopyName, .initialized "java/lang/System", .fieldLink RX2 28 "WordGuest$Parts" "fault" "I"] ++ wsX20)
def wsX2_takeBack : List Cond := .code yX2_takeBack cX2_takeBack 1 none :: ([.fieldLink RX2 15 "WordGuest$Parts" "registersBefore" "[I", .fieldLink RX2 9 "WordGuest$Parts" "registers" "[I", .methodLink RX2 22 arraycopyName, .native arraycopyName, .static arraycopyName, .initialized "java/lang/System"] ++ wsX20)
def wsX2_empty : List Cond := .code yX2_empty cX2_empty 1 none :: ([.fieldLink RX2 9 "WordGuest$Parts" "registers" "[I", .methodLink RX2 32 yJ7_fill_53178, .static yJ7_fill_53178, .initialized RJ7, .code yJ7_fill_53178 cJ7_fill_53178 4 none] ++ wsX20)
def wsX2_strideOf : List Cond := .code yX2_strideOf cX2_strideOf 2 (some .int) :: ([.constant RX2 46 (65535)])
def wsX2_grow : List Cond := .code yX2_grow cX2_grow 4 (some .int) :: ([.fieldLink RX2 9 "WordGuest$Parts" "registers" "[I", .constant RX2 46 (65535)] ++ wsX20)
def wsX2_fetch : List Cond := .code yX2_fetch cX2_fetch 3 (some .int) :: ([.constant RX2 38 (65536), .fieldLink RX2 9 "WordGuest$Parts" "registers" "[I", .fieldLink RX2 28 "WordGuest$Parts" "fault" "I", .fieldLink RX2 18 "WordGuest$Parts" "memory" "LWordGuest$Memory;", .methodLink RX2 56 yX1_faultAt, .instanceMethod yX1_faultAt, .selects RX1 yX1_faultAt yX1_faultAt, .initialized RX1, .code yX1_faultAt cX1_faultAt 3 (some .int), .constant RX1 18 (65535), .methodLink RX2 61 yX1_valueAt, .instanceMethod yX1_valueAt, .selects RX1 yX1_valueAt yX1_valueAt, .code yX1_valueAt cX1_valueAt 4 (some .int), .fieldLink RX1 9 "WordGuest$Memory" "words" "[I"] ++ wsX20 ++ wsX10)
def wsX2_shrink : List Cond := .code yX2_shrink cX2_shrink 3 (some .int) :: ([.fieldLink RX2 9 "WordGuest$Parts" "registers" "[I", .constant RX2 46 (65535)] ++ wsX20)
def wsX2_fromRegister : List Cond := .code yX2_fromRegister cX2_fromRegister 3 (some .int) :: ([.fieldLink RX2 9 "WordGuest$Parts" "registers" "[I", .constant RX2 46 (65535)] ++ wsX20)
def wsX2_locate_r1 : List Cond := [Cond.constant RX2 38 (65536), Cond.fieldLink RX2 9 "WordGuest$Parts" "registers" "[I", Cond.constant RX2 46 (65535), Cond.methodLink RX2 39 yX2_strideOf, Cond.static yX2_strideOf, Cond.initialized RX2, Cond.code yX2_strideOf cX2_strideOf 2 (some .int), Cond.methodLink RX2 43 yX2_grow, Cond.instanceMethod yX2_grow, Cond.selects RX2 yX2_grow yX2_grow, Cond.code yX2_grow cX2_grow 4 (some .int), Cond.methodLink RX2 47 yX2_fetch, Cond.instanceMethod yX2_fetch, Cond.selects RX2 yX2_fetch yX2_fetch, Cond.code yX2_fetch cX2_fetch 3 (some .int), Cond.fieldLink RX2 28 "WordGuest$Parts" "fault" "I", Cond.fieldLink RX2 18 "WordGuest$Parts" "memory" "LWordGuest$Memory;", Cond.methodLink RX2 56 yX1_faultAt, Cond.instanceMethod yX1_faultAt, Cond.selects RX1 yX1_faultAt yX1_faultAt, Cond.initialized RX1, Cond.code yX1_faultAt cX1_faultAt 3 (some .int), Cond.constant RX1 18 (65535), Cond.methodLink RX2 61 yX1_valueAt]
def wsX2_locate_r2 : List Cond := [Cond.instanceMethod yX1_valueAt, Cond.selects RX1 yX1_valueAt yX1_valueAt, Cond.code yX1_valueAt cX1_valueAt 4 (some .int), Cond.fieldLink RX1 9 "WordGuest$Memory" "words" "[I", Cond.methodLink RX2 50 yX2_shrink, Cond.instanceMethod yX2_shrink, Cond.selects RX2 yX2_shrink yX2_shrink, Cond.code yX2_shrink cX2_shrink 3 (some .int), Cond.methodLink RX2 53 yX2_fromRegister, Cond.instanceMethod yX2_fromRegister, Cond.selects RX2 yX2_fromRegister yX2_fromRegister, Cond.code yX2_fromRegister cX2_fromRegister 3 (some .int)]
def wsX2_locate : List Cond := .code yX2_locate cX2_locate 4 (some .int) :: ((wsX2_locate_r1 ++ wsX2_locate_r2) ++ wsX20 ++ wsX10)
def wsX2_store : List Cond := .code yX2_store cX2_store 5 none :: ([.constant RX2 38 (65536), .fieldLink RX2 9 "WordGuest$Parts" "registers" "[I", .fieldLink RX2 28 "WordGuest$Parts" "fault" "I", .fieldLink RX2 18 "WordGuest$Parts" "memory" "LWordGuest$Memory;", .methodLink RX2 56 yX1_faultAt, .instanceMethod yX1_faultAt, .selects RX1 yX1_faultAt yX1_faultAt, .initialized RX1, .code yX1_faultAt cX1_faultAt 3 (some .int), .constant RX1 18 (65535), .methodLink RX2 64 yX1_write, .instanceMethod yX1_write, .selects RX1 yX1_write yX1_write, .code yX1_write cX1_write 6 none, .fieldLink RX1 9 "WordGuest$Memory" "words" "[I", .fieldLink RX1 23 "WordGuest$Memory" "toldCount" "I", .fieldLink RX1 15 "WordGuest$Memory" "told" "[I"] ++ wsX20 ++ wsX10)
def wsX4_signed : List Cond := .code yX4_signed cX4_signed 3 (some .int) :: ([.methodLink RX4 94 yX4_signOf, .static yX4_signOf, .initialized RX4, .code yX4_signOf cX4_signOf 1 (some .int), .constant RX4 93 (32768)])
def wsX2_storeMoved_r1 : List Cond := [Cond.constant RX2 38 (65536), Cond.fieldLink RX2 9 "WordGuest$Parts" "registers" "[I", Cond.constant RX2 46 (65535), Cond.static yX4_signed, Cond.initialized RX4, Cond.code yX4_signed cX4_signed 3 (some .int), Cond.methodLink RX4 94 yX4_signOf, Cond.static yX4_signOf, Cond.code yX4_signOf cX4_signOf 1 (some .int), Cond.constant RX4 93 (32768), Cond.methodLink RX2 71 yX2_store, Cond.instanceMethod yX2_store, Cond.selects RX2 yX2_store yX2_store, Cond.initialized RX2, Cond.code yX2_store cX2_store 5 none, Cond.fieldLink RX2 28 "WordGuest$Parts" "fault" "I", Cond.fieldLink RX2 18 "WordGuest$Parts" "memory" "LWordGuest$Memory;", Cond.methodLink RX2 56 yX1_faultAt, Cond.instanceMethod yX1_faultAt, Cond.selects RX1 yX1_faultAt yX1_faultAt, Cond.initialized RX1, Cond.code yX1_faultAt cX1_faultAt 3 (some .int), Cond.constant RX1 18 (65535), Cond.methodLink RX2 64 yX1_write]
def wsX2_storeMoved_r2 : List Cond := [Cond.instanceMethod yX1_write, Cond.selects RX1 yX1_write yX1_write, Cond.code yX1_write cX1_write 6 none, Cond.fieldLink RX1 9 "WordGuest$Memory" "words" "[I", Cond.fieldLink RX1 23 "WordGuest$Memory" "toldCount" "I", Cond.fieldLink RX1 15 "WordGuest$Memory" "told" "[I"]
def wsX2_storeMoved : List Cond := .code yX2_storeMoved cX2_storeMoved 4 none :: ((wsX2_storeMoved_r1 ++ wsX2_storeMoved_r2) ++ wsX20 ++ wsX10)
def wsX2_takeNext_r1 : List Cond := [Cond.constant RX2 46 (65535), Cond.methodLink RX2 43 yX2_grow, Cond.instanceMethod yX2_grow, Cond.selects RX2 yX2_grow yX2_grow, Cond.initialized RX2, Cond.code yX2_grow cX2_grow 4 (some .int), Cond.fieldLink RX2 9 "WordGuest$Parts" "registers" "[I", Cond.methodLink RX2 47 yX2_fetch, Cond.instanceMethod yX2_fetch, Cond.selects RX2 yX2_fetch yX2_fetch, Cond.code yX2_fetch cX2_fetch 3 (some .int), Cond.constant RX2 38 (65536), Cond.fieldLink RX2 28 "WordGuest$Parts" "fault" "I", Cond.fieldLink RX2 18 "WordGuest$Parts" "memory" "LWordGuest$Memory;", Cond.methodLink RX2 56 yX1_faultAt, Cond.instanceMethod yX1_faultAt, Cond.selects RX1 yX1_faultAt yX1_faultAt, Cond.initialized RX1, Cond.code yX1_faultAt cX1_faultAt 3 (some .int), Cond.constant RX1 18 (65535), Cond.methodLink RX2 61 yX1_valueAt, Cond.instanceMethod yX1_valueAt, Cond.selects RX1 yX1_valueAt yX1_valueAt, Cond.code yX1_valueAt cX1_valueAt 4 (some .int)]
def wsX2_takeNext_r2 : List Cond := [Cond.fieldLink RX1 9 "WordGuest$Memory" "words" "[I"]
def wsX2_takeNext : List Cond := .code yX2_takeNext cX2_takeNext 1 (some .int) :: ((wsX2_takeNext_r1 ++ wsX2_takeNext_r2) ++ wsX20 ++ wsX10)
def wsX2_push_r1 : List Cond := [Cond.constant RX2 46 (65535), Cond.methodLink RX2 50 yX2_shrink, Cond.instanceMethod yX2_shrink, Cond.selects RX2 yX2_shrink yX2_shrink, Cond.initialized RX2, Cond.code yX2_shrink cX2_shrink 3 (some .int), Cond.fieldLink RX2 9 "WordGuest$Parts" "registers" "[I", Cond.methodLink RX2 71 yX2_store, Cond.instanceMethod yX2_store, Cond.selects RX2 yX2_store yX2_store, Cond.code yX2_store cX2_store 5 none, Cond.constant RX2 38 (65536), Cond.fieldLink RX2 28 "WordGuest$Parts" "fault" "I", Cond.fieldLink RX2 18 "WordGuest$Parts" "memory" "LWordGuest$Memory;", Cond.methodLink RX2 56 yX1_faultAt, Cond.instanceMethod yX1_faultAt, Cond.selects RX1 yX1_faultAt yX1_faultAt, Cond.initialized RX1, Cond.code yX1_faultAt cX1_faultAt 3 (some .int), Cond.constant RX1 18 (65535), Cond.methodLink RX2 64 yX1_write, Cond.instanceMethod yX1_write, Cond.selects RX1 yX1_write yX1_write, Cond.code yX1_write cX1_write 6 none]
def wsX2_push_r2 : List Cond := [Cond.fieldLink RX1 9 "WordGuest$Memory" "words" "[I", Cond.fieldLink RX1 23 "WordGuest$Memory" "toldCount" "I", Cond.fieldLink RX1 15 "WordGuest$Memory" "told" "[I"]
def wsX2_push : List Cond := .code yX2_push cX2_push 2 none :: ((wsX2_push_r1 ++ wsX2_push_r2) ++ wsX20 ++ wsX10)
def wsX2_pop_r1 : List Cond := [Cond.constant RX2 46 (65535), Cond.methodLink RX2 43 yX2_grow, Cond.instanceMethod yX2_grow, Cond.selects RX2 yX2_grow yX2_grow, Cond.initialized RX2, Cond.code yX2_grow cX2_grow 4 (some .int), Cond.fieldLink RX2 9 "WordGuest$Parts" "registers" "[I", Cond.methodLink RX2 47 yX2_fetch, Cond.instanceMethod yX2_fetch, Cond.selects RX2 yX2_fetch yX2_fetch, Cond.code yX2_fetch cX2_fetch 3 (some .int), Cond.constant RX2 38 (65536), Cond.fieldLink RX2 28 "WordGuest$Parts" "fault" "I", Cond.fieldLink RX2 18 "WordGuest$Parts" "memory" "LWordGuest$Memory;", Cond.methodLink RX2 56 yX1_faultAt, Cond.instanceMethod yX1_faultAt, Cond.selects RX1 yX1_faultAt yX1_faultAt, Cond.initialized RX1, Cond.code yX1_faultAt cX1_faultAt 3 (some .int), Cond.constant RX1 18 (65535), Cond.methodLink RX2 61 yX1_valueAt, Cond.instanceMethod yX1_valueAt, Cond.selects RX1 yX1_valueAt yX1_valueAt, Cond.code yX1_valueAt cX1_valueAt 4 (some .int)]
def wsX2_pop_r2 : List Cond := [Cond.fieldLink RX1 9 "WordGuest$Memory" "words" "[I"]
def wsX2_pop : List Cond := .code yX2_pop cX2_pop 1 (some .int) :: ((wsX2_pop_r1 ++ wsX2_pop_r2) ++ wsX20 ++ wsX10)
def wsX2_goOn : List Cond := .code yX2_goOn cX2_goOn 2 none :: ([.fieldLink RX2 9 "WordGuest$Parts" "registers" "[I", .constant RX2 46 (65535)] ++ wsX20)
def wsX3_init : List Cond := .code yX3_init cX3_init 2 none :: ([.methodLink RX3 3 objectInit, .instanceMethod objectInit, .code objectInit ⟨#[0xb1]⟩ 1 none, .classLink RX3 9 RX0, .instantiable RX0 4, .initialized RX0, .fieldLink RX3 12 "WordGuest$Processor" "conditions" "LWordGuest$Flags;", .classLink RX3 18 RX2, .instantiable RX2 4, .initialized RX2, .fieldLink RX3 23 "WordGuest$Processor" "parts" "LWordGuest$Parts;", .instanceMethod yX0_init, .code yX0_init cX0_init 1 none, .methodLink RX0 1 objectInit, .methodLink RX3 20 yX2_init, .instanceMethod yX2_init, .code yX2_init cX2_init 2 none, .methodLink RX2 3 objectInit, .arrayClass .int, .fieldLink RX2 9 "WordGuest$Parts" "registers" "[I", .fieldLink RX2 15 "WordGuest$Parts" "registersBefore" "[I", .fieldLink RX2 18 "WordGuest$Parts" "memory" "LWordGuest$Memory;"] ++ wsX00 ++ wsX30 ++ wsX20)
def wsX3_empty : List Cond := .code yX3_empty cX3_empty 1 none :: ([.fieldLink RX3 23 "WordGuest$Processor" "parts" "LWordGuest$Parts;", .fieldLink RX3 12 "WordGuest$Processor" "conditions" "LWordGuest$Flags;", .methodLink RX3 27 yX2_empty, .instanceMethod yX2_empty, .selects RX2 yX2_empty yX2_empty, .initialized RX2, .code yX2_empty cX2_empty 1 none, .fieldLink RX2 9 "WordGuest$Parts" "registers" "[I", .methodLink RX2 32 yJ7_fill_53178, .static yJ7_fill_53178, .initialized RJ7, .code yJ7_fill_53178 cJ7_fill_53178 4 none, .methodLink RX3 30 yX0_become, .instanceMethod yX0_become, .selects RX0 yX0_become yX0_become, .initialized RX0, .code yX0_become cX0_become 2 none, .fieldLink RX0 7 "WordGuest$Flags" "n" "Z", .fieldLink RX0 13 "WordGuest$Flags" "z" "Z", .fieldLink RX0 16 "WordGuest$Flags" "v" "Z", .fieldLink RX0 19 "WordGuest$Flags" "c" "Z"] ++ wsX30 ++ wsX20 ++ wsX00)
def wsX3_hasHighestBit : List Cond := .code yX3_hasHighestBit cX3_hasHighestBit 1 (some .boolean) :: ([.constant RX3 64 (32768)])
def wsX3_sizeIn : List Cond := .code yX3_sizeIn cX3_sizeIn 1 (some .int) :: ([.constant RX3 69 (65535), .methodLink RX3 65 yX3_hasHighestBit, .static yX3_hasHighestBit, .initialized RX3, .code yX3_hasHighestBit cX3_hasHighestBit 1 (some .boolean), .constant RX3 64 (32768)])
def wsX3_withoutOverflow : List Cond := .code yX3_withoutOverflow cX3_withoutOverflow 3 (some .int) :: ([.fieldLink RX3 12 "WordGuest$Processor" "conditions" "LWordGuest$Flags;"] ++ wsX30 ++ wsX00)
def wsX3_oneMore : List Cond := .code yX3_oneMore cX3_oneMore 4 (some .int) :: ([.fieldLink RX3 12 "WordGuest$Processor" "conditions" "LWordGuest$Flags;", .static yX4_signOf, .initialized RX4, .code yX4_signOf cX4_signOf 1 (some .int), .constant RX4 93 (32768)] ++ wsX30 ++ wsX00)
def wsX3_oneLess : List Cond := .code yX3_oneLess cX3_oneLess 4 (some .int) :: ([.fieldLink RX3 12 "WordGuest$Processor" "conditions" "LWordGuest$Flags;", .static yX4_signOf, .initialized RX4, .code yX4_signOf cX4_signOf 1 (some .int), .constant RX4 93 (32768)] ++ wsX30 ++ wsX00)
def wsX3_minus : List Cond := .code yX3_minus cX3_minus 4 (some .int) :: ([.fieldLink RX3 12 "WordGuest$Processor" "conditions" "LWordGuest$Flags;", .static yX4_signOf, .initialized RX4, .code yX4_signOf cX4_signOf 1 (some .int), .constant RX4 93 (32768)] ++ wsX30 ++ wsX00)
def wsX3_carryMore : List Cond := .code yX3_carryMore cX3_carryMore 3 (some .int) :: ([.fieldLink RX3 12 "WordGuest$Processor" "conditions" "LWordGuest$Flags;", .static yX4_signOf, .initialized RX4, .code yX4_signOf cX4_signOf 1 (some .int), .constant RX4 93 (32768)] ++ wsX30 ++ wsX00)
def wsX3_carryLess : List Cond := .code yX3_carryLess cX3_carryLess 3 (some .int) :: ([.fieldLink RX3 12 "WordGuest$Processor" "conditions" "LWordGuest$Flags;", .static yX4_signOf, .initialized RX4, .code yX4_signOf cX4_signOf 1 (some .int), .constant RX4 93 (32768)] ++ wsX30 ++ wsX00)
def wsX3_count_r1 : List Cond := [Cond.methodLink RX3 141 yX3_withoutOverflow, Cond.instanceMethod yX3_withoutOverflow, Cond.selects RX3 yX3_withoutOverflow yX3_withoutOverflow, Cond.initialized RX3, Cond.code yX3_withoutOverflow cX3_withoutOverflow 3 (some .int), Cond.fieldLink RX3 12 "WordGuest$Processor" "conditions" "LWordGuest$Flags;", Cond.methodLink RX3 145 yX3_oneMore, Cond.instanceMethod yX3_oneMore, Cond.selects RX3 yX3_oneMore yX3_oneMore, Cond.code yX3_oneMore cX3_oneMore 4 (some .int), Cond.static yX4_signOf, Cond.initialized RX4, Cond.code yX4_signOf cX4_signOf 1 (some .int), Cond.constant RX4 93 (32768), Cond.methodLink RX3 148 yX3_oneLess, Cond.instanceMethod yX3_oneLess, Cond.selects RX3 yX3_oneLess yX3_oneLess, Cond.code yX3_oneLess cX3_oneLess 4 (some .int), Cond.methodLink RX3 151 yX3_minus, Cond.instanceMethod yX3_minus, Cond.selects RX3 yX3_minus yX3_minus, Cond.code yX3_minus cX3_minus 4 (some .int), Cond.methodLink RX3 154 yX3_carryMore, Cond.instanceMethod yX3_carryMore]
def wsX3_count_r2 : List Cond := [Cond.selects RX3 yX3_carryMore yX3_carryMore, Cond.code yX3_carryMore cX3_carryMore 3 (some .int), Cond.methodLink RX3 157 yX3_carryLess, Cond.instanceMethod yX3_carryLess, Cond.selects RX3 yX3_carryLess yX3_carryLess, Cond.code yX3_carryLess cX3_carryLess 3 (some .int)]
def wsX3_count : List Cond := .code yX3_count cX3_count 4 (some .int) :: ((wsX3_count_r1 ++ wsX3_count_r2) ++ wsX30 ++ wsX00)
def wsX3_shiftByOne : List Cond := .code yX3_shiftByOne cX3_shiftByOne 7 (some .int) :: ([.fieldLink RX3 12 "WordGuest$Processor" "conditions" "LWordGuest$Flags;", .static yX4_signOf, .initialized RX4, .code yX4_signOf cX4_signOf 1 (some .int), .constant RX4 93 (32768)] ++ wsX30 ++ wsX00)
def wsX3_performOne_r1 : List Cond := [Cond.fieldLink RX3 23 "WordGuest$Processor" "parts" "LWordGuest$Parts;", Cond.fieldLink RX3 12 "WordGuest$Processor" "conditions" "LWordGuest$Flags;", Cond.methodLink RX3 70 yX3_sizeIn, Cond.static yX3_sizeIn, Cond.initialized RX3, Cond.code yX3_sizeIn cX3_sizeIn 1 (some .int), Cond.constant RX3 69 (65535), Cond.methodLink RX3 65 yX3_hasHighestBit, Cond.static yX3_hasHighestBit, Cond.code yX3_hasHighestBit cX3_hasHighestBit 1 (some .boolean), Cond.constant RX3 64 (32768), Cond.methodLink RX3 74 yX2_locate, Cond.instanceMethod yX2_locate, Cond.selects RX2 yX2_locate yX2_locate, Cond.initialized RX2, Cond.code yX2_locate cX2_locate 4 (some .int), Cond.constant RX2 38 (65536), Cond.fieldLink RX2 9 "WordGuest$Parts" "registers" "[I", Cond.constant RX2 46 (65535), Cond.methodLink RX2 39 yX2_strideOf, Cond.static yX2_strideOf, Cond.code yX2_strideOf cX2_strideOf 2 (some .int), Cond.methodLink RX2 43 yX2_grow, Cond.instanceMethod yX2_grow]
def wsX3_performOne_r2 : List Cond := [Cond.selects RX2 yX2_grow yX2_grow, Cond.code yX2_grow cX2_grow 4 (some .int), Cond.methodLink RX2 47 yX2_fetch, Cond.instanceMethod yX2_fetch, Cond.selects RX2 yX2_fetch yX2_fetch, Cond.code yX2_fetch cX2_fetch 3 (some .int), Cond.fieldLink RX2 28 "WordGuest$Parts" "fault" "I", Cond.fieldLink RX2 18 "WordGuest$Parts" "memory" "LWordGuest$Memory;", Cond.methodLink RX2 56 yX1_faultAt, Cond.instanceMethod yX1_faultAt, Cond.selects RX1 yX1_faultAt yX1_faultAt, Cond.initialized RX1, Cond.code yX1_faultAt cX1_faultAt 3 (some .int), Cond.constant RX1 18 (65535), Cond.methodLink RX2 61 yX1_valueAt, Cond.instanceMethod yX1_valueAt, Cond.selects RX1 yX1_valueAt yX1_valueAt, Cond.code yX1_valueAt cX1_valueAt 4 (some .int), Cond.fieldLink RX1 9 "WordGuest$Memory" "words" "[I", Cond.methodLink RX2 50 yX2_shrink, Cond.instanceMethod yX2_shrink, Cond.selects RX2 yX2_shrink yX2_shrink, Cond.code yX2_shrink cX2_shrink 3 (some .int), Cond.methodLink RX2 53 yX2_fromRegister]
def wsX3_performOne_r3 : List Cond := [Cond.instanceMethod yX2_fromRegister, Cond.selects RX2 yX2_fromRegister yX2_fromRegister, Cond.code yX2_fromRegister cX2_fromRegister 3 (some .int), Cond.methodLink RX3 78 yX2_fetch, Cond.methodLink RX3 132 yX3_count, Cond.instanceMethod yX3_count, Cond.selects RX3 yX3_count yX3_count, Cond.code yX3_count cX3_count 4 (some .int), Cond.methodLink RX3 141 yX3_withoutOverflow, Cond.instanceMethod yX3_withoutOverflow, Cond.selects RX3 yX3_withoutOverflow yX3_withoutOverflow, Cond.code yX3_withoutOverflow cX3_withoutOverflow 3 (some .int), Cond.methodLink RX3 145 yX3_oneMore, Cond.instanceMethod yX3_oneMore, Cond.selects RX3 yX3_oneMore yX3_oneMore, Cond.code yX3_oneMore cX3_oneMore 4 (some .int), Cond.static yX4_signOf, Cond.initialized RX4, Cond.code yX4_signOf cX4_signOf 1 (some .int), Cond.constant RX4 93 (32768), Cond.methodLink RX3 148 yX3_oneLess, Cond.instanceMethod yX3_oneLess, Cond.selects RX3 yX3_oneLess yX3_oneLess, Cond.code yX3_oneLess cX3_oneLess 4 (some .int)]
def wsX3_performOne_r4 : List Cond := [Cond.methodLink RX3 151 yX3_minus, Cond.instanceMethod yX3_minus, Cond.selects RX3 yX3_minus yX3_minus, Cond.code yX3_minus cX3_minus 4 (some .int), Cond.methodLink RX3 154 yX3_carryMore, Cond.instanceMethod yX3_carryMore, Cond.selects RX3 yX3_carryMore yX3_carryMore, Cond.code yX3_carryMore cX3_carryMore 3 (some .int), Cond.methodLink RX3 157 yX3_carryLess, Cond.instanceMethod yX3_carryLess, Cond.selects RX3 yX3_carryLess yX3_carryLess, Cond.code yX3_carryLess cX3_carryLess 3 (some .int), Cond.methodLink RX3 89 yX0_setByResult, Cond.instanceMethod yX0_setByResult, Cond.selects RX0 yX0_setByResult yX0_setByResult, Cond.initialized RX0, Cond.code yX0_setByResult cX0_setByResult 3 none, Cond.fieldLink RX0 7 "WordGuest$Flags" "n" "Z", Cond.fieldLink RX0 13 "WordGuest$Flags" "z" "Z", Cond.methodLink RX3 135 yX3_shiftByOne, Cond.instanceMethod yX3_shiftByOne, Cond.selects RX3 yX3_shiftByOne yX3_shiftByOne, Cond.code yX3_shiftByOne cX3_shiftByOne 7 (some .int), Cond.methodLink RX3 99 yX2_store]
def wsX3_performOne_r5 : List Cond := [Cond.instanceMethod yX2_store, Cond.selects RX2 yX2_store yX2_store, Cond.code yX2_store cX2_store 5 none, Cond.methodLink RX2 64 yX1_write, Cond.instanceMethod yX1_write, Cond.selects RX1 yX1_write yX1_write, Cond.code yX1_write cX1_write 6 none, Cond.fieldLink RX1 23 "WordGuest$Memory" "toldCount" "I", Cond.fieldLink RX1 15 "WordGuest$Memory" "told" "[I"]
def wsX3_performOne : List Cond := .code yX3_performOne cX3_performOne 8 none :: ((wsX3_performOne_r1 ++ (wsX3_performOne_r2 ++ (wsX3_performOne_r3 ++ (wsX3_performOne_r4 ++ wsX3_performOne_r5)))) ++ wsX30 ++ wsX00 ++ wsX20 ++ wsX10)
def wsX3_isMet : List Cond := .code yX3_isMet cX3_isMet 3 (some .boolean) :: ([.fieldLink RX3 12 "WordGuest$Processor" "conditions" "LWordGuest$Flags;", .methodLink RX3 201 yX0_below, .instanceMethod yX0_below, .selects RX0 yX0_below yX0_below, .initialized RX0, .code yX0_below cX0_below 1 (some .boolean), .fieldLink RX0 7 "WordGuest$Flags" "n" "Z", .fieldLink RX0 16 "WordGuest$Flags" "v" "Z"] ++ wsX30 ++ wsX00)
def wsX3_branch_r1 : List Cond := [Cond.fieldLink RX3 23 "WordGuest$Processor" "parts" "LWordGuest$Parts;", Cond.methodLink RX3 65 yX3_hasHighestBit, Cond.static yX3_hasHighestBit, Cond.initialized RX3, Cond.code yX3_hasHighestBit cX3_hasHighestBit 1 (some .boolean), Cond.constant RX3 64 (32768), Cond.methodLink RX3 198 yX3_isMet, Cond.instanceMethod yX3_isMet, Cond.selects RX3 yX3_isMet yX3_isMet, Cond.code yX3_isMet cX3_isMet 3 (some .boolean), Cond.fieldLink RX3 12 "WordGuest$Processor" "conditions" "LWordGuest$Flags;", Cond.methodLink RX3 201 yX0_below, Cond.instanceMethod yX0_below, Cond.selects RX0 yX0_below yX0_below, Cond.initialized RX0, Cond.code yX0_below cX0_below 1 (some .boolean), Cond.fieldLink RX0 7 "WordGuest$Flags" "n" "Z", Cond.fieldLink RX0 16 "WordGuest$Flags" "v" "Z", Cond.static yX4_signed, Cond.initialized RX4, Cond.code yX4_signed cX4_signed 3 (some .int), Cond.methodLink RX4 94 yX4_signOf, Cond.static yX4_signOf, Cond.code yX4_signOf cX4_signOf 1 (some .int)]
def wsX3_branch_r2 : List Cond := [Cond.constant RX4 93 (32768), Cond.methodLink RX3 195 yX2_goOn, Cond.instanceMethod yX2_goOn, Cond.selects RX2 yX2_goOn yX2_goOn, Cond.initialized RX2, Cond.code yX2_goOn cX2_goOn 2 none, Cond.fieldLink RX2 9 "WordGuest$Parts" "registers" "[I", Cond.constant RX2 46 (65535)]
def wsX3_branch : List Cond := .code yX3_branch cX3_branch 2 none :: ((wsX3_branch_r1 ++ wsX3_branch_r2) ++ wsX30 ++ wsX00 ++ wsX20)
def wsX3_refuse : List Cond := .code yX3_refuse cX3_refuse 1 none :: ([.fieldLink RX3 23 "WordGuest$Processor" "parts" "LWordGuest$Parts;"] ++ wsX30 ++ wsX20)
def wsX3_isRegisterWay : List Cond := .code yX3_isRegisterWay cX3_isRegisterWay 1 (some .boolean) :: ([])
def wsX3_callPart_r1 : List Cond := [Cond.fieldLink RX3 23 "WordGuest$Processor" "parts" "LWordGuest$Parts;", Cond.constant RX3 69 (65535), Cond.methodLink RX3 205 yX3_isRegisterWay, Cond.static yX3_isRegisterWay, Cond.initialized RX3, Cond.code yX3_isRegisterWay cX3_isRegisterWay 1 (some .boolean), Cond.methodLink RX3 114 yX3_refuse, Cond.instanceMethod yX3_refuse, Cond.selects RX3 yX3_refuse yX3_refuse, Cond.code yX3_refuse cX3_refuse 1 none, Cond.methodLink RX3 74 yX2_locate, Cond.instanceMethod yX2_locate, Cond.selects RX2 yX2_locate yX2_locate, Cond.initialized RX2, Cond.code yX2_locate cX2_locate 4 (some .int), Cond.constant RX2 38 (65536), Cond.fieldLink RX2 9 "WordGuest$Parts" "registers" "[I", Cond.constant RX2 46 (65535), Cond.methodLink RX2 39 yX2_strideOf, Cond.static yX2_strideOf, Cond.code yX2_strideOf cX2_strideOf 2 (some .int), Cond.methodLink RX2 43 yX2_grow, Cond.instanceMethod yX2_grow, Cond.selects RX2 yX2_grow yX2_grow]
def wsX3_callPart_r2 : List Cond := [Cond.code yX2_grow cX2_grow 4 (some .int), Cond.methodLink RX2 47 yX2_fetch, Cond.instanceMethod yX2_fetch, Cond.selects RX2 yX2_fetch yX2_fetch, Cond.code yX2_fetch cX2_fetch 3 (some .int), Cond.fieldLink RX2 28 "WordGuest$Parts" "fault" "I", Cond.fieldLink RX2 18 "WordGuest$Parts" "memory" "LWordGuest$Memory;", Cond.methodLink RX2 56 yX1_faultAt, Cond.instanceMethod yX1_faultAt, Cond.selects RX1 yX1_faultAt yX1_faultAt, Cond.initialized RX1, Cond.code yX1_faultAt cX1_faultAt 3 (some .int), Cond.constant RX1 18 (65535), Cond.methodLink RX2 61 yX1_valueAt, Cond.instanceMethod yX1_valueAt, Cond.selects RX1 yX1_valueAt yX1_valueAt, Cond.code yX1_valueAt cX1_valueAt 4 (some .int), Cond.fieldLink RX1 9 "WordGuest$Memory" "words" "[I", Cond.methodLink RX2 50 yX2_shrink, Cond.instanceMethod yX2_shrink, Cond.selects RX2 yX2_shrink yX2_shrink, Cond.code yX2_shrink cX2_shrink 3 (some .int), Cond.methodLink RX2 53 yX2_fromRegister, Cond.instanceMethod yX2_fromRegister]
def wsX3_callPart_r3 : List Cond := [Cond.selects RX2 yX2_fromRegister yX2_fromRegister, Cond.code yX2_fromRegister cX2_fromRegister 3 (some .int), Cond.methodLink RX3 208 yX2_push, Cond.instanceMethod yX2_push, Cond.selects RX2 yX2_push yX2_push, Cond.code yX2_push cX2_push 2 none, Cond.methodLink RX2 71 yX2_store, Cond.instanceMethod yX2_store, Cond.selects RX2 yX2_store yX2_store, Cond.code yX2_store cX2_store 5 none, Cond.methodLink RX2 64 yX1_write, Cond.instanceMethod yX1_write, Cond.selects RX1 yX1_write yX1_write, Cond.code yX1_write cX1_write 6 none, Cond.fieldLink RX1 23 "WordGuest$Memory" "toldCount" "I", Cond.fieldLink RX1 15 "WordGuest$Memory" "told" "[I"]
def wsX3_callPart : List Cond := .code yX3_callPart cX3_callPart 4 none :: ((wsX3_callPart_r1 ++ (wsX3_callPart_r2 ++ wsX3_callPart_r3)) ++ wsX30 ++ wsX20 ++ wsX10)
def wsX3_jump_r1 : List Cond := [Cond.fieldLink RX3 23 "WordGuest$Processor" "parts" "LWordGuest$Parts;", Cond.constant RX3 69 (65535), Cond.methodLink RX3 205 yX3_isRegisterWay, Cond.static yX3_isRegisterWay, Cond.initialized RX3, Cond.code yX3_isRegisterWay cX3_isRegisterWay 1 (some .boolean), Cond.methodLink RX3 114 yX3_refuse, Cond.instanceMethod yX3_refuse, Cond.selects RX3 yX3_refuse yX3_refuse, Cond.code yX3_refuse cX3_refuse 1 none, Cond.methodLink RX3 74 yX2_locate, Cond.instanceMethod yX2_locate, Cond.selects RX2 yX2_locate yX2_locate, Cond.initialized RX2, Cond.code yX2_locate cX2_locate 4 (some .int), Cond.constant RX2 38 (65536), Cond.fieldLink RX2 9 "WordGuest$Parts" "registers" "[I", Cond.constant RX2 46 (65535), Cond.methodLink RX2 39 yX2_strideOf, Cond.static yX2_strideOf, Cond.code yX2_strideOf cX2_strideOf 2 (some .int), Cond.methodLink RX2 43 yX2_grow, Cond.instanceMethod yX2_grow, Cond.selects RX2 yX2_grow yX2_grow]
def wsX3_jump_r2 : List Cond := [Cond.code yX2_grow cX2_grow 4 (some .int), Cond.methodLink RX2 47 yX2_fetch, Cond.instanceMethod yX2_fetch, Cond.selects RX2 yX2_fetch yX2_fetch, Cond.code yX2_fetch cX2_fetch 3 (some .int), Cond.fieldLink RX2 28 "WordGuest$Parts" "fault" "I", Cond.fieldLink RX2 18 "WordGuest$Parts" "memory" "LWordGuest$Memory;", Cond.methodLink RX2 56 yX1_faultAt, Cond.instanceMethod yX1_faultAt, Cond.selects RX1 yX1_faultAt yX1_faultAt, Cond.initialized RX1, Cond.code yX1_faultAt cX1_faultAt 3 (some .int), Cond.constant RX1 18 (65535), Cond.methodLink RX2 61 yX1_valueAt, Cond.instanceMethod yX1_valueAt, Cond.selects RX1 yX1_valueAt yX1_valueAt, Cond.code yX1_valueAt cX1_valueAt 4 (some .int), Cond.fieldLink RX1 9 "WordGuest$Memory" "words" "[I", Cond.methodLink RX2 50 yX2_shrink, Cond.instanceMethod yX2_shrink, Cond.selects RX2 yX2_shrink yX2_shrink, Cond.code yX2_shrink cX2_shrink 3 (some .int), Cond.methodLink RX2 53 yX2_fromRegister, Cond.instanceMethod yX2_fromRegister]
def wsX3_jump_r3 : List Cond := [Cond.selects RX2 yX2_fromRegister yX2_fromRegister, Cond.code yX2_fromRegister cX2_fromRegister 3 (some .int)]
def wsX3_jump : List Cond := .code yX3_jump cX3_jump 2 none :: ((wsX3_jump_r1 ++ (wsX3_jump_r2 ++ wsX3_jump_r3)) ++ wsX30 ++ wsX20 ++ wsX10)
def wsX3_returnOrSetFlags_r1 : List Cond := [Cond.fieldLink RX3 23 "WordGuest$Processor" "parts" "LWordGuest$Parts;", Cond.fieldLink RX3 12 "WordGuest$Processor" "conditions" "LWordGuest$Flags;", Cond.methodLink RX3 211 yX2_pop, Cond.instanceMethod yX2_pop, Cond.selects RX2 yX2_pop yX2_pop, Cond.initialized RX2, Cond.code yX2_pop cX2_pop 1 (some .int), Cond.constant RX2 46 (65535), Cond.methodLink RX2 43 yX2_grow, Cond.instanceMethod yX2_grow, Cond.selects RX2 yX2_grow yX2_grow, Cond.code yX2_grow cX2_grow 4 (some .int), Cond.fieldLink RX2 9 "WordGuest$Parts" "registers" "[I", Cond.methodLink RX2 47 yX2_fetch, Cond.instanceMethod yX2_fetch, Cond.selects RX2 yX2_fetch yX2_fetch, Cond.code yX2_fetch cX2_fetch 3 (some .int), Cond.constant RX2 38 (65536), Cond.fieldLink RX2 28 "WordGuest$Parts" "fault" "I", Cond.fieldLink RX2 18 "WordGuest$Parts" "memory" "LWordGuest$Memory;", Cond.methodLink RX2 56 yX1_faultAt, Cond.instanceMethod yX1_faultAt, Cond.selects RX1 yX1_faultAt yX1_faultAt, Cond.initialized RX1]
def wsX3_returnOrSetFlags_r2 : List Cond := [Cond.code yX1_faultAt cX1_faultAt 3 (some .int), Cond.constant RX1 18 (65535), Cond.methodLink RX2 61 yX1_valueAt, Cond.instanceMethod yX1_valueAt, Cond.selects RX1 yX1_valueAt yX1_valueAt, Cond.code yX1_valueAt cX1_valueAt 4 (some .int), Cond.fieldLink RX1 9 "WordGuest$Memory" "words" "[I", Cond.methodLink RX3 114 yX3_refuse, Cond.instanceMethod yX3_refuse, Cond.selects RX3 yX3_refuse yX3_refuse, Cond.initialized RX3, Cond.code yX3_refuse cX3_refuse 1 none, Cond.methodLink RX3 37 yX0_number, Cond.instanceMethod yX0_number, Cond.selects RX0 yX0_number yX0_number, Cond.initialized RX0, Cond.code yX0_number cX0_number 1 (some .int), Cond.fieldLink RX0 7 "WordGuest$Flags" "n" "Z", Cond.fieldLink RX0 13 "WordGuest$Flags" "z" "Z", Cond.fieldLink RX0 16 "WordGuest$Flags" "v" "Z", Cond.fieldLink RX0 19 "WordGuest$Flags" "c" "Z", Cond.methodLink RX3 30 yX0_become, Cond.instanceMethod yX0_become, Cond.selects RX0 yX0_become yX0_become]
def wsX3_returnOrSetFlags_r3 : List Cond := [Cond.code yX0_become cX0_become 2 none]
def wsX3_returnOrSetFlags : List Cond := .code yX3_returnOrSetFlags cX3_returnOrSetFlags 4 none :: ((wsX3_returnOrSetFlags_r1 ++ (wsX3_returnOrSetFlags_r2 ++ wsX3_returnOrSetFlags_r3)) ++ wsX30 ++ wsX20 ++ wsX10 ++ wsX00)
def wsX3_exchangeBytes_r1 : List Cond := [Cond.fieldLink RX3 23 "WordGuest$Processor" "parts" "LWordGuest$Parts;", Cond.constant RX3 69 (65535), Cond.fieldLink RX3 12 "WordGuest$Processor" "conditions" "LWordGuest$Flags;", Cond.methodLink RX3 74 yX2_locate, Cond.instanceMethod yX2_locate, Cond.selects RX2 yX2_locate yX2_locate, Cond.initialized RX2, Cond.code yX2_locate cX2_locate 4 (some .int), Cond.constant RX2 38 (65536), Cond.fieldLink RX2 9 "WordGuest$Parts" "registers" "[I", Cond.constant RX2 46 (65535), Cond.methodLink RX2 39 yX2_strideOf, Cond.static yX2_strideOf, Cond.code yX2_strideOf cX2_strideOf 2 (some .int), Cond.methodLink RX2 43 yX2_grow, Cond.instanceMethod yX2_grow, Cond.selects RX2 yX2_grow yX2_grow, Cond.code yX2_grow cX2_grow 4 (some .int), Cond.methodLink RX2 47 yX2_fetch, Cond.instanceMethod yX2_fetch, Cond.selects RX2 yX2_fetch yX2_fetch, Cond.code yX2_fetch cX2_fetch 3 (some .int), Cond.fieldLink RX2 28 "WordGuest$Parts" "fault" "I", Cond.fieldLink RX2 18 "WordGuest$Parts" "memory" "LWordGuest$Memory;"]
def wsX3_exchangeBytes_r2 : List Cond := [Cond.methodLink RX2 56 yX1_faultAt, Cond.instanceMethod yX1_faultAt, Cond.selects RX1 yX1_faultAt yX1_faultAt, Cond.initialized RX1, Cond.code yX1_faultAt cX1_faultAt 3 (some .int), Cond.constant RX1 18 (65535), Cond.methodLink RX2 61 yX1_valueAt, Cond.instanceMethod yX1_valueAt, Cond.selects RX1 yX1_valueAt yX1_valueAt, Cond.code yX1_valueAt cX1_valueAt 4 (some .int), Cond.fieldLink RX1 9 "WordGuest$Memory" "words" "[I", Cond.methodLink RX2 50 yX2_shrink, Cond.instanceMethod yX2_shrink, Cond.selects RX2 yX2_shrink yX2_shrink, Cond.code yX2_shrink cX2_shrink 3 (some .int), Cond.methodLink RX2 53 yX2_fromRegister, Cond.instanceMethod yX2_fromRegister, Cond.selects RX2 yX2_fromRegister yX2_fromRegister, Cond.code yX2_fromRegister cX2_fromRegister 3 (some .int), Cond.methodLink RX3 78 yX2_fetch, Cond.methodLink RX3 89 yX0_setByResult, Cond.instanceMethod yX0_setByResult, Cond.selects RX0 yX0_setByResult yX0_setByResult, Cond.initialized RX0]
def wsX3_exchangeBytes_r3 : List Cond := [Cond.code yX0_setByResult cX0_setByResult 3 none, Cond.fieldLink RX0 7 "WordGuest$Flags" "n" "Z", Cond.fieldLink RX0 13 "WordGuest$Flags" "z" "Z", Cond.static yX4_signOf, Cond.initialized RX4, Cond.code yX4_signOf cX4_signOf 1 (some .int), Cond.constant RX4 93 (32768), Cond.methodLink RX3 99 yX2_store, Cond.instanceMethod yX2_store, Cond.selects RX2 yX2_store yX2_store, Cond.code yX2_store cX2_store 5 none, Cond.methodLink RX2 64 yX1_write, Cond.instanceMethod yX1_write, Cond.selects RX1 yX1_write yX1_write, Cond.code yX1_write cX1_write 6 none, Cond.fieldLink RX1 23 "WordGuest$Memory" "toldCount" "I", Cond.fieldLink RX1 15 "WordGuest$Memory" "told" "[I"]
def wsX3_exchangeBytes : List Cond := .code yX3_exchangeBytes cX3_exchangeBytes 5 none :: ((wsX3_exchangeBytes_r1 ++ (wsX3_exchangeBytes_r2 ++ wsX3_exchangeBytes_r3)) ++ wsX30 ++ wsX00 ++ wsX20 ++ wsX10)
def wsX3_spreadSign_r1 : List Cond := [Cond.fieldLink RX3 23 "WordGuest$Processor" "parts" "LWordGuest$Parts;", Cond.constant RX3 69 (65535), Cond.fieldLink RX3 12 "WordGuest$Processor" "conditions" "LWordGuest$Flags;", Cond.methodLink RX3 74 yX2_locate, Cond.instanceMethod yX2_locate, Cond.selects RX2 yX2_locate yX2_locate, Cond.initialized RX2, Cond.code yX2_locate cX2_locate 4 (some .int), Cond.constant RX2 38 (65536), Cond.fieldLink RX2 9 "WordGuest$Parts" "registers" "[I", Cond.constant RX2 46 (65535), Cond.methodLink RX2 39 yX2_strideOf, Cond.static yX2_strideOf, Cond.code yX2_strideOf cX2_strideOf 2 (some .int), Cond.methodLink RX2 43 yX2_grow, Cond.instanceMethod yX2_grow, Cond.selects RX2 yX2_grow yX2_grow, Cond.code yX2_grow cX2_grow 4 (some .int), Cond.methodLink RX2 47 yX2_fetch, Cond.instanceMethod yX2_fetch, Cond.selects RX2 yX2_fetch yX2_fetch, Cond.code yX2_fetch cX2_fetch 3 (some .int), Cond.fieldLink RX2 28 "WordGuest$Parts" "fault" "I", Cond.fieldLink RX2 18 "WordGuest$Parts" "memory" "LWordGuest$Memory;"]
def wsX3_spreadSign_r2 : List Cond := [Cond.methodLink RX2 56 yX1_faultAt, Cond.instanceMethod yX1_faultAt, Cond.selects RX1 yX1_faultAt yX1_faultAt, Cond.initialized RX1, Cond.code yX1_faultAt cX1_faultAt 3 (some .int), Cond.constant RX1 18 (65535), Cond.methodLink RX2 61 yX1_valueAt, Cond.instanceMethod yX1_valueAt, Cond.selects RX1 yX1_valueAt yX1_valueAt, Cond.code yX1_valueAt cX1_valueAt 4 (some .int), Cond.fieldLink RX1 9 "WordGuest$Memory" "words" "[I", Cond.methodLink RX2 50 yX2_shrink, Cond.instanceMethod yX2_shrink, Cond.selects RX2 yX2_shrink yX2_shrink, Cond.code yX2_shrink cX2_shrink 3 (some .int), Cond.methodLink RX2 53 yX2_fromRegister, Cond.instanceMethod yX2_fromRegister, Cond.selects RX2 yX2_fromRegister yX2_fromRegister, Cond.code yX2_fromRegister cX2_fromRegister 3 (some .int), Cond.methodLink RX3 99 yX2_store, Cond.instanceMethod yX2_store, Cond.selects RX2 yX2_store yX2_store, Cond.code yX2_store cX2_store 5 none, Cond.methodLink RX2 64 yX1_write]
def wsX3_spreadSign_r3 : List Cond := [Cond.instanceMethod yX1_write, Cond.selects RX1 yX1_write yX1_write, Cond.code yX1_write cX1_write 6 none, Cond.fieldLink RX1 23 "WordGuest$Memory" "toldCount" "I", Cond.fieldLink RX1 15 "WordGuest$Memory" "told" "[I"]
def wsX3_spreadSign : List Cond := .code yX3_spreadSign cX3_spreadSign 4 none :: ((wsX3_spreadSign_r1 ++ (wsX3_spreadSign_r2 ++ wsX3_spreadSign_r3)) ++ wsX30 ++ wsX00 ++ wsX20 ++ wsX10)
def wsX3_performByHead_r1 : List Cond := [Cond.methodLink RX3 65 yX3_hasHighestBit, Cond.static yX3_hasHighestBit, Cond.initialized RX3, Cond.code yX3_hasHighestBit cX3_hasHighestBit 1 (some .boolean), Cond.constant RX3 64 (32768), Cond.methodLink RX3 108 yX3_performOne, Cond.instanceMethod yX3_performOne, Cond.selects RX3 yX3_performOne yX3_performOne, Cond.code yX3_performOne cX3_performOne 8 none, Cond.fieldLink RX3 23 "WordGuest$Processor" "parts" "LWordGuest$Parts;", Cond.fieldLink RX3 12 "WordGuest$Processor" "conditions" "LWordGuest$Flags;", Cond.methodLink RX3 70 yX3_sizeIn, Cond.static yX3_sizeIn, Cond.code yX3_sizeIn cX3_sizeIn 1 (some .int), Cond.constant RX3 69 (65535), Cond.methodLink RX3 74 yX2_locate, Cond.instanceMethod yX2_locate, Cond.selects RX2 yX2_locate yX2_locate, Cond.initialized RX2, Cond.code yX2_locate cX2_locate 4 (some .int), Cond.constant RX2 38 (65536), Cond.fieldLink RX2 9 "WordGuest$Parts" "registers" "[I", Cond.constant RX2 46 (65535), Cond.methodLink RX2 39 yX2_strideOf]
def wsX3_performByHead_r2 : List Cond := [Cond.static yX2_strideOf, Cond.code yX2_strideOf cX2_strideOf 2 (some .int), Cond.methodLink RX2 43 yX2_grow, Cond.instanceMethod yX2_grow, Cond.selects RX2 yX2_grow yX2_grow, Cond.code yX2_grow cX2_grow 4 (some .int), Cond.methodLink RX2 47 yX2_fetch, Cond.instanceMethod yX2_fetch, Cond.selects RX2 yX2_fetch yX2_fetch, Cond.code yX2_fetch cX2_fetch 3 (some .int), Cond.fieldLink RX2 28 "WordGuest$Parts" "fault" "I", Cond.fieldLink RX2 18 "WordGuest$Parts" "memory" "LWordGuest$Memory;", Cond.methodLink RX2 56 yX1_faultAt, Cond.instanceMethod yX1_faultAt, Cond.selects RX1 yX1_faultAt yX1_faultAt, Cond.initialized RX1, Cond.code yX1_faultAt cX1_faultAt 3 (some .int), Cond.constant RX1 18 (65535), Cond.methodLink RX2 61 yX1_valueAt, Cond.instanceMethod yX1_valueAt, Cond.selects RX1 yX1_valueAt yX1_valueAt, Cond.code yX1_valueAt cX1_valueAt 4 (some .int), Cond.fieldLink RX1 9 "WordGuest$Memory" "words" "[I", Cond.methodLink RX2 50 yX2_shrink]
def wsX3_performByHead_r3 : List Cond := [Cond.instanceMethod yX2_shrink, Cond.selects RX2 yX2_shrink yX2_shrink, Cond.code yX2_shrink cX2_shrink 3 (some .int), Cond.methodLink RX2 53 yX2_fromRegister, Cond.instanceMethod yX2_fromRegister, Cond.selects RX2 yX2_fromRegister yX2_fromRegister, Cond.code yX2_fromRegister cX2_fromRegister 3 (some .int), Cond.methodLink RX3 78 yX2_fetch, Cond.methodLink RX3 132 yX3_count, Cond.instanceMethod yX3_count, Cond.selects RX3 yX3_count yX3_count, Cond.code yX3_count cX3_count 4 (some .int), Cond.methodLink RX3 141 yX3_withoutOverflow, Cond.instanceMethod yX3_withoutOverflow, Cond.selects RX3 yX3_withoutOverflow yX3_withoutOverflow, Cond.code yX3_withoutOverflow cX3_withoutOverflow 3 (some .int), Cond.methodLink RX3 145 yX3_oneMore, Cond.instanceMethod yX3_oneMore, Cond.selects RX3 yX3_oneMore yX3_oneMore, Cond.code yX3_oneMore cX3_oneMore 4 (some .int), Cond.static yX4_signOf, Cond.initialized RX4, Cond.code yX4_signOf cX4_signOf 1 (some .int), Cond.constant RX4 93 (32768)]
def wsX3_performByHead_r4 : List Cond := [Cond.methodLink RX3 148 yX3_oneLess, Cond.instanceMethod yX3_oneLess, Cond.selects RX3 yX3_oneLess yX3_oneLess, Cond.code yX3_oneLess cX3_oneLess 4 (some .int), Cond.methodLink RX3 151 yX3_minus, Cond.instanceMethod yX3_minus, Cond.selects RX3 yX3_minus yX3_minus, Cond.code yX3_minus cX3_minus 4 (some .int), Cond.methodLink RX3 154 yX3_carryMore, Cond.instanceMethod yX3_carryMore, Cond.selects RX3 yX3_carryMore yX3_carryMore, Cond.code yX3_carryMore cX3_carryMore 3 (some .int), Cond.methodLink RX3 157 yX3_carryLess, Cond.instanceMethod yX3_carryLess, Cond.selects RX3 yX3_carryLess yX3_carryLess, Cond.code yX3_carryLess cX3_carryLess 3 (some .int), Cond.methodLink RX3 89 yX0_setByResult, Cond.instanceMethod yX0_setByResult, Cond.selects RX0 yX0_setByResult yX0_setByResult, Cond.initialized RX0, Cond.code yX0_setByResult cX0_setByResult 3 none, Cond.fieldLink RX0 7 "WordGuest$Flags" "n" "Z", Cond.fieldLink RX0 13 "WordGuest$Flags" "z" "Z", Cond.methodLink RX3 135 yX3_shiftByOne]
def wsX3_performByHead_r5 : List Cond := [Cond.instanceMethod yX3_shiftByOne, Cond.selects RX3 yX3_shiftByOne yX3_shiftByOne, Cond.code yX3_shiftByOne cX3_shiftByOne 7 (some .int), Cond.methodLink RX3 99 yX2_store, Cond.instanceMethod yX2_store, Cond.selects RX2 yX2_store yX2_store, Cond.code yX2_store cX2_store 5 none, Cond.methodLink RX2 64 yX1_write, Cond.instanceMethod yX1_write, Cond.selects RX1 yX1_write yX1_write, Cond.code yX1_write cX1_write 6 none, Cond.fieldLink RX1 23 "WordGuest$Memory" "toldCount" "I", Cond.fieldLink RX1 15 "WordGuest$Memory" "told" "[I", Cond.methodLink RX3 111 yX3_branch, Cond.instanceMethod yX3_branch, Cond.selects RX3 yX3_branch yX3_branch, Cond.code yX3_branch cX3_branch 2 none, Cond.methodLink RX3 198 yX3_isMet, Cond.instanceMethod yX3_isMet, Cond.selects RX3 yX3_isMet yX3_isMet, Cond.code yX3_isMet cX3_isMet 3 (some .boolean), Cond.methodLink RX3 201 yX0_below, Cond.instanceMethod yX0_below, Cond.selects RX0 yX0_below yX0_below]
def wsX3_performByHead_r6 : List Cond := [Cond.code yX0_below cX0_below 1 (some .boolean), Cond.fieldLink RX0 16 "WordGuest$Flags" "v" "Z", Cond.static yX4_signed, Cond.code yX4_signed cX4_signed 3 (some .int), Cond.methodLink RX4 94 yX4_signOf, Cond.methodLink RX3 195 yX2_goOn, Cond.instanceMethod yX2_goOn, Cond.selects RX2 yX2_goOn yX2_goOn, Cond.code yX2_goOn cX2_goOn 2 none, Cond.methodLink RX3 114 yX3_refuse, Cond.instanceMethod yX3_refuse, Cond.selects RX3 yX3_refuse yX3_refuse, Cond.code yX3_refuse cX3_refuse 1 none, Cond.methodLink RX3 117 yX3_callPart, Cond.instanceMethod yX3_callPart, Cond.selects RX3 yX3_callPart yX3_callPart, Cond.code yX3_callPart cX3_callPart 4 none, Cond.methodLink RX3 205 yX3_isRegisterWay, Cond.static yX3_isRegisterWay, Cond.code yX3_isRegisterWay cX3_isRegisterWay 1 (some .boolean), Cond.methodLink RX3 208 yX2_push, Cond.instanceMethod yX2_push, Cond.selects RX2 yX2_push yX2_push, Cond.code yX2_push cX2_push 2 none]
def wsX3_performByHead_r7 : List Cond := [Cond.methodLink RX2 71 yX2_store, Cond.methodLink RX3 120 yX3_jump, Cond.instanceMethod yX3_jump, Cond.selects RX3 yX3_jump yX3_jump, Cond.code yX3_jump cX3_jump 2 none, Cond.methodLink RX3 123 yX3_returnOrSetFlags, Cond.instanceMethod yX3_returnOrSetFlags, Cond.selects RX3 yX3_returnOrSetFlags yX3_returnOrSetFlags, Cond.code yX3_returnOrSetFlags cX3_returnOrSetFlags 4 none, Cond.methodLink RX3 211 yX2_pop, Cond.instanceMethod yX2_pop, Cond.selects RX2 yX2_pop yX2_pop, Cond.code yX2_pop cX2_pop 1 (some .int), Cond.methodLink RX3 37 yX0_number, Cond.instanceMethod yX0_number, Cond.selects RX0 yX0_number yX0_number, Cond.code yX0_number cX0_number 1 (some .int), Cond.fieldLink RX0 19 "WordGuest$Flags" "c" "Z", Cond.methodLink RX3 30 yX0_become, Cond.instanceMethod yX0_become, Cond.selects RX0 yX0_become yX0_become, Cond.code yX0_become cX0_become 2 none, Cond.methodLink RX3 126 yX3_exchangeBytes, Cond.instanceMethod yX3_exchangeBytes]
def wsX3_performByHead_r8 : List Cond := [Cond.selects RX3 yX3_exchangeBytes yX3_exchangeBytes, Cond.code yX3_exchangeBytes cX3_exchangeBytes 5 none, Cond.methodLink RX3 129 yX3_spreadSign, Cond.instanceMethod yX3_spreadSign, Cond.selects RX3 yX3_spreadSign yX3_spreadSign, Cond.code yX3_spreadSign cX3_spreadSign 4 none]
def wsX3_performByHead : List Cond := .code yX3_performByHead cX3_performByHead 4 none :: ((wsX3_performByHead_r1 ++ (wsX3_performByHead_r2 ++ (wsX3_performByHead_r3 ++ (wsX3_performByHead_r4 ++ (wsX3_performByHead_r5 ++ (wsX3_performByHead_r6 ++ (wsX3_performByHead_r7 ++ wsX3_performByHead_r8))))))) ++ wsX30 ++ wsX00 ++ wsX20 ++ wsX10)
def wsX3_setByDifference : List Cond := .code yX3_setByDifference cX3_setByDifference 5 none :: ([.fieldLink RX3 12 "WordGuest$Processor" "conditions" "LWordGuest$Flags;", .methodLink RX3 89 yX0_setByResult, .instanceMethod yX0_setByResult, .selects RX0 yX0_setByResult yX0_setByResult, .initialized RX0, .code yX0_setByResult cX0_setByResult 3 none, .fieldLink RX0 7 "WordGuest$Flags" "n" "Z", .fieldLink RX0 13 "WordGuest$Flags" "z" "Z", .static yX4_signOf, .initialized RX4, .code yX4_signOf cX4_signOf 1 (some .int), .constant RX4 93 (32768)] ++ wsX30 ++ wsX00)
def wsX3_addOrSubtract_r1 : List Cond := [Cond.fieldLink RX3 23 "WordGuest$Processor" "parts" "LWordGuest$Parts;", Cond.constant RX3 69 (65535), Cond.fieldLink RX3 12 "WordGuest$Processor" "conditions" "LWordGuest$Flags;", Cond.constant RX3 64 (32768), Cond.methodLink RX3 74 yX2_locate, Cond.instanceMethod yX2_locate, Cond.selects RX2 yX2_locate yX2_locate, Cond.initialized RX2, Cond.code yX2_locate cX2_locate 4 (some .int), Cond.constant RX2 38 (65536), Cond.fieldLink RX2 9 "WordGuest$Parts" "registers" "[I", Cond.constant RX2 46 (65535), Cond.methodLink RX2 39 yX2_strideOf, Cond.static yX2_strideOf, Cond.code yX2_strideOf cX2_strideOf 2 (some .int), Cond.methodLink RX2 43 yX2_grow, Cond.instanceMethod yX2_grow, Cond.selects RX2 yX2_grow yX2_grow, Cond.code yX2_grow cX2_grow 4 (some .int), Cond.methodLink RX2 47 yX2_fetch, Cond.instanceMethod yX2_fetch, Cond.selects RX2 yX2_fetch yX2_fetch, Cond.code yX2_fetch cX2_fetch 3 (some .int), Cond.fieldLink RX2 28 "WordGuest$Parts" "fault" "I"]
def wsX3_addOrSubtract_r2 : List Cond := [Cond.fieldLink RX2 18 "WordGuest$Parts" "memory" "LWordGuest$Memory;", Cond.methodLink RX2 56 yX1_faultAt, Cond.instanceMethod yX1_faultAt, Cond.selects RX1 yX1_faultAt yX1_faultAt, Cond.initialized RX1, Cond.code yX1_faultAt cX1_faultAt 3 (some .int), Cond.constant RX1 18 (65535), Cond.methodLink RX2 61 yX1_valueAt, Cond.instanceMethod yX1_valueAt, Cond.selects RX1 yX1_valueAt yX1_valueAt, Cond.code yX1_valueAt cX1_valueAt 4 (some .int), Cond.fieldLink RX1 9 "WordGuest$Memory" "words" "[I", Cond.methodLink RX2 50 yX2_shrink, Cond.instanceMethod yX2_shrink, Cond.selects RX2 yX2_shrink yX2_shrink, Cond.code yX2_shrink cX2_shrink 3 (some .int), Cond.methodLink RX2 53 yX2_fromRegister, Cond.instanceMethod yX2_fromRegister, Cond.selects RX2 yX2_fromRegister yX2_fromRegister, Cond.code yX2_fromRegister cX2_fromRegister 3 (some .int), Cond.methodLink RX3 78 yX2_fetch, Cond.methodLink RX3 65 yX3_hasHighestBit, Cond.static yX3_hasHighestBit, Cond.initialized RX3]
def wsX3_addOrSubtract_r3 : List Cond := [Cond.code yX3_hasHighestBit cX3_hasHighestBit 1 (some .boolean), Cond.methodLink RX3 81 yX3_setByDifference, Cond.instanceMethod yX3_setByDifference, Cond.selects RX3 yX3_setByDifference yX3_setByDifference, Cond.code yX3_setByDifference cX3_setByDifference 5 none, Cond.methodLink RX3 89 yX0_setByResult, Cond.instanceMethod yX0_setByResult, Cond.selects RX0 yX0_setByResult yX0_setByResult, Cond.initialized RX0, Cond.code yX0_setByResult cX0_setByResult 3 none, Cond.fieldLink RX0 7 "WordGuest$Flags" "n" "Z", Cond.fieldLink RX0 13 "WordGuest$Flags" "z" "Z", Cond.static yX4_signOf, Cond.initialized RX4, Cond.code yX4_signOf cX4_signOf 1 (some .int), Cond.constant RX4 93 (32768), Cond.methodLink RX3 99 yX2_store, Cond.instanceMethod yX2_store, Cond.selects RX2 yX2_store yX2_store, Cond.code yX2_store cX2_store 5 none, Cond.methodLink RX2 64 yX1_write, Cond.instanceMethod yX1_write, Cond.selects RX1 yX1_write yX1_write, Cond.code yX1_write cX1_write 6 none]
def wsX3_addOrSubtract_r4 : List Cond := [Cond.fieldLink RX1 23 "WordGuest$Memory" "toldCount" "I", Cond.fieldLink RX1 15 "WordGuest$Memory" "told" "[I"]
def wsX3_addOrSubtract : List Cond := .code yX3_addOrSubtract cX3_addOrSubtract 6 none :: ((wsX3_addOrSubtract_r1 ++ (wsX3_addOrSubtract_r2 ++ (wsX3_addOrSubtract_r3 ++ wsX3_addOrSubtract_r4))) ++ wsX30 ++ wsX00 ++ wsX20 ++ wsX10)
def wsX3_fitsWord : List Cond := .code yX3_fitsWord cX3_fitsWord 2 (some .boolean) :: ([.constantLong RX3 191 (-32768), .constantLong RX3 193 (32768)])
def wsX3_multiply_r1 : List Cond := [Cond.fieldLink RX3 23 "WordGuest$Processor" "parts" "LWordGuest$Parts;", Cond.constant RX3 69 (65535), Cond.fieldLink RX3 12 "WordGuest$Processor" "conditions" "LWordGuest$Flags;", Cond.methodLink RX3 74 yX2_locate, Cond.instanceMethod yX2_locate, Cond.selects RX2 yX2_locate yX2_locate, Cond.initialized RX2, Cond.code yX2_locate cX2_locate 4 (some .int), Cond.constant RX2 38 (65536), Cond.fieldLink RX2 9 "WordGuest$Parts" "registers" "[I", Cond.constant RX2 46 (65535), Cond.methodLink RX2 39 yX2_strideOf, Cond.static yX2_strideOf, Cond.code yX2_strideOf cX2_strideOf 2 (some .int), Cond.methodLink RX2 43 yX2_grow, Cond.instanceMethod yX2_grow, Cond.selects RX2 yX2_grow yX2_grow, Cond.code yX2_grow cX2_grow 4 (some .int), Cond.methodLink RX2 47 yX2_fetch, Cond.instanceMethod yX2_fetch, Cond.selects RX2 yX2_fetch yX2_fetch, Cond.code yX2_fetch cX2_fetch 3 (some .int), Cond.fieldLink RX2 28 "WordGuest$Parts" "fault" "I", Cond.fieldLink RX2 18 "WordGuest$Parts" "memory" "LWordGuest$Memory;"]
def wsX3_multiply_r2 : List Cond := [Cond.methodLink RX2 56 yX1_faultAt, Cond.instanceMethod yX1_faultAt, Cond.selects RX1 yX1_faultAt yX1_faultAt, Cond.initialized RX1, Cond.code yX1_faultAt cX1_faultAt 3 (some .int), Cond.constant RX1 18 (65535), Cond.methodLink RX2 61 yX1_valueAt, Cond.instanceMethod yX1_valueAt, Cond.selects RX1 yX1_valueAt yX1_valueAt, Cond.code yX1_valueAt cX1_valueAt 4 (some .int), Cond.fieldLink RX1 9 "WordGuest$Memory" "words" "[I", Cond.methodLink RX2 50 yX2_shrink, Cond.instanceMethod yX2_shrink, Cond.selects RX2 yX2_shrink yX2_shrink, Cond.code yX2_shrink cX2_shrink 3 (some .int), Cond.methodLink RX2 53 yX2_fromRegister, Cond.instanceMethod yX2_fromRegister, Cond.selects RX2 yX2_fromRegister yX2_fromRegister, Cond.code yX2_fromRegister cX2_fromRegister 3 (some .int), Cond.methodLink RX3 78 yX2_fetch, Cond.static yX4_signed, Cond.initialized RX4, Cond.code yX4_signed cX4_signed 3 (some .int), Cond.methodLink RX4 94 yX4_signOf]
def wsX3_multiply_r3 : List Cond := [Cond.static yX4_signOf, Cond.code yX4_signOf cX4_signOf 1 (some .int), Cond.constant RX4 93 (32768), Cond.methodLink RX3 185 yX3_fitsWord, Cond.static yX3_fitsWord, Cond.initialized RX3, Cond.code yX3_fitsWord cX3_fitsWord 2 (some .boolean), Cond.constantLong RX3 191 (-32768), Cond.constantLong RX3 193 (32768)]
def wsX3_multiply : List Cond := .code yX3_multiply cX3_multiply 5 none :: ((wsX3_multiply_r1 ++ (wsX3_multiply_r2 ++ wsX3_multiply_r3)) ++ wsX30 ++ wsX20 ++ wsX00 ++ wsX10)
def wsX3_divide_r1 : List Cond := [Cond.fieldLink RX3 23 "WordGuest$Processor" "parts" "LWordGuest$Parts;", Cond.constant RX3 69 (65535), Cond.fieldLink RX3 12 "WordGuest$Processor" "conditions" "LWordGuest$Flags;", Cond.constantLong RX3 189 (65535), Cond.methodLink RX3 114 yX3_refuse, Cond.instanceMethod yX3_refuse, Cond.selects RX3 yX3_refuse yX3_refuse, Cond.initialized RX3, Cond.code yX3_refuse cX3_refuse 1 none, Cond.methodLink RX3 74 yX2_locate, Cond.instanceMethod yX2_locate, Cond.selects RX2 yX2_locate yX2_locate, Cond.initialized RX2, Cond.code yX2_locate cX2_locate 4 (some .int), Cond.constant RX2 38 (65536), Cond.fieldLink RX2 9 "WordGuest$Parts" "registers" "[I", Cond.constant RX2 46 (65535), Cond.methodLink RX2 39 yX2_strideOf, Cond.static yX2_strideOf, Cond.code yX2_strideOf cX2_strideOf 2 (some .int), Cond.methodLink RX2 43 yX2_grow, Cond.instanceMethod yX2_grow, Cond.selects RX2 yX2_grow yX2_grow, Cond.code yX2_grow cX2_grow 4 (some .int)]
def wsX3_divide_r2 : List Cond := [Cond.methodLink RX2 47 yX2_fetch, Cond.instanceMethod yX2_fetch, Cond.selects RX2 yX2_fetch yX2_fetch, Cond.code yX2_fetch cX2_fetch 3 (some .int), Cond.fieldLink RX2 28 "WordGuest$Parts" "fault" "I", Cond.fieldLink RX2 18 "WordGuest$Parts" "memory" "LWordGuest$Memory;", Cond.methodLink RX2 56 yX1_faultAt, Cond.instanceMethod yX1_faultAt, Cond.selects RX1 yX1_faultAt yX1_faultAt, Cond.initialized RX1, Cond.code yX1_faultAt cX1_faultAt 3 (some .int), Cond.constant RX1 18 (65535), Cond.methodLink RX2 61 yX1_valueAt, Cond.instanceMethod yX1_valueAt, Cond.selects RX1 yX1_valueAt yX1_valueAt, Cond.code yX1_valueAt cX1_valueAt 4 (some .int), Cond.fieldLink RX1 9 "WordGuest$Memory" "words" "[I", Cond.methodLink RX2 50 yX2_shrink, Cond.instanceMethod yX2_shrink, Cond.selects RX2 yX2_shrink yX2_shrink, Cond.code yX2_shrink cX2_shrink 3 (some .int), Cond.methodLink RX2 53 yX2_fromRegister, Cond.instanceMethod yX2_fromRegister, Cond.selects RX2 yX2_fromRegister yX2_fromRegister]
def wsX3_divide_r3 : List Cond := [Cond.code yX2_fromRegister cX2_fromRegister 3 (some .int), Cond.methodLink RX3 78 yX2_fetch, Cond.static yX4_signed, Cond.initialized RX4, Cond.code yX4_signed cX4_signed 3 (some .int), Cond.methodLink RX4 94 yX4_signOf, Cond.static yX4_signOf, Cond.code yX4_signOf cX4_signOf 1 (some .int), Cond.constant RX4 93 (32768), Cond.methodLink RX3 185 yX3_fitsWord, Cond.static yX3_fitsWord, Cond.code yX3_fitsWord cX3_fitsWord 2 (some .boolean), Cond.constantLong RX3 191 (-32768), Cond.constantLong RX3 193 (32768)]
def wsX3_divide : List Cond := .code yX3_divide cX3_divide 8 none :: ((wsX3_divide_r1 ++ (wsX3_divide_r2 ++ wsX3_divide_r3)) ++ wsX30 ++ wsX00 ++ wsX20 ++ wsX10)
def wsX3_shift_r1 : List Cond := [Cond.fieldLink RX3 23 "WordGuest$Processor" "parts" "LWordGuest$Parts;", Cond.constant RX3 69 (65535), Cond.fieldLink RX3 12 "WordGuest$Processor" "conditions" "LWordGuest$Flags;", Cond.constantLong RX3 189 (65535), Cond.constant RX3 64 (32768), Cond.methodLink RX3 74 yX2_locate, Cond.instanceMethod yX2_locate, Cond.selects RX2 yX2_locate yX2_locate, Cond.initialized RX2, Cond.code yX2_locate cX2_locate 4 (some .int), Cond.constant RX2 38 (65536), Cond.fieldLink RX2 9 "WordGuest$Parts" "registers" "[I", Cond.constant RX2 46 (65535), Cond.methodLink RX2 39 yX2_strideOf, Cond.static yX2_strideOf, Cond.code yX2_strideOf cX2_strideOf 2 (some .int), Cond.methodLink RX2 43 yX2_grow, Cond.instanceMethod yX2_grow, Cond.selects RX2 yX2_grow yX2_grow, Cond.code yX2_grow cX2_grow 4 (some .int), Cond.methodLink RX2 47 yX2_fetch, Cond.instanceMethod yX2_fetch, Cond.selects RX2 yX2_fetch yX2_fetch, Cond.code yX2_fetch cX2_fetch 3 (some .int)]
def wsX3_shift_r2 : List Cond := [Cond.fieldLink RX2 28 "WordGuest$Parts" "fault" "I", Cond.fieldLink RX2 18 "WordGuest$Parts" "memory" "LWordGuest$Memory;", Cond.methodLink RX2 56 yX1_faultAt, Cond.instanceMethod yX1_faultAt, Cond.selects RX1 yX1_faultAt yX1_faultAt, Cond.initialized RX1, Cond.code yX1_faultAt cX1_faultAt 3 (some .int), Cond.constant RX1 18 (65535), Cond.methodLink RX2 61 yX1_valueAt, Cond.instanceMethod yX1_valueAt, Cond.selects RX1 yX1_valueAt yX1_valueAt, Cond.code yX1_valueAt cX1_valueAt 4 (some .int), Cond.fieldLink RX1 9 "WordGuest$Memory" "words" "[I", Cond.methodLink RX2 50 yX2_shrink, Cond.instanceMethod yX2_shrink, Cond.selects RX2 yX2_shrink yX2_shrink, Cond.code yX2_shrink cX2_shrink 3 (some .int), Cond.methodLink RX2 53 yX2_fromRegister, Cond.instanceMethod yX2_fromRegister, Cond.selects RX2 yX2_fromRegister yX2_fromRegister, Cond.code yX2_fromRegister cX2_fromRegister 3 (some .int), Cond.methodLink RX3 78 yX2_fetch, Cond.static yX4_signed, Cond.initialized RX4]
def wsX3_shift_r3 : List Cond := [Cond.code yX4_signed cX4_signed 3 (some .int), Cond.methodLink RX4 94 yX4_signOf, Cond.static yX4_signOf, Cond.code yX4_signOf cX4_signOf 1 (some .int), Cond.constant RX4 93 (32768), Cond.methodLink RX3 89 yX0_setByResult, Cond.instanceMethod yX0_setByResult, Cond.selects RX0 yX0_setByResult yX0_setByResult, Cond.initialized RX0, Cond.code yX0_setByResult cX0_setByResult 3 none, Cond.fieldLink RX0 7 "WordGuest$Flags" "n" "Z", Cond.fieldLink RX0 13 "WordGuest$Flags" "z" "Z"]
def wsX3_shift : List Cond := .code yX3_shift cX3_shift 10 none :: ((wsX3_shift_r1 ++ (wsX3_shift_r2 ++ wsX3_shift_r3)) ++ wsX30 ++ wsX20 ++ wsX00 ++ wsX10)
def wsX3_exclude_r1 : List Cond := [Cond.fieldLink RX3 23 "WordGuest$Processor" "parts" "LWordGuest$Parts;", Cond.constant RX3 69 (65535), Cond.fieldLink RX3 12 "WordGuest$Processor" "conditions" "LWordGuest$Flags;", Cond.methodLink RX3 74 yX2_locate, Cond.instanceMethod yX2_locate, Cond.selects RX2 yX2_locate yX2_locate, Cond.initialized RX2, Cond.code yX2_locate cX2_locate 4 (some .int), Cond.constant RX2 38 (65536), Cond.fieldLink RX2 9 "WordGuest$Parts" "registers" "[I", Cond.constant RX2 46 (65535), Cond.methodLink RX2 39 yX2_strideOf, Cond.static yX2_strideOf, Cond.code yX2_strideOf cX2_strideOf 2 (some .int), Cond.methodLink RX2 43 yX2_grow, Cond.instanceMethod yX2_grow, Cond.selects RX2 yX2_grow yX2_grow, Cond.code yX2_grow cX2_grow 4 (some .int), Cond.methodLink RX2 47 yX2_fetch, Cond.instanceMethod yX2_fetch, Cond.selects RX2 yX2_fetch yX2_fetch, Cond.code yX2_fetch cX2_fetch 3 (some .int), Cond.fieldLink RX2 28 "WordGuest$Parts" "fault" "I", Cond.fieldLink RX2 18 "WordGuest$Parts" "memory" "LWordGuest$Memory;"]
def wsX3_exclude_r2 : List Cond := [Cond.methodLink RX2 56 yX1_faultAt, Cond.instanceMethod yX1_faultAt, Cond.selects RX1 yX1_faultAt yX1_faultAt, Cond.initialized RX1, Cond.code yX1_faultAt cX1_faultAt 3 (some .int), Cond.constant RX1 18 (65535), Cond.methodLink RX2 61 yX1_valueAt, Cond.instanceMethod yX1_valueAt, Cond.selects RX1 yX1_valueAt yX1_valueAt, Cond.code yX1_valueAt cX1_valueAt 4 (some .int), Cond.fieldLink RX1 9 "WordGuest$Memory" "words" "[I", Cond.methodLink RX2 50 yX2_shrink, Cond.instanceMethod yX2_shrink, Cond.selects RX2 yX2_shrink yX2_shrink, Cond.code yX2_shrink cX2_shrink 3 (some .int), Cond.methodLink RX2 53 yX2_fromRegister, Cond.instanceMethod yX2_fromRegister, Cond.selects RX2 yX2_fromRegister yX2_fromRegister, Cond.code yX2_fromRegister cX2_fromRegister 3 (some .int), Cond.methodLink RX3 78 yX2_fetch, Cond.methodLink RX3 89 yX0_setByResult, Cond.instanceMethod yX0_setByResult, Cond.selects RX0 yX0_setByResult yX0_setByResult, Cond.initialized RX0]
def wsX3_exclude_r3 : List Cond := [Cond.code yX0_setByResult cX0_setByResult 3 none, Cond.fieldLink RX0 7 "WordGuest$Flags" "n" "Z", Cond.fieldLink RX0 13 "WordGuest$Flags" "z" "Z", Cond.static yX4_signOf, Cond.initialized RX4, Cond.code yX4_signOf cX4_signOf 1 (some .int), Cond.constant RX4 93 (32768), Cond.methodLink RX3 99 yX2_store, Cond.instanceMethod yX2_store, Cond.selects RX2 yX2_store yX2_store, Cond.code yX2_store cX2_store 5 none, Cond.methodLink RX2 64 yX1_write, Cond.instanceMethod yX1_write, Cond.selects RX1 yX1_write yX1_write, Cond.code yX1_write cX1_write 6 none, Cond.fieldLink RX1 23 "WordGuest$Memory" "toldCount" "I", Cond.fieldLink RX1 15 "WordGuest$Memory" "told" "[I"]
def wsX3_exclude : List Cond := .code yX3_exclude cX3_exclude 5 none :: ((wsX3_exclude_r1 ++ (wsX3_exclude_r2 ++ wsX3_exclude_r3)) ++ wsX30 ++ wsX20 ++ wsX00 ++ wsX10)
def wsX3_countDown : List Cond := .code yX3_countDown cX3_countDown 3 none :: ([.fieldLink RX3 23 "WordGuest$Processor" "parts" "LWordGuest$Parts;", .constant RX3 69 (65535), .methodLink RX3 195 yX2_goOn, .instanceMethod yX2_goOn, .selects RX2 yX2_goOn yX2_goOn, .initialized RX2, .code yX2_goOn cX2_goOn 2 none, .fieldLink RX2 9 "WordGuest$Parts" "registers" "[I", .constant RX2 46 (65535)] ++ wsX30 ++ wsX20)
def wsX3_performWithRegister_r1 : List Cond := [Cond.methodLink RX3 65 yX3_hasHighestBit, Cond.static yX3_hasHighestBit, Cond.initialized RX3, Cond.code yX3_hasHighestBit cX3_hasHighestBit 1 (some .boolean), Cond.constant RX3 64 (32768), Cond.methodLink RX3 114 yX3_refuse, Cond.instanceMethod yX3_refuse, Cond.selects RX3 yX3_refuse yX3_refuse, Cond.code yX3_refuse cX3_refuse 1 none, Cond.fieldLink RX3 23 "WordGuest$Processor" "parts" "LWordGuest$Parts;", Cond.methodLink RX3 163 yX3_multiply, Cond.instanceMethod yX3_multiply, Cond.selects RX3 yX3_multiply yX3_multiply, Cond.code yX3_multiply cX3_multiply 5 none, Cond.constant RX3 69 (65535), Cond.fieldLink RX3 12 "WordGuest$Processor" "conditions" "LWordGuest$Flags;", Cond.methodLink RX3 74 yX2_locate, Cond.instanceMethod yX2_locate, Cond.selects RX2 yX2_locate yX2_locate, Cond.initialized RX2, Cond.code yX2_locate cX2_locate 4 (some .int), Cond.constant RX2 38 (65536), Cond.fieldLink RX2 9 "WordGuest$Parts" "registers" "[I", Cond.constant RX2 46 (65535)]
def wsX3_performWithRegister_r2 : List Cond := [Cond.methodLink RX2 39 yX2_strideOf, Cond.static yX2_strideOf, Cond.code yX2_strideOf cX2_strideOf 2 (some .int), Cond.methodLink RX2 43 yX2_grow, Cond.instanceMethod yX2_grow, Cond.selects RX2 yX2_grow yX2_grow, Cond.code yX2_grow cX2_grow 4 (some .int), Cond.methodLink RX2 47 yX2_fetch, Cond.instanceMethod yX2_fetch, Cond.selects RX2 yX2_fetch yX2_fetch, Cond.code yX2_fetch cX2_fetch 3 (some .int), Cond.fieldLink RX2 28 "WordGuest$Parts" "fault" "I", Cond.fieldLink RX2 18 "WordGuest$Parts" "memory" "LWordGuest$Memory;", Cond.methodLink RX2 56 yX1_faultAt, Cond.instanceMethod yX1_faultAt, Cond.selects RX1 yX1_faultAt yX1_faultAt, Cond.initialized RX1, Cond.code yX1_faultAt cX1_faultAt 3 (some .int), Cond.constant RX1 18 (65535), Cond.methodLink RX2 61 yX1_valueAt, Cond.instanceMethod yX1_valueAt, Cond.selects RX1 yX1_valueAt yX1_valueAt, Cond.code yX1_valueAt cX1_valueAt 4 (some .int), Cond.fieldLink RX1 9 "WordGuest$Memory" "words" "[I"]
def wsX3_performWithRegister_r3 : List Cond := [Cond.methodLink RX2 50 yX2_shrink, Cond.instanceMethod yX2_shrink, Cond.selects RX2 yX2_shrink yX2_shrink, Cond.code yX2_shrink cX2_shrink 3 (some .int), Cond.methodLink RX2 53 yX2_fromRegister, Cond.instanceMethod yX2_fromRegister, Cond.selects RX2 yX2_fromRegister yX2_fromRegister, Cond.code yX2_fromRegister cX2_fromRegister 3 (some .int), Cond.methodLink RX3 78 yX2_fetch, Cond.static yX4_signed, Cond.initialized RX4, Cond.code yX4_signed cX4_signed 3 (some .int), Cond.methodLink RX4 94 yX4_signOf, Cond.static yX4_signOf, Cond.code yX4_signOf cX4_signOf 1 (some .int), Cond.constant RX4 93 (32768), Cond.methodLink RX3 185 yX3_fitsWord, Cond.static yX3_fitsWord, Cond.code yX3_fitsWord cX3_fitsWord 2 (some .boolean), Cond.constantLong RX3 191 (-32768), Cond.constantLong RX3 193 (32768), Cond.methodLink RX3 166 yX3_divide, Cond.instanceMethod yX3_divide, Cond.selects RX3 yX3_divide yX3_divide]
def wsX3_performWithRegister_r4 : List Cond := [Cond.code yX3_divide cX3_divide 8 none, Cond.constantLong RX3 189 (65535), Cond.methodLink RX3 169 yX3_shift, Cond.instanceMethod yX3_shift, Cond.selects RX3 yX3_shift yX3_shift, Cond.code yX3_shift cX3_shift 10 none, Cond.methodLink RX3 89 yX0_setByResult, Cond.instanceMethod yX0_setByResult, Cond.selects RX0 yX0_setByResult yX0_setByResult, Cond.initialized RX0, Cond.code yX0_setByResult cX0_setByResult 3 none, Cond.fieldLink RX0 7 "WordGuest$Flags" "n" "Z", Cond.fieldLink RX0 13 "WordGuest$Flags" "z" "Z", Cond.methodLink RX3 172 yX3_exclude, Cond.instanceMethod yX3_exclude, Cond.selects RX3 yX3_exclude yX3_exclude, Cond.code yX3_exclude cX3_exclude 5 none, Cond.methodLink RX3 99 yX2_store, Cond.instanceMethod yX2_store, Cond.selects RX2 yX2_store yX2_store, Cond.code yX2_store cX2_store 5 none, Cond.methodLink RX2 64 yX1_write, Cond.instanceMethod yX1_write, Cond.selects RX1 yX1_write yX1_write]
def wsX3_performWithRegister_r5 : List Cond := [Cond.code yX1_write cX1_write 6 none, Cond.fieldLink RX1 23 "WordGuest$Memory" "toldCount" "I", Cond.fieldLink RX1 15 "WordGuest$Memory" "told" "[I", Cond.methodLink RX3 175 yX3_countDown, Cond.instanceMethod yX3_countDown, Cond.selects RX3 yX3_countDown yX3_countDown, Cond.code yX3_countDown cX3_countDown 3 none, Cond.methodLink RX3 195 yX2_goOn, Cond.instanceMethod yX2_goOn, Cond.selects RX2 yX2_goOn yX2_goOn, Cond.code yX2_goOn cX2_goOn 2 none]
def wsX3_performWithRegister : List Cond := .code yX3_performWithRegister cX3_performWithRegister 3 none :: ((wsX3_performWithRegister_r1 ++ (wsX3_performWithRegister_r2 ++ (wsX3_performWithRegister_r3 ++ (wsX3_performWithRegister_r4 ++ wsX3_performWithRegister_r5)))) ++ wsX30 ++ wsX20 ++ wsX00 ++ wsX10)
def wsX3_combine : List Cond := .code yX3_combine cX3_combine 3 (some .int) :: ([])
def wsX3_performTwo_r1 : List Cond := [Cond.fieldLink RX3 23 "WordGuest$Processor" "parts" "LWordGuest$Parts;", Cond.fieldLink RX3 12 "WordGuest$Processor" "conditions" "LWordGuest$Flags;", Cond.methodLink RX3 70 yX3_sizeIn, Cond.static yX3_sizeIn, Cond.initialized RX3, Cond.code yX3_sizeIn cX3_sizeIn 1 (some .int), Cond.constant RX3 69 (65535), Cond.methodLink RX3 65 yX3_hasHighestBit, Cond.static yX3_hasHighestBit, Cond.code yX3_hasHighestBit cX3_hasHighestBit 1 (some .boolean), Cond.constant RX3 64 (32768), Cond.methodLink RX3 74 yX2_locate, Cond.instanceMethod yX2_locate, Cond.selects RX2 yX2_locate yX2_locate, Cond.initialized RX2, Cond.code yX2_locate cX2_locate 4 (some .int), Cond.constant RX2 38 (65536), Cond.fieldLink RX2 9 "WordGuest$Parts" "registers" "[I", Cond.constant RX2 46 (65535), Cond.methodLink RX2 39 yX2_strideOf, Cond.static yX2_strideOf, Cond.code yX2_strideOf cX2_strideOf 2 (some .int), Cond.methodLink RX2 43 yX2_grow, Cond.instanceMethod yX2_grow]
def wsX3_performTwo_r2 : List Cond := [Cond.selects RX2 yX2_grow yX2_grow, Cond.code yX2_grow cX2_grow 4 (some .int), Cond.methodLink RX2 47 yX2_fetch, Cond.instanceMethod yX2_fetch, Cond.selects RX2 yX2_fetch yX2_fetch, Cond.code yX2_fetch cX2_fetch 3 (some .int), Cond.fieldLink RX2 28 "WordGuest$Parts" "fault" "I", Cond.fieldLink RX2 18 "WordGuest$Parts" "memory" "LWordGuest$Memory;", Cond.methodLink RX2 56 yX1_faultAt, Cond.instanceMethod yX1_faultAt, Cond.selects RX1 yX1_faultAt yX1_faultAt, Cond.initialized RX1, Cond.code yX1_faultAt cX1_faultAt 3 (some .int), Cond.constant RX1 18 (65535), Cond.methodLink RX2 61 yX1_valueAt, Cond.instanceMethod yX1_valueAt, Cond.selects RX1 yX1_valueAt yX1_valueAt, Cond.code yX1_valueAt cX1_valueAt 4 (some .int), Cond.fieldLink RX1 9 "WordGuest$Memory" "words" "[I", Cond.methodLink RX2 50 yX2_shrink, Cond.instanceMethod yX2_shrink, Cond.selects RX2 yX2_shrink yX2_shrink, Cond.code yX2_shrink cX2_shrink 3 (some .int), Cond.methodLink RX2 53 yX2_fromRegister]
def wsX3_performTwo_r3 : List Cond := [Cond.instanceMethod yX2_fromRegister, Cond.selects RX2 yX2_fromRegister yX2_fromRegister, Cond.code yX2_fromRegister cX2_fromRegister 3 (some .int), Cond.methodLink RX3 78 yX2_fetch, Cond.methodLink RX3 81 yX3_setByDifference, Cond.instanceMethod yX3_setByDifference, Cond.selects RX3 yX3_setByDifference yX3_setByDifference, Cond.code yX3_setByDifference cX3_setByDifference 5 none, Cond.methodLink RX3 89 yX0_setByResult, Cond.instanceMethod yX0_setByResult, Cond.selects RX0 yX0_setByResult yX0_setByResult, Cond.initialized RX0, Cond.code yX0_setByResult cX0_setByResult 3 none, Cond.fieldLink RX0 7 "WordGuest$Flags" "n" "Z", Cond.fieldLink RX0 13 "WordGuest$Flags" "z" "Z", Cond.static yX4_signOf, Cond.initialized RX4, Cond.code yX4_signOf cX4_signOf 1 (some .int), Cond.constant RX4 93 (32768), Cond.methodLink RX3 85 yX3_combine, Cond.static yX3_combine, Cond.code yX3_combine cX3_combine 3 (some .int), Cond.methodLink RX3 96 yX2_storeMoved, Cond.instanceMethod yX2_storeMoved]
def wsX3_performTwo_r4 : List Cond := [Cond.selects RX2 yX2_storeMoved yX2_storeMoved, Cond.code yX2_storeMoved cX2_storeMoved 4 none, Cond.static yX4_signed, Cond.code yX4_signed cX4_signed 3 (some .int), Cond.methodLink RX4 94 yX4_signOf, Cond.methodLink RX2 71 yX2_store, Cond.instanceMethod yX2_store, Cond.selects RX2 yX2_store yX2_store, Cond.code yX2_store cX2_store 5 none, Cond.methodLink RX2 64 yX1_write, Cond.instanceMethod yX1_write, Cond.selects RX1 yX1_write yX1_write, Cond.code yX1_write cX1_write 6 none, Cond.fieldLink RX1 23 "WordGuest$Memory" "toldCount" "I", Cond.fieldLink RX1 15 "WordGuest$Memory" "told" "[I", Cond.methodLink RX3 99 yX2_store]
def wsX3_performTwo : List Cond := .code yX3_performTwo cX3_performTwo 8 none :: ((wsX3_performTwo_r1 ++ (wsX3_performTwo_r2 ++ (wsX3_performTwo_r3 ++ wsX3_performTwo_r4))) ++ wsX30 ++ wsX00 ++ wsX20 ++ wsX10)
def wsX3_step_r1 : List Cond := [Cond.fieldLink RX3 23 "WordGuest$Processor" "parts" "LWordGuest$Parts;", Cond.fieldLink RX3 12 "WordGuest$Processor" "conditions" "LWordGuest$Flags;", Cond.methodLink RX3 34 yX2_begin, Cond.instanceMethod yX2_begin, Cond.selects RX2 yX2_begin yX2_begin, Cond.initialized RX2, Cond.code yX2_begin cX2_begin 1 none, Cond.fieldLink RX2 9 "WordGuest$Parts" "registers" "[I", Cond.fieldLink RX2 15 "WordGuest$Parts" "registersBefore" "[I", Cond.methodLink RX2 22 arraycopyName, Cond.native arraycopyName, Cond.static arraycopyName, Cond.initialized "java/lang/System", Cond.fieldLink RX2 28 "WordGuest$Parts" "fault" "I", Cond.methodLink RX3 37 yX0_number, Cond.instanceMethod yX0_number, Cond.selects RX0 yX0_number yX0_number, Cond.initialized RX0, Cond.code yX0_number cX0_number 1 (some .int), Cond.fieldLink RX0 7 "WordGuest$Flags" "n" "Z", Cond.fieldLink RX0 13 "WordGuest$Flags" "z" "Z", Cond.fieldLink RX0 16 "WordGuest$Flags" "v" "Z", Cond.fieldLink RX0 19 "WordGuest$Flags" "c" "Z", Cond.methodLink RX3 41 yX2_takeNext]
def wsX3_step_r2 : List Cond := [Cond.instanceMethod yX2_takeNext, Cond.selects RX2 yX2_takeNext yX2_takeNext, Cond.code yX2_takeNext cX2_takeNext 1 (some .int), Cond.constant RX2 46 (65535), Cond.methodLink RX2 43 yX2_grow, Cond.instanceMethod yX2_grow, Cond.selects RX2 yX2_grow yX2_grow, Cond.code yX2_grow cX2_grow 4 (some .int), Cond.methodLink RX2 47 yX2_fetch, Cond.instanceMethod yX2_fetch, Cond.selects RX2 yX2_fetch yX2_fetch, Cond.code yX2_fetch cX2_fetch 3 (some .int), Cond.constant RX2 38 (65536), Cond.fieldLink RX2 18 "WordGuest$Parts" "memory" "LWordGuest$Memory;", Cond.methodLink RX2 56 yX1_faultAt, Cond.instanceMethod yX1_faultAt, Cond.selects RX1 yX1_faultAt yX1_faultAt, Cond.initialized RX1, Cond.code yX1_faultAt cX1_faultAt 3 (some .int), Cond.constant RX1 18 (65535), Cond.methodLink RX2 61 yX1_valueAt, Cond.instanceMethod yX1_valueAt, Cond.selects RX1 yX1_valueAt yX1_valueAt, Cond.code yX1_valueAt cX1_valueAt 4 (some .int)]
def wsX3_step_r3 : List Cond := [Cond.fieldLink RX1 9 "WordGuest$Memory" "words" "[I", Cond.methodLink RX3 48 yX3_performByHead, Cond.instanceMethod yX3_performByHead, Cond.selects RX3 yX3_performByHead yX3_performByHead, Cond.initialized RX3, Cond.code yX3_performByHead cX3_performByHead 4 none, Cond.methodLink RX3 65 yX3_hasHighestBit, Cond.static yX3_hasHighestBit, Cond.code yX3_hasHighestBit cX3_hasHighestBit 1 (some .boolean), Cond.constant RX3 64 (32768), Cond.methodLink RX3 108 yX3_performOne, Cond.instanceMethod yX3_performOne, Cond.selects RX3 yX3_performOne yX3_performOne, Cond.code yX3_performOne cX3_performOne 8 none, Cond.methodLink RX3 70 yX3_sizeIn, Cond.static yX3_sizeIn, Cond.code yX3_sizeIn cX3_sizeIn 1 (some .int), Cond.constant RX3 69 (65535), Cond.methodLink RX3 74 yX2_locate, Cond.instanceMethod yX2_locate, Cond.selects RX2 yX2_locate yX2_locate, Cond.code yX2_locate cX2_locate 4 (some .int), Cond.methodLink RX2 39 yX2_strideOf, Cond.static yX2_strideOf]
def wsX3_step_r4 : List Cond := [Cond.code yX2_strideOf cX2_strideOf 2 (some .int), Cond.methodLink RX2 50 yX2_shrink, Cond.instanceMethod yX2_shrink, Cond.selects RX2 yX2_shrink yX2_shrink, Cond.code yX2_shrink cX2_shrink 3 (some .int), Cond.methodLink RX2 53 yX2_fromRegister, Cond.instanceMethod yX2_fromRegister, Cond.selects RX2 yX2_fromRegister yX2_fromRegister, Cond.code yX2_fromRegister cX2_fromRegister 3 (some .int), Cond.methodLink RX3 78 yX2_fetch, Cond.methodLink RX3 132 yX3_count, Cond.instanceMethod yX3_count, Cond.selects RX3 yX3_count yX3_count, Cond.code yX3_count cX3_count 4 (some .int), Cond.methodLink RX3 141 yX3_withoutOverflow, Cond.instanceMethod yX3_withoutOverflow, Cond.selects RX3 yX3_withoutOverflow yX3_withoutOverflow, Cond.code yX3_withoutOverflow cX3_withoutOverflow 3 (some .int), Cond.methodLink RX3 145 yX3_oneMore, Cond.instanceMethod yX3_oneMore, Cond.selects RX3 yX3_oneMore yX3_oneMore, Cond.code yX3_oneMore cX3_oneMore 4 (some .int), Cond.static yX4_signOf, Cond.initialized RX4]
def wsX3_step_r5 : List Cond := [Cond.code yX4_signOf cX4_signOf 1 (some .int), Cond.constant RX4 93 (32768), Cond.methodLink RX3 148 yX3_oneLess, Cond.instanceMethod yX3_oneLess, Cond.selects RX3 yX3_oneLess yX3_oneLess, Cond.code yX3_oneLess cX3_oneLess 4 (some .int), Cond.methodLink RX3 151 yX3_minus, Cond.instanceMethod yX3_minus, Cond.selects RX3 yX3_minus yX3_minus, Cond.code yX3_minus cX3_minus 4 (some .int), Cond.methodLink RX3 154 yX3_carryMore, Cond.instanceMethod yX3_carryMore, Cond.selects RX3 yX3_carryMore yX3_carryMore, Cond.code yX3_carryMore cX3_carryMore 3 (some .int), Cond.methodLink RX3 157 yX3_carryLess, Cond.instanceMethod yX3_carryLess, Cond.selects RX3 yX3_carryLess yX3_carryLess, Cond.code yX3_carryLess cX3_carryLess 3 (some .int), Cond.methodLink RX3 89 yX0_setByResult, Cond.instanceMethod yX0_setByResult, Cond.selects RX0 yX0_setByResult yX0_setByResult, Cond.code yX0_setByResult cX0_setByResult 3 none, Cond.methodLink RX3 135 yX3_shiftByOne, Cond.instanceMethod yX3_shiftByOne]
def wsX3_step_r6 : List Cond := [Cond.selects RX3 yX3_shiftByOne yX3_shiftByOne, Cond.code yX3_shiftByOne cX3_shiftByOne 7 (some .int), Cond.methodLink RX3 99 yX2_store, Cond.instanceMethod yX2_store, Cond.selects RX2 yX2_store yX2_store, Cond.code yX2_store cX2_store 5 none, Cond.methodLink RX2 64 yX1_write, Cond.instanceMethod yX1_write, Cond.selects RX1 yX1_write yX1_write, Cond.code yX1_write cX1_write 6 none, Cond.fieldLink RX1 23 "WordGuest$Memory" "toldCount" "I", Cond.fieldLink RX1 15 "WordGuest$Memory" "told" "[I", Cond.methodLink RX3 111 yX3_branch, Cond.instanceMethod yX3_branch, Cond.selects RX3 yX3_branch yX3_branch, Cond.code yX3_branch cX3_branch 2 none, Cond.methodLink RX3 198 yX3_isMet, Cond.instanceMethod yX3_isMet, Cond.selects RX3 yX3_isMet yX3_isMet, Cond.code yX3_isMet cX3_isMet 3 (some .boolean), Cond.methodLink RX3 201 yX0_below, Cond.instanceMethod yX0_below, Cond.selects RX0 yX0_below yX0_below, Cond.code yX0_below cX0_below 1 (some .boolean)]
def wsX3_step_r7 : List Cond := [Cond.static yX4_signed, Cond.code yX4_signed cX4_signed 3 (some .int), Cond.methodLink RX4 94 yX4_signOf, Cond.methodLink RX3 195 yX2_goOn, Cond.instanceMethod yX2_goOn, Cond.selects RX2 yX2_goOn yX2_goOn, Cond.code yX2_goOn cX2_goOn 2 none, Cond.methodLink RX3 114 yX3_refuse, Cond.instanceMethod yX3_refuse, Cond.selects RX3 yX3_refuse yX3_refuse, Cond.code yX3_refuse cX3_refuse 1 none, Cond.methodLink RX3 117 yX3_callPart, Cond.instanceMethod yX3_callPart, Cond.selects RX3 yX3_callPart yX3_callPart, Cond.code yX3_callPart cX3_callPart 4 none, Cond.methodLink RX3 205 yX3_isRegisterWay, Cond.static yX3_isRegisterWay, Cond.code yX3_isRegisterWay cX3_isRegisterWay 1 (some .boolean), Cond.methodLink RX3 208 yX2_push, Cond.instanceMethod yX2_push, Cond.selects RX2 yX2_push yX2_push, Cond.code yX2_push cX2_push 2 none, Cond.methodLink RX2 71 yX2_store, Cond.methodLink RX3 120 yX3_jump]
def wsX3_step_r8 : List Cond := [Cond.instanceMethod yX3_jump, Cond.selects RX3 yX3_jump yX3_jump, Cond.code yX3_jump cX3_jump 2 none, Cond.methodLink RX3 123 yX3_returnOrSetFlags, Cond.instanceMethod yX3_returnOrSetFlags, Cond.selects RX3 yX3_returnOrSetFlags yX3_returnOrSetFlags, Cond.code yX3_returnOrSetFlags cX3_returnOrSetFlags 4 none, Cond.methodLink RX3 211 yX2_pop, Cond.instanceMethod yX2_pop, Cond.selects RX2 yX2_pop yX2_pop, Cond.code yX2_pop cX2_pop 1 (some .int), Cond.methodLink RX3 30 yX0_become, Cond.instanceMethod yX0_become, Cond.selects RX0 yX0_become yX0_become, Cond.code yX0_become cX0_become 2 none, Cond.methodLink RX3 126 yX3_exchangeBytes, Cond.instanceMethod yX3_exchangeBytes, Cond.selects RX3 yX3_exchangeBytes yX3_exchangeBytes, Cond.code yX3_exchangeBytes cX3_exchangeBytes 5 none, Cond.methodLink RX3 129 yX3_spreadSign, Cond.instanceMethod yX3_spreadSign, Cond.selects RX3 yX3_spreadSign yX3_spreadSign, Cond.code yX3_spreadSign cX3_spreadSign 4 none, Cond.methodLink RX3 51 yX3_addOrSubtract]
def wsX3_step_r9 : List Cond := [Cond.instanceMethod yX3_addOrSubtract, Cond.selects RX3 yX3_addOrSubtract yX3_addOrSubtract, Cond.code yX3_addOrSubtract cX3_addOrSubtract 6 none, Cond.methodLink RX3 81 yX3_setByDifference, Cond.instanceMethod yX3_setByDifference, Cond.selects RX3 yX3_setByDifference yX3_setByDifference, Cond.code yX3_setByDifference cX3_setByDifference 5 none, Cond.methodLink RX3 54 yX3_performWithRegister, Cond.instanceMethod yX3_performWithRegister, Cond.selects RX3 yX3_performWithRegister yX3_performWithRegister, Cond.code yX3_performWithRegister cX3_performWithRegister 3 none, Cond.methodLink RX3 163 yX3_multiply, Cond.instanceMethod yX3_multiply, Cond.selects RX3 yX3_multiply yX3_multiply, Cond.code yX3_multiply cX3_multiply 5 none, Cond.methodLink RX3 185 yX3_fitsWord, Cond.static yX3_fitsWord, Cond.code yX3_fitsWord cX3_fitsWord 2 (some .boolean), Cond.constantLong RX3 191 (-32768), Cond.constantLong RX3 193 (32768), Cond.methodLink RX3 166 yX3_divide, Cond.instanceMethod yX3_divide, Cond.selects RX3 yX3_divide yX3_divide, Cond.code yX3_divide cX3_divide 8 none]
def wsX3_step_r10 : List Cond := [Cond.constantLong RX3 189 (65535), Cond.methodLink RX3 169 yX3_shift, Cond.instanceMethod yX3_shift, Cond.selects RX3 yX3_shift yX3_shift, Cond.code yX3_shift cX3_shift 10 none, Cond.methodLink RX3 172 yX3_exclude, Cond.instanceMethod yX3_exclude, Cond.selects RX3 yX3_exclude yX3_exclude, Cond.code yX3_exclude cX3_exclude 5 none, Cond.methodLink RX3 175 yX3_countDown, Cond.instanceMethod yX3_countDown, Cond.selects RX3 yX3_countDown yX3_countDown, Cond.code yX3_countDown cX3_countDown 3 none, Cond.methodLink RX3 57 yX3_performTwo, Cond.instanceMethod yX3_performTwo, Cond.selects RX3 yX3_performTwo yX3_performTwo, Cond.code yX3_performTwo cX3_performTwo 8 none, Cond.methodLink RX3 85 yX3_combine, Cond.static yX3_combine, Cond.code yX3_combine cX3_combine 3 (some .int), Cond.methodLink RX3 96 yX2_storeMoved, Cond.instanceMethod yX2_storeMoved, Cond.selects RX2 yX2_storeMoved yX2_storeMoved, Cond.code yX2_storeMoved cX2_storeMoved 4 none]
def wsX3_step_r11 : List Cond := [Cond.methodLink RX3 61 yX2_takeBack, Cond.instanceMethod yX2_takeBack, Cond.selects RX2 yX2_takeBack yX2_takeBack, Cond.code yX2_takeBack cX2_takeBack 1 none]
def wsX3_step : List Cond := .code yX3_step cX3_step 4 (some .int) :: ((wsX3_step_r1 ++ (wsX3_step_r2 ++ (wsX3_step_r3 ++ (wsX3_step_r4 ++ (wsX3_step_r5 ++ (wsX3_step_r6 ++ (wsX3_step_r7 ++ (wsX3_step_r8 ++ (wsX3_step_r9 ++ (wsX3_step_r10 ++ wsX3_step_r11)))))))))) ++ wsX30 ++ wsX20 ++ wsX00 ++ wsX10)
def wsX4_init_r1 : List Cond := [Cond.methodLink RX4 3 objectInit, Cond.instanceMethod objectInit, Cond.code objectInit ⟨#[0xb1]⟩ 1 none, Cond.classLink RX4 9 RX1, Cond.instantiable RX1 3, Cond.initialized RX1, Cond.fieldLink RX4 12 "WordGuest" "memory" "LWordGuest$Memory;", Cond.classLink RX4 16 RX3, Cond.instantiable RX3 2, Cond.initialized RX3, Cond.fieldLink RX4 21 "WordGuest" "processor" "LWordGuest$Processor;", Cond.instanceMethod yX1_init, Cond.code yX1_init cX1_init 1 none, Cond.methodLink RX1 3 objectInit, Cond.arrayClass .int, Cond.fieldLink RX1 9 "WordGuest$Memory" "words" "[I", Cond.fieldLink RX1 15 "WordGuest$Memory" "told" "[I", Cond.methodLink RX4 18 yX3_init, Cond.instanceMethod yX3_init, Cond.code yX3_init cX3_init 2 none, Cond.methodLink RX3 3 objectInit, Cond.classLink RX3 9 RX0, Cond.instantiable RX0 4, Cond.initialized RX0]
def wsX4_init_r2 : List Cond := [Cond.fieldLink RX3 12 "WordGuest$Processor" "conditions" "LWordGuest$Flags;", Cond.classLink RX3 18 RX2, Cond.instantiable RX2 4, Cond.initialized RX2, Cond.fieldLink RX3 23 "WordGuest$Processor" "parts" "LWordGuest$Parts;", Cond.instanceMethod yX0_init, Cond.code yX0_init cX0_init 1 none, Cond.methodLink RX0 1 objectInit, Cond.methodLink RX3 20 yX2_init, Cond.instanceMethod yX2_init, Cond.code yX2_init cX2_init 2 none, Cond.methodLink RX2 3 objectInit, Cond.fieldLink RX2 9 "WordGuest$Parts" "registers" "[I", Cond.fieldLink RX2 15 "WordGuest$Parts" "registersBefore" "[I", Cond.fieldLink RX2 18 "WordGuest$Parts" "memory" "LWordGuest$Memory;"]
def wsX4_init : List Cond := .code yX4_init cX4_init 1 none :: ((wsX4_init_r1 ++ wsX4_init_r2) ++ wsX10 ++ wsX40 ++ wsX30 ++ wsX00 ++ wsX20)
def wsX4_needWordAt : List Cond := .code yX4_needWordAt cX4_needWordAt 2 none :: ([.classLink RX4 80 "java/lang/IndexOutOfBoundsException", .initialized "java/lang/IndexOutOfBoundsException", .fieldLink RX4 12 "WordGuest" "memory" "LWordGuest$Memory;", .constant RX4 33 (65535), .methodLink RX4 90 yX1_faultAt, .instanceMethod yX1_faultAt, .selects RX1 yX1_faultAt yX1_faultAt, .initialized RX1, .code yX1_faultAt cX1_faultAt 3 (some .int), .constant RX1 18 (65535)] ++ wsX40 ++ (vx_at0 RX4 82 "java/lang/IndexOutOfBoundsException" ["java/lang/RuntimeException", "java/lang/Exception"]).filter goodWord)
def wsX4_load_r1 : List Cond := [Cond.fieldLink RX4 12 "WordGuest" "memory" "LWordGuest$Memory;", Cond.methodLink RX4 25 yX4_needWordAt, Cond.instanceMethod yX4_needWordAt, Cond.selects RX4 yX4_needWordAt yX4_needWordAt, Cond.initialized RX4, Cond.code yX4_needWordAt cX4_needWordAt 2 none, Cond.classLink RX4 80 "java/lang/IndexOutOfBoundsException", Cond.initialized "java/lang/IndexOutOfBoundsException", Cond.constant RX4 33 (65535), Cond.methodLink RX4 90 yX1_faultAt, Cond.instanceMethod yX1_faultAt, Cond.selects RX1 yX1_faultAt yX1_faultAt, Cond.initialized RX1, Cond.code yX1_faultAt cX1_faultAt 3 (some .int), Cond.constant RX1 18 (65535), Cond.methodLink RX4 29 yX1_setPair, Cond.instanceMethod yX1_setPair, Cond.selects RX1 yX1_setPair yX1_setPair, Cond.code yX1_setPair cX1_setPair 3 (some .int), Cond.methodLink RX1 19 yX1_setIfThere, Cond.instanceMethod yX1_setIfThere, Cond.selects RX1 yX1_setIfThere yX1_setIfThere, Cond.code yX1_setIfThere cX1_setIfThere 3 (some .int), Cond.methodLink RX1 33 yX1_faultAt]
def wsX4_load_r2 : List Cond := [Cond.methodLink RX1 36 yX1_setWord, Cond.instanceMethod yX1_setWord, Cond.selects RX1 yX1_setWord yX1_setWord, Cond.code yX1_setWord cX1_setWord 3 none, Cond.fieldLink RX1 9 "WordGuest$Memory" "words" "[I"]
def wsX4_load : List Cond := .code yX4_load cX4_load 7 (some .int) :: ((wsX4_load_r1 ++ wsX4_load_r2) ++ wsX40 ++ wsX10 ++ (vx_at0 RX4 82 "java/lang/IndexOutOfBoundsException" ["java/lang/RuntimeException", "java/lang/Exception"]).filter goodWord)
def wsX4_word : List Cond := .code yX4_word cX4_word 2 (some .int) :: ([.fieldLink RX4 12 "WordGuest" "memory" "LWordGuest$Memory;", .constant RX4 33 (65535), .methodLink RX4 25 yX4_needWordAt, .instanceMethod yX4_needWordAt, .selects RX4 yX4_needWordAt yX4_needWordAt, .initialized RX4, .code yX4_needWordAt cX4_needWordAt 2 none, .classLink RX4 80 "java/lang/IndexOutOfBoundsException", .initialized "java/lang/IndexOutOfBoundsException", .methodLink RX4 90 yX1_faultAt, .instanceMethod yX1_faultAt, .selects RX1 yX1_faultAt yX1_faultAt, .initialized RX1, .code yX1_faultAt cX1_faultAt 3 (some .int), .constant RX1 18 (65535), .methodLink RX4 34 yX1_valueAt, .instanceMethod yX1_valueAt, .selects RX1 yX1_valueAt yX1_valueAt, .code yX1_valueAt cX1_valueAt 4 (some .int), .fieldLink RX1 9 "WordGuest$Memory" "words" "[I"] ++ wsX40 ++ wsX10 ++ (vx_at0 RX4 82 "java/lang/IndexOutOfBoundsException" ["java/lang/RuntimeException", "java/lang/Exception"]).filter goodWord)
def wsX4_poke : List Cond := .code yX4_poke cX4_poke 4 (some .boolean) :: ([.fieldLink RX4 12 "WordGuest" "memory" "LWordGuest$Memory;", .constant RX4 33 (65535), .methodLink RX4 25 yX4_needWordAt, .instanceMethod yX4_needWordAt, .selects RX4 yX4_needWordAt yX4_needWordAt, .initialized RX4, .code yX4_needWordAt cX4_needWordAt 2 none, .classLink RX4 80 "java/lang/IndexOutOfBoundsException", .initialized "java/lang/IndexOutOfBoundsException", .methodLink RX4 90 yX1_faultAt, .instanceMethod yX1_faultAt, .selects RX1 yX1_faultAt yX1_faultAt, .initialized RX1, .code yX1_faultAt cX1_faultAt 3 (some .int), .constant RX1 18 (65535), .methodLink RX4 34 yX1_valueAt, .instanceMethod yX1_valueAt, .selects RX1 yX1_valueAt yX1_valueAt, .code yX1_valueAt cX1_valueAt 4 (some .int), .fieldLink RX1 9 "WordGuest$Memory" "words" "[I", .methodLink RX4 37 yX1_setWord, .instanceMethod yX1_setWord, .selects RX1 yX1_setWord yX1_setWord, .code yX1_setWord cX1_setWord 3 none] ++ wsX40 ++ wsX10 ++ (vx_at0 RX4 82 "java/lang/IndexOutOfBoundsException" ["java/lang/RuntimeException", "java/lang/Exception"]).filter goodWord)
def wsX4_needRegister : List Cond := .code yX4_needRegister cX4_needRegister 2 none :: ([.classLink RX4 80 "java/lang/IndexOutOfBoundsException", .initialized "java/lang/IndexOutOfBoundsException"] ++ (vx_at0 RX4 82 "java/lang/IndexOutOfBoundsException" ["java/lang/RuntimeException", "java/lang/Exception"]).filter goodWord)
def wsX4_register : List Cond := .code yX4_register cX4_register 2 (some .int) :: ([.fieldLink RX4 21 "WordGuest" "processor" "LWordGuest$Processor;", .methodLink RX4 41 yX4_needRegister, .instanceMethod yX4_needRegister, .selects RX4 yX4_needRegister yX4_needRegister, .initialized RX4, .code yX4_needRegister cX4_needRegister 2 none, .classLink RX4 80 "java/lang/IndexOutOfBoundsException", .initialized "java/lang/IndexOutOfBoundsException"] ++ wsX40 ++ wsX30 ++ wsX20 ++ (vx_at0 RX4 82 "java/lang/IndexOutOfBoundsException" ["java/lang/RuntimeException", "java/lang/Exception"]).filter goodWord)
def wsX4_put : List Cond := .code yX4_put cX4_put 3 none :: ([.fieldLink RX4 21 "WordGuest" "processor" "LWordGuest$Processor;", .constant RX4 33 (65535), .methodLink RX4 41 yX4_needRegister, .instanceMethod yX4_needRegister, .selects RX4 yX4_needRegister yX4_needRegister, .initialized RX4, .code yX4_needRegister cX4_needRegister 2 none, .classLink RX4 80 "java/lang/IndexOutOfBoundsException", .initialized "java/lang/IndexOutOfBoundsException"] ++ wsX40 ++ wsX30 ++ wsX20 ++ (vx_at0 RX4 82 "java/lang/IndexOutOfBoundsException" ["java/lang/RuntimeException", "java/lang/Exception"]).filter goodWord)
def wsX4_flags : List Cond := .code yX4_flags cX4_flags 1 (some .int) :: ([.fieldLink RX4 21 "WordGuest" "processor" "LWordGuest$Processor;", .methodLink RX4 58 yX0_number, .instanceMethod yX0_number, .selects RX0 yX0_number yX0_number, .initialized RX0, .code yX0_number cX0_number 1 (some .int), .fieldLink RX0 7 "WordGuest$Flags" "n" "Z", .fieldLink RX0 13 "WordGuest$Flags" "z" "Z", .fieldLink RX0 16 "WordGuest$Flags" "v" "Z", .fieldLink RX0 19 "WordGuest$Flags" "c" "Z"] ++ wsX40 ++ wsX30 ++ wsX00)
def wsX4_flag : List Cond := .code yX4_flag cX4_flag 2 none :: ([.fieldLink RX4 21 "WordGuest" "processor" "LWordGuest$Processor;", .methodLink RX4 64 yX0_become, .instanceMethod yX0_become, .selects RX0 yX0_become yX0_become, .initialized RX0, .code yX0_become cX0_become 2 none, .fieldLink RX0 7 "WordGuest$Flags" "n" "Z", .fieldLink RX0 13 "WordGuest$Flags" "z" "Z", .fieldLink RX0 16 "WordGuest$Flags" "v" "Z", .fieldLink RX0 19 "WordGuest$Flags" "c" "Z"] ++ wsX40 ++ wsX30 ++ wsX00)
def wsX4_run_r1 : List Cond := [Cond.classLink RX4 67 "java/lang/IllegalArgumentException", Cond.initialized "java/lang/IllegalArgumentException", Cond.fieldLink RX4 70 "WordGuest" "latestSteps" "I", Cond.fieldLink RX4 21 "WordGuest" "processor" "LWordGuest$Processor;", Cond.methodLink RX4 74 yX3_step, Cond.instanceMethod yX3_step, Cond.selects RX3 yX3_step yX3_step, Cond.initialized RX3, Cond.code yX3_step cX3_step 4 (some .int), Cond.fieldLink RX3 23 "WordGuest$Processor" "parts" "LWordGuest$Parts;", Cond.fieldLink RX3 12 "WordGuest$Processor" "conditions" "LWordGuest$Flags;", Cond.methodLink RX3 34 yX2_begin, Cond.instanceMethod yX2_begin, Cond.selects RX2 yX2_begin yX2_begin, Cond.initialized RX2, Cond.code yX2_begin cX2_begin 1 none, Cond.fieldLink RX2 9 "WordGuest$Parts" "registers" "[I", Cond.fieldLink RX2 15 "WordGuest$Parts" "registersBefore" "[I", Cond.methodLink RX2 22 arraycopyName, Cond.native arraycopyName, Cond.static arraycopyName, Cond.initialized "java/lang/System", Cond.fieldLink RX2 28 "WordGuest$Parts" "fault" "I", Cond.methodLink RX3 37 yX0_number]
def wsX4_run_r2 : List Cond := [Cond.instanceMethod yX0_number, Cond.selects RX0 yX0_number yX0_number, Cond.initialized RX0, Cond.code yX0_number cX0_number 1 (some .int), Cond.fieldLink RX0 7 "WordGuest$Flags" "n" "Z", Cond.fieldLink RX0 13 "WordGuest$Flags" "z" "Z", Cond.fieldLink RX0 16 "WordGuest$Flags" "v" "Z", Cond.fieldLink RX0 19 "WordGuest$Flags" "c" "Z", Cond.methodLink RX3 41 yX2_takeNext, Cond.instanceMethod yX2_takeNext, Cond.selects RX2 yX2_takeNext yX2_takeNext, Cond.code yX2_takeNext cX2_takeNext 1 (some .int), Cond.constant RX2 46 (65535), Cond.methodLink RX2 43 yX2_grow, Cond.instanceMethod yX2_grow, Cond.selects RX2 yX2_grow yX2_grow, Cond.code yX2_grow cX2_grow 4 (some .int), Cond.methodLink RX2 47 yX2_fetch, Cond.instanceMethod yX2_fetch, Cond.selects RX2 yX2_fetch yX2_fetch, Cond.code yX2_fetch cX2_fetch 3 (some .int), Cond.constant RX2 38 (65536), Cond.fieldLink RX2 18 "WordGuest$Parts" "memory" "LWordGuest$Memory;", Cond.methodLink RX2 56 yX1_faultAt]
def wsX4_run_r3 : List Cond := [Cond.instanceMethod yX1_faultAt, Cond.selects RX1 yX1_faultAt yX1_faultAt, Cond.initialized RX1, Cond.code yX1_faultAt cX1_faultAt 3 (some .int), Cond.constant RX1 18 (65535), Cond.methodLink RX2 61 yX1_valueAt, Cond.instanceMethod yX1_valueAt, Cond.selects RX1 yX1_valueAt yX1_valueAt, Cond.code yX1_valueAt cX1_valueAt 4 (some .int), Cond.fieldLink RX1 9 "WordGuest$Memory" "words" "[I", Cond.methodLink RX3 48 yX3_performByHead, Cond.instanceMethod yX3_performByHead, Cond.selects RX3 yX3_performByHead yX3_performByHead, Cond.code yX3_performByHead cX3_performByHead 4 none, Cond.methodLink RX3 65 yX3_hasHighestBit, Cond.static yX3_hasHighestBit, Cond.code yX3_hasHighestBit cX3_hasHighestBit 1 (some .boolean), Cond.constant RX3 64 (32768), Cond.methodLink RX3 108 yX3_performOne, Cond.instanceMethod yX3_performOne, Cond.selects RX3 yX3_performOne yX3_performOne, Cond.code yX3_performOne cX3_performOne 8 none, Cond.methodLink RX3 70 yX3_sizeIn, Cond.static yX3_sizeIn]
def wsX4_run_r4 : List Cond := [Cond.code yX3_sizeIn cX3_sizeIn 1 (some .int), Cond.constant RX3 69 (65535), Cond.methodLink RX3 74 yX2_locate, Cond.instanceMethod yX2_locate, Cond.selects RX2 yX2_locate yX2_locate, Cond.code yX2_locate cX2_locate 4 (some .int), Cond.methodLink RX2 39 yX2_strideOf, Cond.static yX2_strideOf, Cond.code yX2_strideOf cX2_strideOf 2 (some .int), Cond.methodLink RX2 50 yX2_shrink, Cond.instanceMethod yX2_shrink, Cond.selects RX2 yX2_shrink yX2_shrink, Cond.code yX2_shrink cX2_shrink 3 (some .int), Cond.methodLink RX2 53 yX2_fromRegister, Cond.instanceMethod yX2_fromRegister, Cond.selects RX2 yX2_fromRegister yX2_fromRegister, Cond.code yX2_fromRegister cX2_fromRegister 3 (some .int), Cond.methodLink RX3 78 yX2_fetch, Cond.methodLink RX3 132 yX3_count, Cond.instanceMethod yX3_count, Cond.selects RX3 yX3_count yX3_count, Cond.code yX3_count cX3_count 4 (some .int), Cond.methodLink RX3 141 yX3_withoutOverflow, Cond.instanceMethod yX3_withoutOverflow]
def wsX4_run_r5 : List Cond := [Cond.selects RX3 yX3_withoutOverflow yX3_withoutOverflow, Cond.code yX3_withoutOverflow cX3_withoutOverflow 3 (some .int), Cond.methodLink RX3 145 yX3_oneMore, Cond.instanceMethod yX3_oneMore, Cond.selects RX3 yX3_oneMore yX3_oneMore, Cond.code yX3_oneMore cX3_oneMore 4 (some .int), Cond.static yX4_signOf, Cond.initialized RX4, Cond.code yX4_signOf cX4_signOf 1 (some .int), Cond.constant RX4 93 (32768), Cond.methodLink RX3 148 yX3_oneLess, Cond.instanceMethod yX3_oneLess, Cond.selects RX3 yX3_oneLess yX3_oneLess, Cond.code yX3_oneLess cX3_oneLess 4 (some .int), Cond.methodLink RX3 151 yX3_minus, Cond.instanceMethod yX3_minus, Cond.selects RX3 yX3_minus yX3_minus, Cond.code yX3_minus cX3_minus 4 (some .int), Cond.methodLink RX3 154 yX3_carryMore, Cond.instanceMethod yX3_carryMore, Cond.selects RX3 yX3_carryMore yX3_carryMore, Cond.code yX3_carryMore cX3_carryMore 3 (some .int), Cond.methodLink RX3 157 yX3_carryLess, Cond.instanceMethod yX3_carryLess]
def wsX4_run_r6 : List Cond := [Cond.selects RX3 yX3_carryLess yX3_carryLess, Cond.code yX3_carryLess cX3_carryLess 3 (some .int), Cond.methodLink RX3 89 yX0_setByResult, Cond.instanceMethod yX0_setByResult, Cond.selects RX0 yX0_setByResult yX0_setByResult, Cond.code yX0_setByResult cX0_setByResult 3 none, Cond.methodLink RX3 135 yX3_shiftByOne, Cond.instanceMethod yX3_shiftByOne, Cond.selects RX3 yX3_shiftByOne yX3_shiftByOne, Cond.code yX3_shiftByOne cX3_shiftByOne 7 (some .int), Cond.methodLink RX3 99 yX2_store, Cond.instanceMethod yX2_store, Cond.selects RX2 yX2_store yX2_store, Cond.code yX2_store cX2_store 5 none, Cond.methodLink RX2 64 yX1_write, Cond.instanceMethod yX1_write, Cond.selects RX1 yX1_write yX1_write, Cond.code yX1_write cX1_write 6 none, Cond.fieldLink RX1 23 "WordGuest$Memory" "toldCount" "I", Cond.fieldLink RX1 15 "WordGuest$Memory" "told" "[I", Cond.methodLink RX3 111 yX3_branch, Cond.instanceMethod yX3_branch, Cond.selects RX3 yX3_branch yX3_branch, Cond.code yX3_branch cX3_branch 2 none]
def wsX4_run_r7 : List Cond := [Cond.methodLink RX3 198 yX3_isMet, Cond.instanceMethod yX3_isMet, Cond.selects RX3 yX3_isMet yX3_isMet, Cond.code yX3_isMet cX3_isMet 3 (some .boolean), Cond.methodLink RX3 201 yX0_below, Cond.instanceMethod yX0_below, Cond.selects RX0 yX0_below yX0_below, Cond.code yX0_below cX0_below 1 (some .boolean), Cond.static yX4_signed, Cond.code yX4_signed cX4_signed 3 (some .int), Cond.methodLink RX4 94 yX4_signOf, Cond.methodLink RX3 195 yX2_goOn, Cond.instanceMethod yX2_goOn, Cond.selects RX2 yX2_goOn yX2_goOn, Cond.code yX2_goOn cX2_goOn 2 none, Cond.methodLink RX3 114 yX3_refuse, Cond.instanceMethod yX3_refuse, Cond.selects RX3 yX3_refuse yX3_refuse, Cond.code yX3_refuse cX3_refuse 1 none, Cond.methodLink RX3 117 yX3_callPart, Cond.instanceMethod yX3_callPart, Cond.selects RX3 yX3_callPart yX3_callPart, Cond.code yX3_callPart cX3_callPart 4 none, Cond.methodLink RX3 205 yX3_isRegisterWay]
def wsX4_run_r8 : List Cond := [Cond.static yX3_isRegisterWay, Cond.code yX3_isRegisterWay cX3_isRegisterWay 1 (some .boolean), Cond.methodLink RX3 208 yX2_push, Cond.instanceMethod yX2_push, Cond.selects RX2 yX2_push yX2_push, Cond.code yX2_push cX2_push 2 none, Cond.methodLink RX2 71 yX2_store, Cond.methodLink RX3 120 yX3_jump, Cond.instanceMethod yX3_jump, Cond.selects RX3 yX3_jump yX3_jump, Cond.code yX3_jump cX3_jump 2 none, Cond.methodLink RX3 123 yX3_returnOrSetFlags, Cond.instanceMethod yX3_returnOrSetFlags, Cond.selects RX3 yX3_returnOrSetFlags yX3_returnOrSetFlags, Cond.code yX3_returnOrSetFlags cX3_returnOrSetFlags 4 none, Cond.methodLink RX3 211 yX2_pop, Cond.instanceMethod yX2_pop, Cond.selects RX2 yX2_pop yX2_pop, Cond.code yX2_pop cX2_pop 1 (some .int), Cond.methodLink RX3 30 yX0_become, Cond.instanceMethod yX0_become, Cond.selects RX0 yX0_become yX0_become, Cond.code yX0_become cX0_become 2 none, Cond.methodLink RX3 126 yX3_exchangeBytes]
def wsX4_run_r9 : List Cond := [Cond.instanceMethod yX3_exchangeBytes, Cond.selects RX3 yX3_exchangeBytes yX3_exchangeBytes, Cond.code yX3_exchangeBytes cX3_exchangeBytes 5 none, Cond.methodLink RX3 129 yX3_spreadSign, Cond.instanceMethod yX3_spreadSign, Cond.selects RX3 yX3_spreadSign yX3_spreadSign, Cond.code yX3_spreadSign cX3_spreadSign 4 none, Cond.methodLink RX3 51 yX3_addOrSubtract, Cond.instanceMethod yX3_addOrSubtract, Cond.selects RX3 yX3_addOrSubtract yX3_addOrSubtract, Cond.code yX3_addOrSubtract cX3_addOrSubtract 6 none, Cond.methodLink RX3 81 yX3_setByDifference, Cond.instanceMethod yX3_setByDifference, Cond.selects RX3 yX3_setByDifference yX3_setByDifference, Cond.code yX3_setByDifference cX3_setByDifference 5 none, Cond.methodLink RX3 54 yX3_performWithRegister, Cond.instanceMethod yX3_performWithRegister, Cond.selects RX3 yX3_performWithRegister yX3_performWithRegister, Cond.code yX3_performWithRegister cX3_performWithRegister 3 none, Cond.methodLink RX3 163 yX3_multiply, Cond.instanceMethod yX3_multiply, Cond.selects RX3 yX3_multiply yX3_multiply, Cond.code yX3_multiply cX3_multiply 5 none, Cond.methodLink RX3 185 yX3_fitsWord]
def wsX4_run_r10 : List Cond := [Cond.static yX3_fitsWord, Cond.code yX3_fitsWord cX3_fitsWord 2 (some .boolean), Cond.constantLong RX3 191 (-32768), Cond.constantLong RX3 193 (32768), Cond.methodLink RX3 166 yX3_divide, Cond.instanceMethod yX3_divide, Cond.selects RX3 yX3_divide yX3_divide, Cond.code yX3_divide cX3_divide 8 none, Cond.constantLong RX3 189 (65535), Cond.methodLink RX3 169 yX3_shift, Cond.instanceMethod yX3_shift, Cond.selects RX3 yX3_shift yX3_shift, Cond.code yX3_shift cX3_shift 10 none, Cond.methodLink RX3 172 yX3_exclude, Cond.instanceMethod yX3_exclude, Cond.selects RX3 yX3_exclude yX3_exclude, Cond.code yX3_exclude cX3_exclude 5 none, Cond.methodLink RX3 175 yX3_countDown, Cond.instanceMethod yX3_countDown, Cond.selects RX3 yX3_countDown yX3_countDown, Cond.code yX3_countDown cX3_countDown 3 none, Cond.methodLink RX3 57 yX3_performTwo, Cond.instanceMethod yX3_performTwo, Cond.selects RX3 yX3_performTwo yX3_performTwo]
def wsX4_run_r11 : List Cond := [Cond.code yX3_performTwo cX3_performTwo 8 none, Cond.methodLink RX3 85 yX3_combine, Cond.static yX3_combine, Cond.code yX3_combine cX3_combine 3 (some .int), Cond.methodLink RX3 96 yX2_storeMoved, Cond.instanceMethod yX2_storeMoved, Cond.selects RX2 yX2_storeMoved yX2_storeMoved, Cond.code yX2_storeMoved cX2_storeMoved 4 none, Cond.methodLink RX3 61 yX2_takeBack, Cond.instanceMethod yX2_takeBack, Cond.selects RX2 yX2_takeBack yX2_takeBack, Cond.code yX2_takeBack cX2_takeBack 1 none]
def wsX4_run : List Cond := .code yX4_run cX4_run 4 (some .int) :: ((wsX4_run_r1 ++ (wsX4_run_r2 ++ (wsX4_run_r3 ++ (wsX4_run_r4 ++ (wsX4_run_r5 ++ (wsX4_run_r6 ++ (wsX4_run_r7 ++ (wsX4_run_r8 ++ (wsX4_run_r9 ++ (wsX4_run_r10 ++ wsX4_run_r11)))))))))) ++ wsX40 ++ wsX30 ++ wsX20 ++ wsX00 ++ wsX10 ++ (vx_at0 RX4 69 "java/lang/IllegalArgumentException" ["java/lang/RuntimeException", "java/lang/Exception"]).filter goodWord)
def wsX4_steps : List Cond := .code yX4_steps cX4_steps 1 (some .int) :: ([.fieldLink RX4 70 "WordGuest" "latestSteps" "I"] ++ wsX40)
def wsX4_output : List Cond := .code yX4_output cX4_output 2 (some .int) :: ([.classLink RX4 80 "java/lang/IndexOutOfBoundsException", .initialized "java/lang/IndexOutOfBoundsException", .fieldLink RX4 12 "WordGuest" "memory" "LWordGuest$Memory;"] ++ wsX40 ++ wsX10 ++ (vx_at0 RX4 82 "java/lang/IndexOutOfBoundsException" ["java/lang/RuntimeException", "java/lang/Exception"]).filter goodWord)
def wsX4_outputs : List Cond := .code yX4_outputs cX4_outputs 1 (some .int) :: ([.fieldLink RX4 12 "WordGuest" "memory" "LWordGuest$Memory;"] ++ wsX40 ++ wsX10)
def wsX4_clear_r1 : List Cond := [Cond.fieldLink RX4 12 "WordGuest" "memory" "LWordGuest$Memory;", Cond.fieldLink RX4 21 "WordGuest" "processor" "LWordGuest$Processor;", Cond.fieldLink RX4 70 "WordGuest" "latestSteps" "I", Cond.methodLink RX4 86 yX1_empty, Cond.instanceMethod yX1_empty, Cond.selects RX1 yX1_empty yX1_empty, Cond.initialized RX1, Cond.code yX1_empty cX1_empty 1 none, Cond.fieldLink RX1 9 "WordGuest$Memory" "words" "[I", Cond.fieldLink RX1 23 "WordGuest$Memory" "toldCount" "I", Cond.methodLink RX1 27 yJ7_fill_53178, Cond.static yJ7_fill_53178, Cond.initialized RJ7, Cond.code yJ7_fill_53178 cJ7_fill_53178 4 none, Cond.methodLink RX4 89 yX3_empty, Cond.instanceMethod yX3_empty, Cond.selects RX3 yX3_empty yX3_empty, Cond.initialized RX3, Cond.code yX3_empty cX3_empty 1 none, Cond.fieldLink RX3 23 "WordGuest$Processor" "parts" "LWordGuest$Parts;", Cond.fieldLink RX3 12 "WordGuest$Processor" "conditions" "LWordGuest$Flags;", Cond.methodLink RX3 27 yX2_empty, Cond.instanceMethod yX2_empty, Cond.selects RX2 yX2_empty yX2_empty]
def wsX4_clear_r2 : List Cond := [Cond.initialized RX2, Cond.code yX2_empty cX2_empty 1 none, Cond.fieldLink RX2 9 "WordGuest$Parts" "registers" "[I", Cond.methodLink RX2 32 yJ7_fill_53178, Cond.methodLink RX3 30 yX0_become, Cond.instanceMethod yX0_become, Cond.selects RX0 yX0_become yX0_become, Cond.initialized RX0, Cond.code yX0_become cX0_become 2 none, Cond.fieldLink RX0 7 "WordGuest$Flags" "n" "Z", Cond.fieldLink RX0 13 "WordGuest$Flags" "z" "Z", Cond.fieldLink RX0 16 "WordGuest$Flags" "v" "Z", Cond.fieldLink RX0 19 "WordGuest$Flags" "c" "Z"]
def wsX4_clear : List Cond := .code yX4_clear cX4_clear 1 none :: ((wsX4_clear_r1 ++ wsX4_clear_r2) ++ wsX40 ++ wsX10 ++ wsX30 ++ wsX20 ++ wsX00)
def wsX5_init : List Cond := .code yX5_init cX5_init 1 none :: ([.methodLink RX5 1 objectInit, .instanceMethod objectInit, .code objectInit ⟨#[0xb1]⟩ 1 none, .arrayClass .int, .fieldLink RX5 7 "WordGuestModel" "bytes" "[I", .fieldLink RX5 13 "WordGuestModel" "registers" "[I", .fieldLink RX5 16 "WordGuestModel" "outs" "[I", .fieldLink RX5 19 "WordGuestModel" "now" "[I"] ++ wsX50)
def wsX5_thrown : List Cond := .code yX5_thrown cX5_thrown 1 (some .int) :: ([.fieldLink RX5 22 "WordGuestModel" "thrown" "I"] ++ wsX50)
def wsX5_isWord : List Cond := .code yX5_isWord cX5_isWord 1 (some .boolean) :: ([])
def wsX5_wordAt : List Cond := .code yX5_wordAt cX5_wordAt 2 (some .int) :: ([.fieldLink RX5 7 "WordGuestModel" "bytes" "[I"] ++ wsX50)
def wsX5_setWord : List Cond := .code yX5_setWord cX5_setWord 3 none :: ([.fieldLink RX5 7 "WordGuestModel" "bytes" "[I"] ++ wsX50)
def wsX5_load : List Cond := .code yX5_load cX5_load 10 (some .int) :: ([.fieldLink RX5 22 "WordGuestModel" "thrown" "I", .constant RX5 30 (65535), .methodLink RX5 26 yX5_isWord, .static yX5_isWord, .initialized RX5, .code yX5_isWord cX5_isWord 1 (some .boolean), .methodLink RX5 31 yX5_setWord, .instanceMethod yX5_setWord, .selects RX5 yX5_setWord yX5_setWord, .code yX5_setWord cX5_setWord 3 none, .fieldLink RX5 7 "WordGuestModel" "bytes" "[I"] ++ wsX50)
def wsX5_word : List Cond := .code yX5_word cX5_word 2 (some .int) :: ([.fieldLink RX5 22 "WordGuestModel" "thrown" "I", .methodLink RX5 26 yX5_isWord, .static yX5_isWord, .initialized RX5, .code yX5_isWord cX5_isWord 1 (some .boolean), .methodLink RX5 35 yX5_wordAt, .instanceMethod yX5_wordAt, .selects RX5 yX5_wordAt yX5_wordAt, .code yX5_wordAt cX5_wordAt 2 (some .int), .fieldLink RX5 7 "WordGuestModel" "bytes" "[I"] ++ wsX50)
def wsX5_poke : List Cond := .code yX5_poke cX5_poke 4 (some .boolean) :: ([.fieldLink RX5 22 "WordGuestModel" "thrown" "I", .constant RX5 30 (65535), .methodLink RX5 26 yX5_isWord, .static yX5_isWord, .initialized RX5, .code yX5_isWord cX5_isWord 1 (some .boolean), .methodLink RX5 35 yX5_wordAt, .instanceMethod yX5_wordAt, .selects RX5 yX5_wordAt yX5_wordAt, .code yX5_wordAt cX5_wordAt 2 (some .int), .fieldLink RX5 7 "WordGuestModel" "bytes" "[I", .methodLink RX5 31 yX5_setWord, .instanceMethod yX5_setWord, .selects RX5 yX5_setWord yX5_setWord, .code yX5_setWord cX5_setWord 3 none] ++ wsX50)
def wsX5_register : List Cond := .code yX5_register cX5_register 2 (some .int) :: ([.fieldLink RX5 22 "WordGuestModel" "thrown" "I", .fieldLink RX5 13 "WordGuestModel" "registers" "[I"] ++ wsX50)
def wsX5_put : List Cond := .code yX5_put cX5_put 3 none :: ([.fieldLink RX5 22 "WordGuestModel" "thrown" "I", .fieldLink RX5 13 "WordGuestModel" "registers" "[I", .constant RX5 30 (65535)] ++ wsX50)
def wsX5_flags : List Cond := .code yX5_flags cX5_flags 1 (some .int) :: ([.fieldLink RX5 22 "WordGuestModel" "thrown" "I", .fieldLink RX5 39 "WordGuestModel" "flags" "I"] ++ wsX50)
def wsX5_flag : List Cond := .code yX5_flag cX5_flag 2 none :: ([.fieldLink RX5 22 "WordGuestModel" "thrown" "I", .fieldLink RX5 39 "WordGuestModel" "flags" "I"] ++ wsX50)
def wsX5_steps : List Cond := .code yX5_steps cX5_steps 1 (some .int) :: ([.fieldLink RX5 22 "WordGuestModel" "thrown" "I", .fieldLink RX5 42 "WordGuestModel" "steps" "I"] ++ wsX50)
def wsX5_output : List Cond := .code yX5_output cX5_output 2 (some .int) :: ([.fieldLink RX5 45 "WordGuestModel" "outCount" "I", .fieldLink RX5 22 "WordGuestModel" "thrown" "I", .fieldLink RX5 16 "WordGuestModel" "outs" "[I"] ++ wsX50)
def wsX5_outputs : List Cond := .code yX5_outputs cX5_outputs 1 (some .int) :: ([.fieldLink RX5 22 "WordGuestModel" "thrown" "I", .fieldLink RX5 45 "WordGuestModel" "outCount" "I"] ++ wsX50)
def wsX5_clear : List Cond := .code yX5_clear cX5_clear 2 none :: ([.fieldLink RX5 22 "WordGuestModel" "thrown" "I", .fieldLink RX5 7 "WordGuestModel" "bytes" "[I", .fieldLink RX5 13 "WordGuestModel" "registers" "[I", .fieldLink RX5 39 "WordGuestModel" "flags" "I", .fieldLink RX5 45 "WordGuestModel" "outCount" "I", .fieldLink RX5 42 "WordGuestModel" "steps" "I"] ++ wsX50)
def wsX5_fail : List Cond := .code yX5_fail cX5_fail 2 none :: ([.fieldLink RX5 48 "WordGuestModel" "fault" "I"] ++ wsX50)
def wsX5_read : List Cond := .code yX5_read cX5_read 3 (some .int) :: ([.fieldLink RX5 48 "WordGuestModel" "fault" "I", .fieldLink RX5 7 "WordGuestModel" "bytes" "[I", .methodLink RX5 51 yX5_fail, .instanceMethod yX5_fail, .selects RX5 yX5_fail yX5_fail, .initialized RX5, .code yX5_fail cX5_fail 2 none, .methodLink RX5 35 yX5_wordAt, .instanceMethod yX5_wordAt, .selects RX5 yX5_wordAt yX5_wordAt, .code yX5_wordAt cX5_wordAt 2 (some .int)] ++ wsX50)
def wsX5_fetch : List Cond := .code yX5_fetch cX5_fetch 2 (some .int) :: ([.fieldLink RX5 19 "WordGuestModel" "now" "[I", .constant RX5 30 (65535), .methodLink RX5 55 yX5_read, .instanceMethod yX5_read, .selects RX5 yX5_read yX5_read, .initialized RX5, .code yX5_read cX5_read 3 (some .int), .fieldLink RX5 48 "WordGuestModel" "fault" "I", .fieldLink RX5 7 "WordGuestModel" "bytes" "[I", .methodLink RX5 51 yX5_fail, .instanceMethod yX5_fail, .selects RX5 yX5_fail yX5_fail, .code yX5_fail cX5_fail 2 none, .methodLink RX5 35 yX5_wordAt, .instanceMethod yX5_wordAt, .selects RX5 yX5_wordAt yX5_wordAt, .code yX5_wordAt cX5_wordAt 2 (some .int)] ++ wsX50)
def wsX5_move : List Cond := .code yX5_move cX5_move 3 none :: ([.fieldLink RX5 19 "WordGuestModel" "now" "[I", .constant RX5 30 (65535)] ++ wsX50)
def wsX5_find_r1 : List Cond := [Cond.fieldLink RX5 59 "WordGuestModel" "isByte" "Z", Cond.fieldLink RX5 63 "WordGuestModel" "atRegister" "I", Cond.fieldLink RX5 66 "WordGuestModel" "atPlace" "I", Cond.fieldLink RX5 48 "WordGuestModel" "fault" "I", Cond.fieldLink RX5 19 "WordGuestModel" "now" "[I", Cond.constant RX5 30 (65535), Cond.methodLink RX5 69 yX5_move, Cond.instanceMethod yX5_move, Cond.selects RX5 yX5_move yX5_move, Cond.initialized RX5, Cond.code yX5_move cX5_move 3 none, Cond.methodLink RX5 55 yX5_read, Cond.instanceMethod yX5_read, Cond.selects RX5 yX5_read yX5_read, Cond.code yX5_read cX5_read 3 (some .int), Cond.fieldLink RX5 7 "WordGuestModel" "bytes" "[I", Cond.methodLink RX5 51 yX5_fail, Cond.instanceMethod yX5_fail, Cond.selects RX5 yX5_fail yX5_fail, Cond.code yX5_fail cX5_fail 2 none, Cond.methodLink RX5 35 yX5_wordAt, Cond.instanceMethod yX5_wordAt, Cond.selects RX5 yX5_wordAt yX5_wordAt, Cond.code yX5_wordAt cX5_wordAt 2 (some .int)]
def wsX5_find_r2 : List Cond := [Cond.methodLink RX5 72 yX5_fetch, Cond.instanceMethod yX5_fetch, Cond.selects RX5 yX5_fetch yX5_fetch, Cond.code yX5_fetch cX5_fetch 2 (some .int)]
def wsX5_find : List Cond := .code yX5_find cX5_find 6 none :: ((wsX5_find_r1 ++ wsX5_find_r2) ++ wsX50)
def wsX5_get : List Cond := .code yX5_get cX5_get 1 (some .int) :: ([.fieldLink RX5 48 "WordGuestModel" "fault" "I", .fieldLink RX5 63 "WordGuestModel" "atRegister" "I", .fieldLink RX5 59 "WordGuestModel" "isByte" "Z", .fieldLink RX5 19 "WordGuestModel" "now" "[I", .fieldLink RX5 66 "WordGuestModel" "atPlace" "I", .methodLink RX5 55 yX5_read, .instanceMethod yX5_read, .selects RX5 yX5_read yX5_read, .initialized RX5, .code yX5_read cX5_read 3 (some .int), .fieldLink RX5 7 "WordGuestModel" "bytes" "[I", .methodLink RX5 51 yX5_fail, .instanceMethod yX5_fail, .selects RX5 yX5_fail yX5_fail, .code yX5_fail cX5_fail 2 none, .methodLink RX5 35 yX5_wordAt, .instanceMethod yX5_wordAt, .selects RX5 yX5_wordAt yX5_wordAt, .code yX5_wordAt cX5_wordAt 2 (some .int)] ++ wsX50)
def wsX5_write : List Cond := .code yX5_write cX5_write 2 none :: ([.fieldLink RX5 48 "WordGuestModel" "fault" "I", .fieldLink RX5 63 "WordGuestModel" "atRegister" "I", .fieldLink RX5 19 "WordGuestModel" "now" "[I", .fieldLink RX5 59 "WordGuestModel" "isByte" "Z", .constant RX5 76 (65280), .constant RX5 30 (65535), .fieldLink RX5 66 "WordGuestModel" "atPlace" "I", .fieldLink RX5 77 "WordGuestModel" "writePlace" "I", .fieldLink RX5 80 "WordGuestModel" "writeSize" "I", .fieldLink RX5 83 "WordGuestModel" "writeValue" "I", .methodLink RX5 55 yX5_read, .instanceMethod yX5_read, .selects RX5 yX5_read yX5_read, .initialized RX5, .code yX5_read cX5_read 3 (some .int), .fieldLink RX5 7 "WordGuestModel" "bytes" "[I", .methodLink RX5 51 yX5_fail, .instanceMethod yX5_fail, .selects RX5 yX5_fail yX5_fail, .code yX5_fail cX5_fail 2 none, .methodLink RX5 35 yX5_wordAt, .instanceMethod yX5_wordAt, .selects RX5 yX5_wordAt yX5_wordAt, .code yX5_wordAt cX5_wordAt 2 (some .int)] ++ wsX50)
def wsX5_mask : List Cond := .code yX5_mask cX5_mask 1 (some .int) :: ([.fieldLink RX5 59 "WordGuestModel" "isByte" "Z", .constant RX5 30 (65535)] ++ wsX50)
def wsX5_top : List Cond := .code yX5_top cX5_top 1 (some .int) :: ([.fieldLink RX5 59 "WordGuestModel" "isByte" "Z", .constant RX5 86 (32768)] ++ wsX50)
def wsX5_negative : List Cond := .code yX5_negative cX5_negative 2 (some .boolean) :: ([.methodLink RX5 87 yX5_top, .instanceMethod yX5_top, .selects RX5 yX5_top yX5_top, .initialized RX5, .code yX5_top cX5_top 1 (some .int), .fieldLink RX5 59 "WordGuestModel" "isByte" "Z", .constant RX5 86 (32768)] ++ wsX50)
def wsX5_set : List Cond := .code yX5_set cX5_set 5 none :: ([.fieldLink RX5 90 "WordGuestModel" "nowFlags" "I"] ++ wsX50)
def wsX5_setBy : List Cond := .code yX5_setBy cX5_setBy 4 none :: ([.methodLink RX5 93 yX5_negative, .instanceMethod yX5_negative, .selects RX5 yX5_negative yX5_negative, .initialized RX5, .code yX5_negative cX5_negative 2 (some .boolean), .methodLink RX5 87 yX5_top, .instanceMethod yX5_top, .selects RX5 yX5_top yX5_top, .code yX5_top cX5_top 1 (some .int), .fieldLink RX5 59 "WordGuestModel" "isByte" "Z", .constant RX5 86 (32768), .methodLink RX5 96 yX5_mask, .instanceMethod yX5_mask, .selects RX5 yX5_mask yX5_mask, .code yX5_mask cX5_mask 1 (some .int), .constant RX5 30 (65535), .methodLink RX5 99 yX5_set, .instanceMethod yX5_set, .selects RX5 yX5_set yX5_set, .code yX5_set cX5_set 5 none, .fieldLink RX5 90 "WordGuestModel" "nowFlags" "I"] ++ wsX50)
def wsX5_has : List Cond := .code yX5_has cX5_has 2 (some .boolean) :: ([.fieldLink RX5 90 "WordGuestModel" "nowFlags" "I"] ++ wsX50)
def wsX5_two_r1 : List Cond := [Cond.fieldLink RX5 59 "WordGuestModel" "isByte" "Z", Cond.fieldLink RX5 63 "WordGuestModel" "atRegister" "I", Cond.fieldLink RX5 19 "WordGuestModel" "now" "[I", Cond.constant RX5 76 (65280), Cond.methodLink RX5 103 yX5_find, Cond.instanceMethod yX5_find, Cond.selects RX5 yX5_find yX5_find, Cond.initialized RX5, Cond.code yX5_find cX5_find 6 none, Cond.fieldLink RX5 66 "WordGuestModel" "atPlace" "I", Cond.fieldLink RX5 48 "WordGuestModel" "fault" "I", Cond.constant RX5 30 (65535), Cond.methodLink RX5 69 yX5_move, Cond.instanceMethod yX5_move, Cond.selects RX5 yX5_move yX5_move, Cond.code yX5_move cX5_move 3 none, Cond.methodLink RX5 55 yX5_read, Cond.instanceMethod yX5_read, Cond.selects RX5 yX5_read yX5_read, Cond.code yX5_read cX5_read 3 (some .int), Cond.fieldLink RX5 7 "WordGuestModel" "bytes" "[I", Cond.methodLink RX5 51 yX5_fail, Cond.instanceMethod yX5_fail, Cond.selects RX5 yX5_fail yX5_fail]
def wsX5_two_r2 : List Cond := [Cond.code yX5_fail cX5_fail 2 none, Cond.methodLink RX5 35 yX5_wordAt, Cond.instanceMethod yX5_wordAt, Cond.selects RX5 yX5_wordAt yX5_wordAt, Cond.code yX5_wordAt cX5_wordAt 2 (some .int), Cond.methodLink RX5 72 yX5_fetch, Cond.instanceMethod yX5_fetch, Cond.selects RX5 yX5_fetch yX5_fetch, Cond.code yX5_fetch cX5_fetch 2 (some .int), Cond.methodLink RX5 106 yX5_get, Cond.instanceMethod yX5_get, Cond.selects RX5 yX5_get yX5_get, Cond.code yX5_get cX5_get 1 (some .int), Cond.methodLink RX5 109 yX5_has, Cond.instanceMethod yX5_has, Cond.selects RX5 yX5_has yX5_has, Cond.code yX5_has cX5_has 2 (some .boolean), Cond.fieldLink RX5 90 "WordGuestModel" "nowFlags" "I", Cond.methodLink RX5 96 yX5_mask, Cond.instanceMethod yX5_mask, Cond.selects RX5 yX5_mask yX5_mask, Cond.code yX5_mask cX5_mask 1 (some .int), Cond.methodLink RX5 93 yX5_negative, Cond.instanceMethod yX5_negative]
def wsX5_two_r3 : List Cond := [Cond.selects RX5 yX5_negative yX5_negative, Cond.code yX5_negative cX5_negative 2 (some .boolean), Cond.methodLink RX5 87 yX5_top, Cond.instanceMethod yX5_top, Cond.selects RX5 yX5_top yX5_top, Cond.code yX5_top cX5_top 1 (some .int), Cond.constant RX5 86 (32768), Cond.methodLink RX5 112 yX5_setBy, Cond.instanceMethod yX5_setBy, Cond.selects RX5 yX5_setBy yX5_setBy, Cond.code yX5_setBy cX5_setBy 4 none, Cond.methodLink RX5 99 yX5_set, Cond.instanceMethod yX5_set, Cond.selects RX5 yX5_set yX5_set, Cond.code yX5_set cX5_set 5 none, Cond.methodLink RX5 116 yX5_write, Cond.instanceMethod yX5_write, Cond.selects RX5 yX5_write yX5_write, Cond.code yX5_write cX5_write 2 none, Cond.fieldLink RX5 77 "WordGuestModel" "writePlace" "I", Cond.fieldLink RX5 80 "WordGuestModel" "writeSize" "I", Cond.fieldLink RX5 83 "WordGuestModel" "writeValue" "I"]
def wsX5_two : List Cond := .code yX5_two cX5_two 7 none :: ((wsX5_two_r1 ++ (wsX5_two_r2 ++ wsX5_two_r3)) ++ wsX50)
def wsX5_sum_r1 : List Cond := [Cond.constant RX5 30 (65535), Cond.methodLink RX5 103 yX5_find, Cond.instanceMethod yX5_find, Cond.selects RX5 yX5_find yX5_find, Cond.initialized RX5, Cond.code yX5_find cX5_find 6 none, Cond.fieldLink RX5 59 "WordGuestModel" "isByte" "Z", Cond.fieldLink RX5 63 "WordGuestModel" "atRegister" "I", Cond.fieldLink RX5 66 "WordGuestModel" "atPlace" "I", Cond.fieldLink RX5 48 "WordGuestModel" "fault" "I", Cond.fieldLink RX5 19 "WordGuestModel" "now" "[I", Cond.methodLink RX5 69 yX5_move, Cond.instanceMethod yX5_move, Cond.selects RX5 yX5_move yX5_move, Cond.code yX5_move cX5_move 3 none, Cond.methodLink RX5 55 yX5_read, Cond.instanceMethod yX5_read, Cond.selects RX5 yX5_read yX5_read, Cond.code yX5_read cX5_read 3 (some .int), Cond.fieldLink RX5 7 "WordGuestModel" "bytes" "[I", Cond.methodLink RX5 51 yX5_fail, Cond.instanceMethod yX5_fail, Cond.selects RX5 yX5_fail yX5_fail, Cond.code yX5_fail cX5_fail 2 none]
def wsX5_sum_r2 : List Cond := [Cond.methodLink RX5 35 yX5_wordAt, Cond.instanceMethod yX5_wordAt, Cond.selects RX5 yX5_wordAt yX5_wordAt, Cond.code yX5_wordAt cX5_wordAt 2 (some .int), Cond.methodLink RX5 72 yX5_fetch, Cond.instanceMethod yX5_fetch, Cond.selects RX5 yX5_fetch yX5_fetch, Cond.code yX5_fetch cX5_fetch 2 (some .int), Cond.methodLink RX5 106 yX5_get, Cond.instanceMethod yX5_get, Cond.selects RX5 yX5_get yX5_get, Cond.code yX5_get cX5_get 1 (some .int), Cond.methodLink RX5 93 yX5_negative, Cond.instanceMethod yX5_negative, Cond.selects RX5 yX5_negative yX5_negative, Cond.code yX5_negative cX5_negative 2 (some .boolean), Cond.methodLink RX5 87 yX5_top, Cond.instanceMethod yX5_top, Cond.selects RX5 yX5_top yX5_top, Cond.code yX5_top cX5_top 1 (some .int), Cond.constant RX5 86 (32768), Cond.methodLink RX5 112 yX5_setBy, Cond.instanceMethod yX5_setBy, Cond.selects RX5 yX5_setBy yX5_setBy]
def wsX5_sum_r3 : List Cond := [Cond.code yX5_setBy cX5_setBy 4 none, Cond.methodLink RX5 96 yX5_mask, Cond.instanceMethod yX5_mask, Cond.selects RX5 yX5_mask yX5_mask, Cond.code yX5_mask cX5_mask 1 (some .int), Cond.methodLink RX5 99 yX5_set, Cond.instanceMethod yX5_set, Cond.selects RX5 yX5_set yX5_set, Cond.code yX5_set cX5_set 5 none, Cond.fieldLink RX5 90 "WordGuestModel" "nowFlags" "I", Cond.methodLink RX5 116 yX5_write, Cond.instanceMethod yX5_write, Cond.selects RX5 yX5_write yX5_write, Cond.code yX5_write cX5_write 2 none, Cond.constant RX5 76 (65280), Cond.fieldLink RX5 77 "WordGuestModel" "writePlace" "I", Cond.fieldLink RX5 80 "WordGuestModel" "writeSize" "I", Cond.fieldLink RX5 83 "WordGuestModel" "writeValue" "I"]
def wsX5_sum : List Cond := .code yX5_sum cX5_sum 6 none :: ((wsX5_sum_r1 ++ (wsX5_sum_r2 ++ wsX5_sum_r3)) ++ wsX50)
def wsX5_one_r1 : List Cond := [Cond.methodLink RX5 103 yX5_find, Cond.instanceMethod yX5_find, Cond.selects RX5 yX5_find yX5_find, Cond.initialized RX5, Cond.code yX5_find cX5_find 6 none, Cond.fieldLink RX5 59 "WordGuestModel" "isByte" "Z", Cond.fieldLink RX5 63 "WordGuestModel" "atRegister" "I", Cond.fieldLink RX5 66 "WordGuestModel" "atPlace" "I", Cond.fieldLink RX5 48 "WordGuestModel" "fault" "I", Cond.fieldLink RX5 19 "WordGuestModel" "now" "[I", Cond.constant RX5 30 (65535), Cond.methodLink RX5 69 yX5_move, Cond.instanceMethod yX5_move, Cond.selects RX5 yX5_move yX5_move, Cond.code yX5_move cX5_move 3 none, Cond.methodLink RX5 55 yX5_read, Cond.instanceMethod yX5_read, Cond.selects RX5 yX5_read yX5_read, Cond.code yX5_read cX5_read 3 (some .int), Cond.fieldLink RX5 7 "WordGuestModel" "bytes" "[I", Cond.methodLink RX5 51 yX5_fail, Cond.instanceMethod yX5_fail, Cond.selects RX5 yX5_fail yX5_fail, Cond.code yX5_fail cX5_fail 2 none]
def wsX5_one_r2 : List Cond := [Cond.methodLink RX5 35 yX5_wordAt, Cond.instanceMethod yX5_wordAt, Cond.selects RX5 yX5_wordAt yX5_wordAt, Cond.code yX5_wordAt cX5_wordAt 2 (some .int), Cond.methodLink RX5 72 yX5_fetch, Cond.instanceMethod yX5_fetch, Cond.selects RX5 yX5_fetch yX5_fetch, Cond.code yX5_fetch cX5_fetch 2 (some .int), Cond.methodLink RX5 106 yX5_get, Cond.instanceMethod yX5_get, Cond.selects RX5 yX5_get yX5_get, Cond.code yX5_get cX5_get 1 (some .int), Cond.methodLink RX5 109 yX5_has, Cond.instanceMethod yX5_has, Cond.selects RX5 yX5_has yX5_has, Cond.code yX5_has cX5_has 2 (some .boolean), Cond.fieldLink RX5 90 "WordGuestModel" "nowFlags" "I", Cond.methodLink RX5 87 yX5_top, Cond.instanceMethod yX5_top, Cond.selects RX5 yX5_top yX5_top, Cond.code yX5_top cX5_top 1 (some .int), Cond.constant RX5 86 (32768), Cond.methodLink RX5 96 yX5_mask, Cond.instanceMethod yX5_mask]
def wsX5_one_r3 : List Cond := [Cond.selects RX5 yX5_mask yX5_mask, Cond.code yX5_mask cX5_mask 1 (some .int), Cond.methodLink RX5 112 yX5_setBy, Cond.instanceMethod yX5_setBy, Cond.selects RX5 yX5_setBy yX5_setBy, Cond.code yX5_setBy cX5_setBy 4 none, Cond.methodLink RX5 93 yX5_negative, Cond.instanceMethod yX5_negative, Cond.selects RX5 yX5_negative yX5_negative, Cond.code yX5_negative cX5_negative 2 (some .boolean), Cond.methodLink RX5 99 yX5_set, Cond.instanceMethod yX5_set, Cond.selects RX5 yX5_set yX5_set, Cond.code yX5_set cX5_set 5 none, Cond.methodLink RX5 116 yX5_write, Cond.instanceMethod yX5_write, Cond.selects RX5 yX5_write yX5_write, Cond.code yX5_write cX5_write 2 none, Cond.constant RX5 76 (65280), Cond.fieldLink RX5 77 "WordGuestModel" "writePlace" "I", Cond.fieldLink RX5 80 "WordGuestModel" "writeSize" "I", Cond.fieldLink RX5 83 "WordGuestModel" "writeValue" "I"]
def wsX5_one : List Cond := .code yX5_one cX5_one 12 none :: ((wsX5_one_r1 ++ (wsX5_one_r2 ++ wsX5_one_r3)) ++ wsX50)
def wsX5_exchangeBytes_r1 : List Cond := [Cond.constant RX5 76 (65280), Cond.methodLink RX5 103 yX5_find, Cond.instanceMethod yX5_find, Cond.selects RX5 yX5_find yX5_find, Cond.initialized RX5, Cond.code yX5_find cX5_find 6 none, Cond.fieldLink RX5 59 "WordGuestModel" "isByte" "Z", Cond.fieldLink RX5 63 "WordGuestModel" "atRegister" "I", Cond.fieldLink RX5 66 "WordGuestModel" "atPlace" "I", Cond.fieldLink RX5 48 "WordGuestModel" "fault" "I", Cond.fieldLink RX5 19 "WordGuestModel" "now" "[I", Cond.constant RX5 30 (65535), Cond.methodLink RX5 69 yX5_move, Cond.instanceMethod yX5_move, Cond.selects RX5 yX5_move yX5_move, Cond.code yX5_move cX5_move 3 none, Cond.methodLink RX5 55 yX5_read, Cond.instanceMethod yX5_read, Cond.selects RX5 yX5_read yX5_read, Cond.code yX5_read cX5_read 3 (some .int), Cond.fieldLink RX5 7 "WordGuestModel" "bytes" "[I", Cond.methodLink RX5 51 yX5_fail, Cond.instanceMethod yX5_fail, Cond.selects RX5 yX5_fail yX5_fail]
def wsX5_exchangeBytes_r2 : List Cond := [Cond.code yX5_fail cX5_fail 2 none, Cond.methodLink RX5 35 yX5_wordAt, Cond.instanceMethod yX5_wordAt, Cond.selects RX5 yX5_wordAt yX5_wordAt, Cond.code yX5_wordAt cX5_wordAt 2 (some .int), Cond.methodLink RX5 72 yX5_fetch, Cond.instanceMethod yX5_fetch, Cond.selects RX5 yX5_fetch yX5_fetch, Cond.code yX5_fetch cX5_fetch 2 (some .int), Cond.methodLink RX5 106 yX5_get, Cond.instanceMethod yX5_get, Cond.selects RX5 yX5_get yX5_get, Cond.code yX5_get cX5_get 1 (some .int), Cond.methodLink RX5 99 yX5_set, Cond.instanceMethod yX5_set, Cond.selects RX5 yX5_set yX5_set, Cond.code yX5_set cX5_set 5 none, Cond.fieldLink RX5 90 "WordGuestModel" "nowFlags" "I", Cond.methodLink RX5 116 yX5_write, Cond.instanceMethod yX5_write, Cond.selects RX5 yX5_write yX5_write, Cond.code yX5_write cX5_write 2 none, Cond.fieldLink RX5 77 "WordGuestModel" "writePlace" "I", Cond.fieldLink RX5 80 "WordGuestModel" "writeSize" "I"]
def wsX5_exchangeBytes_r3 : List Cond := [Cond.fieldLink RX5 83 "WordGuestModel" "writeValue" "I"]
def wsX5_exchangeBytes : List Cond := .code yX5_exchangeBytes cX5_exchangeBytes 4 none :: ((wsX5_exchangeBytes_r1 ++ (wsX5_exchangeBytes_r2 ++ wsX5_exchangeBytes_r3)) ++ wsX50)
def wsX5_signOut_r1 : List Cond := [Cond.constant RX5 30 (65535), Cond.methodLink RX5 103 yX5_find, Cond.instanceMethod yX5_find, Cond.selects RX5 yX5_find yX5_find, Cond.initialized RX5, Cond.code yX5_find cX5_find 6 none, Cond.fieldLink RX5 59 "WordGuestModel" "isByte" "Z", Cond.fieldLink RX5 63 "WordGuestModel" "atRegister" "I", Cond.fieldLink RX5 66 "WordGuestModel" "atPlace" "I", Cond.fieldLink RX5 48 "WordGuestModel" "fault" "I", Cond.fieldLink RX5 19 "WordGuestModel" "now" "[I", Cond.methodLink RX5 69 yX5_move, Cond.instanceMethod yX5_move, Cond.selects RX5 yX5_move yX5_move, Cond.code yX5_move cX5_move 3 none, Cond.methodLink RX5 55 yX5_read, Cond.instanceMethod yX5_read, Cond.selects RX5 yX5_read yX5_read, Cond.code yX5_read cX5_read 3 (some .int), Cond.fieldLink RX5 7 "WordGuestModel" "bytes" "[I", Cond.methodLink RX5 51 yX5_fail, Cond.instanceMethod yX5_fail, Cond.selects RX5 yX5_fail yX5_fail, Cond.code yX5_fail cX5_fail 2 none]
def wsX5_signOut_r2 : List Cond := [Cond.methodLink RX5 35 yX5_wordAt, Cond.instanceMethod yX5_wordAt, Cond.selects RX5 yX5_wordAt yX5_wordAt, Cond.code yX5_wordAt cX5_wordAt 2 (some .int), Cond.methodLink RX5 72 yX5_fetch, Cond.instanceMethod yX5_fetch, Cond.selects RX5 yX5_fetch yX5_fetch, Cond.code yX5_fetch cX5_fetch 2 (some .int), Cond.methodLink RX5 106 yX5_get, Cond.instanceMethod yX5_get, Cond.selects RX5 yX5_get yX5_get, Cond.code yX5_get cX5_get 1 (some .int), Cond.methodLink RX5 109 yX5_has, Cond.instanceMethod yX5_has, Cond.selects RX5 yX5_has yX5_has, Cond.code yX5_has cX5_has 2 (some .boolean), Cond.fieldLink RX5 90 "WordGuestModel" "nowFlags" "I", Cond.methodLink RX5 99 yX5_set, Cond.instanceMethod yX5_set, Cond.selects RX5 yX5_set yX5_set, Cond.code yX5_set cX5_set 5 none, Cond.methodLink RX5 116 yX5_write, Cond.instanceMethod yX5_write, Cond.selects RX5 yX5_write yX5_write]
def wsX5_signOut_r3 : List Cond := [Cond.code yX5_write cX5_write 2 none, Cond.constant RX5 76 (65280), Cond.fieldLink RX5 77 "WordGuestModel" "writePlace" "I", Cond.fieldLink RX5 80 "WordGuestModel" "writeSize" "I", Cond.fieldLink RX5 83 "WordGuestModel" "writeValue" "I"]
def wsX5_signOut : List Cond := .code yX5_signOut cX5_signOut 4 none :: ((wsX5_signOut_r1 ++ (wsX5_signOut_r2 ++ wsX5_signOut_r3)) ++ wsX50)
def wsX5_signed : List Cond := .code yX5_signed cX5_signed 1 (some .int) :: ([.constant RX5 119 (65536)])
def wsX5_product_r1 : List Cond := [Cond.fieldLink RX5 19 "WordGuestModel" "now" "[I", Cond.constant RX5 30 (65535), Cond.methodLink RX5 103 yX5_find, Cond.instanceMethod yX5_find, Cond.selects RX5 yX5_find yX5_find, Cond.initialized RX5, Cond.code yX5_find cX5_find 6 none, Cond.fieldLink RX5 59 "WordGuestModel" "isByte" "Z", Cond.fieldLink RX5 63 "WordGuestModel" "atRegister" "I", Cond.fieldLink RX5 66 "WordGuestModel" "atPlace" "I", Cond.fieldLink RX5 48 "WordGuestModel" "fault" "I", Cond.methodLink RX5 69 yX5_move, Cond.instanceMethod yX5_move, Cond.selects RX5 yX5_move yX5_move, Cond.code yX5_move cX5_move 3 none, Cond.methodLink RX5 55 yX5_read, Cond.instanceMethod yX5_read, Cond.selects RX5 yX5_read yX5_read, Cond.code yX5_read cX5_read 3 (some .int), Cond.fieldLink RX5 7 "WordGuestModel" "bytes" "[I", Cond.methodLink RX5 51 yX5_fail, Cond.instanceMethod yX5_fail, Cond.selects RX5 yX5_fail yX5_fail, Cond.code yX5_fail cX5_fail 2 none]
def wsX5_product_r2 : List Cond := [Cond.methodLink RX5 35 yX5_wordAt, Cond.instanceMethod yX5_wordAt, Cond.selects RX5 yX5_wordAt yX5_wordAt, Cond.code yX5_wordAt cX5_wordAt 2 (some .int), Cond.methodLink RX5 72 yX5_fetch, Cond.instanceMethod yX5_fetch, Cond.selects RX5 yX5_fetch yX5_fetch, Cond.code yX5_fetch cX5_fetch 2 (some .int), Cond.methodLink RX5 106 yX5_get, Cond.instanceMethod yX5_get, Cond.selects RX5 yX5_get yX5_get, Cond.code yX5_get cX5_get 1 (some .int), Cond.methodLink RX5 120 yX5_signed, Cond.static yX5_signed, Cond.code yX5_signed cX5_signed 1 (some .int), Cond.constant RX5 119 (65536), Cond.methodLink RX5 99 yX5_set, Cond.instanceMethod yX5_set, Cond.selects RX5 yX5_set yX5_set, Cond.code yX5_set cX5_set 5 none, Cond.fieldLink RX5 90 "WordGuestModel" "nowFlags" "I"]
def wsX5_product : List Cond := .code yX5_product cX5_product 5 none :: ((wsX5_product_r1 ++ wsX5_product_r2) ++ wsX50)
def wsX5_quotient_r1 : List Cond := [Cond.fieldLink RX5 19 "WordGuestModel" "now" "[I", Cond.fieldLink RX5 48 "WordGuestModel" "fault" "I", Cond.fieldLink RX5 90 "WordGuestModel" "nowFlags" "I", Cond.constantLong RX5 123 (-32768), Cond.constantLong RX5 125 (32767), Cond.constant RX5 30 (65535), Cond.methodLink RX5 51 yX5_fail, Cond.instanceMethod yX5_fail, Cond.selects RX5 yX5_fail yX5_fail, Cond.initialized RX5, Cond.code yX5_fail cX5_fail 2 none, Cond.methodLink RX5 103 yX5_find, Cond.instanceMethod yX5_find, Cond.selects RX5 yX5_find yX5_find, Cond.code yX5_find cX5_find 6 none, Cond.fieldLink RX5 59 "WordGuestModel" "isByte" "Z", Cond.fieldLink RX5 63 "WordGuestModel" "atRegister" "I", Cond.fieldLink RX5 66 "WordGuestModel" "atPlace" "I", Cond.methodLink RX5 69 yX5_move, Cond.instanceMethod yX5_move, Cond.selects RX5 yX5_move yX5_move, Cond.code yX5_move cX5_move 3 none, Cond.methodLink RX5 55 yX5_read, Cond.instanceMethod yX5_read]
def wsX5_quotient_r2 : List Cond := [Cond.selects RX5 yX5_read yX5_read, Cond.code yX5_read cX5_read 3 (some .int), Cond.fieldLink RX5 7 "WordGuestModel" "bytes" "[I", Cond.methodLink RX5 35 yX5_wordAt, Cond.instanceMethod yX5_wordAt, Cond.selects RX5 yX5_wordAt yX5_wordAt, Cond.code yX5_wordAt cX5_wordAt 2 (some .int), Cond.methodLink RX5 72 yX5_fetch, Cond.instanceMethod yX5_fetch, Cond.selects RX5 yX5_fetch yX5_fetch, Cond.code yX5_fetch cX5_fetch 2 (some .int), Cond.methodLink RX5 106 yX5_get, Cond.instanceMethod yX5_get, Cond.selects RX5 yX5_get yX5_get, Cond.code yX5_get cX5_get 1 (some .int), Cond.methodLink RX5 120 yX5_signed, Cond.static yX5_signed, Cond.code yX5_signed cX5_signed 1 (some .int), Cond.constant RX5 119 (65536), Cond.methodLink RX5 99 yX5_set, Cond.instanceMethod yX5_set, Cond.selects RX5 yX5_set yX5_set, Cond.code yX5_set cX5_set 5 none]
def wsX5_quotient : List Cond := .code yX5_quotient cX5_quotient 9 none :: ((wsX5_quotient_r1 ++ wsX5_quotient_r2) ++ wsX50)
def wsX5_shift_r1 : List Cond := [Cond.fieldLink RX5 19 "WordGuestModel" "now" "[I", Cond.constant RX5 30 (65535), Cond.constant RX5 86 (32768), Cond.methodLink RX5 103 yX5_find, Cond.instanceMethod yX5_find, Cond.selects RX5 yX5_find yX5_find, Cond.initialized RX5, Cond.code yX5_find cX5_find 6 none, Cond.fieldLink RX5 59 "WordGuestModel" "isByte" "Z", Cond.fieldLink RX5 63 "WordGuestModel" "atRegister" "I", Cond.fieldLink RX5 66 "WordGuestModel" "atPlace" "I", Cond.fieldLink RX5 48 "WordGuestModel" "fault" "I", Cond.methodLink RX5 69 yX5_move, Cond.instanceMethod yX5_move, Cond.selects RX5 yX5_move yX5_move, Cond.code yX5_move cX5_move 3 none, Cond.methodLink RX5 55 yX5_read, Cond.instanceMethod yX5_read, Cond.selects RX5 yX5_read yX5_read, Cond.code yX5_read cX5_read 3 (some .int), Cond.fieldLink RX5 7 "WordGuestModel" "bytes" "[I", Cond.methodLink RX5 51 yX5_fail, Cond.instanceMethod yX5_fail, Cond.selects RX5 yX5_fail yX5_fail]
def wsX5_shift_r2 : List Cond := [Cond.code yX5_fail cX5_fail 2 none, Cond.methodLink RX5 35 yX5_wordAt, Cond.instanceMethod yX5_wordAt, Cond.selects RX5 yX5_wordAt yX5_wordAt, Cond.code yX5_wordAt cX5_wordAt 2 (some .int), Cond.methodLink RX5 72 yX5_fetch, Cond.instanceMethod yX5_fetch, Cond.selects RX5 yX5_fetch yX5_fetch, Cond.code yX5_fetch cX5_fetch 2 (some .int), Cond.methodLink RX5 106 yX5_get, Cond.instanceMethod yX5_get, Cond.selects RX5 yX5_get yX5_get, Cond.code yX5_get cX5_get 1 (some .int), Cond.methodLink RX5 99 yX5_set, Cond.instanceMethod yX5_set, Cond.selects RX5 yX5_set yX5_set, Cond.code yX5_set cX5_set 5 none, Cond.fieldLink RX5 90 "WordGuestModel" "nowFlags" "I"]
def wsX5_shift : List Cond := .code yX5_shift cX5_shift 10 none :: ((wsX5_shift_r1 ++ wsX5_shift_r2) ++ wsX50)
def wsX5_either_r1 : List Cond := [Cond.fieldLink RX5 19 "WordGuestModel" "now" "[I", Cond.methodLink RX5 103 yX5_find, Cond.instanceMethod yX5_find, Cond.selects RX5 yX5_find yX5_find, Cond.initialized RX5, Cond.code yX5_find cX5_find 6 none, Cond.fieldLink RX5 59 "WordGuestModel" "isByte" "Z", Cond.fieldLink RX5 63 "WordGuestModel" "atRegister" "I", Cond.fieldLink RX5 66 "WordGuestModel" "atPlace" "I", Cond.fieldLink RX5 48 "WordGuestModel" "fault" "I", Cond.constant RX5 30 (65535), Cond.methodLink RX5 69 yX5_move, Cond.instanceMethod yX5_move, Cond.selects RX5 yX5_move yX5_move, Cond.code yX5_move cX5_move 3 none, Cond.methodLink RX5 55 yX5_read, Cond.instanceMethod yX5_read, Cond.selects RX5 yX5_read yX5_read, Cond.code yX5_read cX5_read 3 (some .int), Cond.fieldLink RX5 7 "WordGuestModel" "bytes" "[I", Cond.methodLink RX5 51 yX5_fail, Cond.instanceMethod yX5_fail, Cond.selects RX5 yX5_fail yX5_fail, Cond.code yX5_fail cX5_fail 2 none]
def wsX5_either_r2 : List Cond := [Cond.methodLink RX5 35 yX5_wordAt, Cond.instanceMethod yX5_wordAt, Cond.selects RX5 yX5_wordAt yX5_wordAt, Cond.code yX5_wordAt cX5_wordAt 2 (some .int), Cond.methodLink RX5 72 yX5_fetch, Cond.instanceMethod yX5_fetch, Cond.selects RX5 yX5_fetch yX5_fetch, Cond.code yX5_fetch cX5_fetch 2 (some .int), Cond.methodLink RX5 106 yX5_get, Cond.instanceMethod yX5_get, Cond.selects RX5 yX5_get yX5_get, Cond.code yX5_get cX5_get 1 (some .int), Cond.methodLink RX5 109 yX5_has, Cond.instanceMethod yX5_has, Cond.selects RX5 yX5_has yX5_has, Cond.code yX5_has cX5_has 2 (some .boolean), Cond.fieldLink RX5 90 "WordGuestModel" "nowFlags" "I", Cond.methodLink RX5 112 yX5_setBy, Cond.instanceMethod yX5_setBy, Cond.selects RX5 yX5_setBy yX5_setBy, Cond.code yX5_setBy cX5_setBy 4 none, Cond.methodLink RX5 93 yX5_negative, Cond.instanceMethod yX5_negative, Cond.selects RX5 yX5_negative yX5_negative]
def wsX5_either_r3 : List Cond := [Cond.code yX5_negative cX5_negative 2 (some .boolean), Cond.methodLink RX5 87 yX5_top, Cond.instanceMethod yX5_top, Cond.selects RX5 yX5_top yX5_top, Cond.code yX5_top cX5_top 1 (some .int), Cond.constant RX5 86 (32768), Cond.methodLink RX5 96 yX5_mask, Cond.instanceMethod yX5_mask, Cond.selects RX5 yX5_mask yX5_mask, Cond.code yX5_mask cX5_mask 1 (some .int), Cond.methodLink RX5 99 yX5_set, Cond.instanceMethod yX5_set, Cond.selects RX5 yX5_set yX5_set, Cond.code yX5_set cX5_set 5 none, Cond.methodLink RX5 116 yX5_write, Cond.instanceMethod yX5_write, Cond.selects RX5 yX5_write yX5_write, Cond.code yX5_write cX5_write 2 none, Cond.constant RX5 76 (65280), Cond.fieldLink RX5 77 "WordGuestModel" "writePlace" "I", Cond.fieldLink RX5 80 "WordGuestModel" "writeSize" "I", Cond.fieldLink RX5 83 "WordGuestModel" "writeValue" "I"]
def wsX5_either : List Cond := .code yX5_either cX5_either 5 none :: ((wsX5_either_r1 ++ (wsX5_either_r2 ++ wsX5_either_r3)) ++ wsX50)
def wsX5_jump_r1 : List Cond := [Cond.fieldLink RX5 66 "WordGuestModel" "atPlace" "I", Cond.fieldLink RX5 48 "WordGuestModel" "fault" "I", Cond.fieldLink RX5 19 "WordGuestModel" "now" "[I", Cond.fieldLink RX5 77 "WordGuestModel" "writePlace" "I", Cond.fieldLink RX5 80 "WordGuestModel" "writeSize" "I", Cond.fieldLink RX5 83 "WordGuestModel" "writeValue" "I", Cond.methodLink RX5 51 yX5_fail, Cond.instanceMethod yX5_fail, Cond.selects RX5 yX5_fail yX5_fail, Cond.initialized RX5, Cond.code yX5_fail cX5_fail 2 none, Cond.methodLink RX5 103 yX5_find, Cond.instanceMethod yX5_find, Cond.selects RX5 yX5_find yX5_find, Cond.code yX5_find cX5_find 6 none, Cond.fieldLink RX5 59 "WordGuestModel" "isByte" "Z", Cond.fieldLink RX5 63 "WordGuestModel" "atRegister" "I", Cond.constant RX5 30 (65535), Cond.methodLink RX5 69 yX5_move, Cond.instanceMethod yX5_move, Cond.selects RX5 yX5_move yX5_move, Cond.code yX5_move cX5_move 3 none, Cond.methodLink RX5 55 yX5_read, Cond.instanceMethod yX5_read]
def wsX5_jump_r2 : List Cond := [Cond.selects RX5 yX5_read yX5_read, Cond.code yX5_read cX5_read 3 (some .int), Cond.fieldLink RX5 7 "WordGuestModel" "bytes" "[I", Cond.methodLink RX5 35 yX5_wordAt, Cond.instanceMethod yX5_wordAt, Cond.selects RX5 yX5_wordAt yX5_wordAt, Cond.code yX5_wordAt cX5_wordAt 2 (some .int), Cond.methodLink RX5 72 yX5_fetch, Cond.instanceMethod yX5_fetch, Cond.selects RX5 yX5_fetch yX5_fetch, Cond.code yX5_fetch cX5_fetch 2 (some .int)]
def wsX5_jump : List Cond := .code yX5_jump cX5_jump 6 none :: ((wsX5_jump_r1 ++ wsX5_jump_r2) ++ wsX50)
def wsX5_back : List Cond := .code yX5_back cX5_back 3 none :: ([.fieldLink RX5 19 "WordGuestModel" "now" "[I", .methodLink RX5 55 yX5_read, .instanceMethod yX5_read, .selects RX5 yX5_read yX5_read, .initialized RX5, .code yX5_read cX5_read 3 (some .int), .fieldLink RX5 48 "WordGuestModel" "fault" "I", .fieldLink RX5 7 "WordGuestModel" "bytes" "[I", .methodLink RX5 51 yX5_fail, .instanceMethod yX5_fail, .selects RX5 yX5_fail yX5_fail, .code yX5_fail cX5_fail 2 none, .methodLink RX5 35 yX5_wordAt, .instanceMethod yX5_wordAt, .selects RX5 yX5_wordAt yX5_wordAt, .code yX5_wordAt cX5_wordAt 2 (some .int), .methodLink RX5 69 yX5_move, .instanceMethod yX5_move, .selects RX5 yX5_move yX5_move, .code yX5_move cX5_move 3 none, .constant RX5 30 (65535)] ++ wsX50)
def wsX5_goes : List Cond := .code yX5_goes cX5_goes 6 (some .boolean) :: ([.methodLink RX5 109 yX5_has, .instanceMethod yX5_has, .selects RX5 yX5_has yX5_has, .initialized RX5, .code yX5_has cX5_has 2 (some .boolean), .fieldLink RX5 90 "WordGuestModel" "nowFlags" "I"] ++ wsX50)
def wsX5_others_r1 : List Cond := [Cond.fieldLink RX5 143 "WordGuestModel" "halt" "Z", Cond.fieldLink RX5 19 "WordGuestModel" "now" "[I", Cond.fieldLink RX5 90 "WordGuestModel" "nowFlags" "I", Cond.methodLink RX5 146 yX5_jump, Cond.instanceMethod yX5_jump, Cond.selects RX5 yX5_jump yX5_jump, Cond.initialized RX5, Cond.code yX5_jump cX5_jump 6 none, Cond.fieldLink RX5 66 "WordGuestModel" "atPlace" "I", Cond.fieldLink RX5 48 "WordGuestModel" "fault" "I", Cond.fieldLink RX5 77 "WordGuestModel" "writePlace" "I", Cond.fieldLink RX5 80 "WordGuestModel" "writeSize" "I", Cond.fieldLink RX5 83 "WordGuestModel" "writeValue" "I", Cond.methodLink RX5 51 yX5_fail, Cond.instanceMethod yX5_fail, Cond.selects RX5 yX5_fail yX5_fail, Cond.code yX5_fail cX5_fail 2 none, Cond.methodLink RX5 103 yX5_find, Cond.instanceMethod yX5_find, Cond.selects RX5 yX5_find yX5_find, Cond.code yX5_find cX5_find 6 none, Cond.fieldLink RX5 59 "WordGuestModel" "isByte" "Z", Cond.fieldLink RX5 63 "WordGuestModel" "atRegister" "I", Cond.constant RX5 30 (65535)]
def wsX5_others_r2 : List Cond := [Cond.methodLink RX5 69 yX5_move, Cond.instanceMethod yX5_move, Cond.selects RX5 yX5_move yX5_move, Cond.code yX5_move cX5_move 3 none, Cond.methodLink RX5 55 yX5_read, Cond.instanceMethod yX5_read, Cond.selects RX5 yX5_read yX5_read, Cond.code yX5_read cX5_read 3 (some .int), Cond.fieldLink RX5 7 "WordGuestModel" "bytes" "[I", Cond.methodLink RX5 35 yX5_wordAt, Cond.instanceMethod yX5_wordAt, Cond.selects RX5 yX5_wordAt yX5_wordAt, Cond.code yX5_wordAt cX5_wordAt 2 (some .int), Cond.methodLink RX5 72 yX5_fetch, Cond.instanceMethod yX5_fetch, Cond.selects RX5 yX5_fetch yX5_fetch, Cond.code yX5_fetch cX5_fetch 2 (some .int), Cond.methodLink RX5 150 yX5_exchangeBytes, Cond.instanceMethod yX5_exchangeBytes, Cond.selects RX5 yX5_exchangeBytes yX5_exchangeBytes, Cond.code yX5_exchangeBytes cX5_exchangeBytes 4 none, Cond.constant RX5 76 (65280), Cond.methodLink RX5 106 yX5_get, Cond.instanceMethod yX5_get]
def wsX5_others_r3 : List Cond := [Cond.selects RX5 yX5_get yX5_get, Cond.code yX5_get cX5_get 1 (some .int), Cond.methodLink RX5 99 yX5_set, Cond.instanceMethod yX5_set, Cond.selects RX5 yX5_set yX5_set, Cond.code yX5_set cX5_set 5 none, Cond.methodLink RX5 116 yX5_write, Cond.instanceMethod yX5_write, Cond.selects RX5 yX5_write yX5_write, Cond.code yX5_write cX5_write 2 none, Cond.methodLink RX5 153 yX5_signOut, Cond.instanceMethod yX5_signOut, Cond.selects RX5 yX5_signOut yX5_signOut, Cond.code yX5_signOut cX5_signOut 4 none, Cond.methodLink RX5 109 yX5_has, Cond.instanceMethod yX5_has, Cond.selects RX5 yX5_has yX5_has, Cond.code yX5_has cX5_has 2 (some .boolean), Cond.methodLink RX5 156 yX5_product, Cond.instanceMethod yX5_product, Cond.selects RX5 yX5_product yX5_product, Cond.code yX5_product cX5_product 5 none, Cond.methodLink RX5 120 yX5_signed, Cond.static yX5_signed]
def wsX5_others_r4 : List Cond := [Cond.code yX5_signed cX5_signed 1 (some .int), Cond.constant RX5 119 (65536), Cond.methodLink RX5 159 yX5_quotient, Cond.instanceMethod yX5_quotient, Cond.selects RX5 yX5_quotient yX5_quotient, Cond.code yX5_quotient cX5_quotient 9 none, Cond.constantLong RX5 123 (-32768), Cond.constantLong RX5 125 (32767), Cond.methodLink RX5 162 yX5_shift, Cond.instanceMethod yX5_shift, Cond.selects RX5 yX5_shift yX5_shift, Cond.code yX5_shift cX5_shift 10 none, Cond.constant RX5 86 (32768), Cond.methodLink RX5 165 yX5_either, Cond.instanceMethod yX5_either, Cond.selects RX5 yX5_either yX5_either, Cond.code yX5_either cX5_either 5 none, Cond.methodLink RX5 112 yX5_setBy, Cond.instanceMethod yX5_setBy, Cond.selects RX5 yX5_setBy yX5_setBy, Cond.code yX5_setBy cX5_setBy 4 none, Cond.methodLink RX5 93 yX5_negative, Cond.instanceMethod yX5_negative, Cond.selects RX5 yX5_negative yX5_negative]
def wsX5_others_r5 : List Cond := [Cond.code yX5_negative cX5_negative 2 (some .boolean), Cond.methodLink RX5 87 yX5_top, Cond.instanceMethod yX5_top, Cond.selects RX5 yX5_top yX5_top, Cond.code yX5_top cX5_top 1 (some .int), Cond.methodLink RX5 96 yX5_mask, Cond.instanceMethod yX5_mask, Cond.selects RX5 yX5_mask yX5_mask, Cond.code yX5_mask cX5_mask 1 (some .int), Cond.methodLink RX5 168 yX5_back, Cond.instanceMethod yX5_back, Cond.selects RX5 yX5_back yX5_back, Cond.code yX5_back cX5_back 3 none]
def wsX5_others : List Cond := .code yX5_others cX5_others 4 none :: ((wsX5_others_r1 ++ (wsX5_others_r2 ++ (wsX5_others_r3 ++ (wsX5_others_r4 ++ wsX5_others_r5)))) ++ wsX50)
def wsX5_does_r1 : List Cond := [Cond.fieldLink RX5 59 "WordGuestModel" "isByte" "Z", Cond.methodLink RX5 127 yX5_two, Cond.instanceMethod yX5_two, Cond.selects RX5 yX5_two yX5_two, Cond.initialized RX5, Cond.code yX5_two cX5_two 7 none, Cond.fieldLink RX5 63 "WordGuestModel" "atRegister" "I", Cond.fieldLink RX5 19 "WordGuestModel" "now" "[I", Cond.constant RX5 76 (65280), Cond.methodLink RX5 103 yX5_find, Cond.instanceMethod yX5_find, Cond.selects RX5 yX5_find yX5_find, Cond.code yX5_find cX5_find 6 none, Cond.fieldLink RX5 66 "WordGuestModel" "atPlace" "I", Cond.fieldLink RX5 48 "WordGuestModel" "fault" "I", Cond.constant RX5 30 (65535), Cond.methodLink RX5 69 yX5_move, Cond.instanceMethod yX5_move, Cond.selects RX5 yX5_move yX5_move, Cond.code yX5_move cX5_move 3 none, Cond.methodLink RX5 55 yX5_read, Cond.instanceMethod yX5_read, Cond.selects RX5 yX5_read yX5_read, Cond.code yX5_read cX5_read 3 (some .int)]
def wsX5_does_r2 : List Cond := [Cond.fieldLink RX5 7 "WordGuestModel" "bytes" "[I", Cond.methodLink RX5 51 yX5_fail, Cond.instanceMethod yX5_fail, Cond.selects RX5 yX5_fail yX5_fail, Cond.code yX5_fail cX5_fail 2 none, Cond.methodLink RX5 35 yX5_wordAt, Cond.instanceMethod yX5_wordAt, Cond.selects RX5 yX5_wordAt yX5_wordAt, Cond.code yX5_wordAt cX5_wordAt 2 (some .int), Cond.methodLink RX5 72 yX5_fetch, Cond.instanceMethod yX5_fetch, Cond.selects RX5 yX5_fetch yX5_fetch, Cond.code yX5_fetch cX5_fetch 2 (some .int), Cond.methodLink RX5 106 yX5_get, Cond.instanceMethod yX5_get, Cond.selects RX5 yX5_get yX5_get, Cond.code yX5_get cX5_get 1 (some .int), Cond.methodLink RX5 109 yX5_has, Cond.instanceMethod yX5_has, Cond.selects RX5 yX5_has yX5_has, Cond.code yX5_has cX5_has 2 (some .boolean), Cond.fieldLink RX5 90 "WordGuestModel" "nowFlags" "I", Cond.methodLink RX5 96 yX5_mask, Cond.instanceMethod yX5_mask]
def wsX5_does_r3 : List Cond := [Cond.selects RX5 yX5_mask yX5_mask, Cond.code yX5_mask cX5_mask 1 (some .int), Cond.methodLink RX5 93 yX5_negative, Cond.instanceMethod yX5_negative, Cond.selects RX5 yX5_negative yX5_negative, Cond.code yX5_negative cX5_negative 2 (some .boolean), Cond.methodLink RX5 87 yX5_top, Cond.instanceMethod yX5_top, Cond.selects RX5 yX5_top yX5_top, Cond.code yX5_top cX5_top 1 (some .int), Cond.constant RX5 86 (32768), Cond.methodLink RX5 112 yX5_setBy, Cond.instanceMethod yX5_setBy, Cond.selects RX5 yX5_setBy yX5_setBy, Cond.code yX5_setBy cX5_setBy 4 none, Cond.methodLink RX5 99 yX5_set, Cond.instanceMethod yX5_set, Cond.selects RX5 yX5_set yX5_set, Cond.code yX5_set cX5_set 5 none, Cond.methodLink RX5 116 yX5_write, Cond.instanceMethod yX5_write, Cond.selects RX5 yX5_write yX5_write, Cond.code yX5_write cX5_write 2 none, Cond.fieldLink RX5 77 "WordGuestModel" "writePlace" "I"]
def wsX5_does_r4 : List Cond := [Cond.fieldLink RX5 80 "WordGuestModel" "writeSize" "I", Cond.fieldLink RX5 83 "WordGuestModel" "writeValue" "I", Cond.methodLink RX5 130 yX5_sum, Cond.instanceMethod yX5_sum, Cond.selects RX5 yX5_sum yX5_sum, Cond.code yX5_sum cX5_sum 6 none, Cond.methodLink RX5 134 yX5_goes, Cond.instanceMethod yX5_goes, Cond.selects RX5 yX5_goes yX5_goes, Cond.code yX5_goes cX5_goes 6 (some .boolean), Cond.methodLink RX5 137 yX5_one, Cond.instanceMethod yX5_one, Cond.selects RX5 yX5_one yX5_one, Cond.code yX5_one cX5_one 12 none, Cond.methodLink RX5 140 yX5_others, Cond.instanceMethod yX5_others, Cond.selects RX5 yX5_others yX5_others, Cond.code yX5_others cX5_others 4 none, Cond.fieldLink RX5 143 "WordGuestModel" "halt" "Z", Cond.methodLink RX5 146 yX5_jump, Cond.instanceMethod yX5_jump, Cond.selects RX5 yX5_jump yX5_jump, Cond.code yX5_jump cX5_jump 6 none, Cond.methodLink RX5 150 yX5_exchangeBytes]
def wsX5_does_r5 : List Cond := [Cond.instanceMethod yX5_exchangeBytes, Cond.selects RX5 yX5_exchangeBytes yX5_exchangeBytes, Cond.code yX5_exchangeBytes cX5_exchangeBytes 4 none, Cond.methodLink RX5 153 yX5_signOut, Cond.instanceMethod yX5_signOut, Cond.selects RX5 yX5_signOut yX5_signOut, Cond.code yX5_signOut cX5_signOut 4 none, Cond.methodLink RX5 156 yX5_product, Cond.instanceMethod yX5_product, Cond.selects RX5 yX5_product yX5_product, Cond.code yX5_product cX5_product 5 none, Cond.methodLink RX5 120 yX5_signed, Cond.static yX5_signed, Cond.code yX5_signed cX5_signed 1 (some .int), Cond.constant RX5 119 (65536), Cond.methodLink RX5 159 yX5_quotient, Cond.instanceMethod yX5_quotient, Cond.selects RX5 yX5_quotient yX5_quotient, Cond.code yX5_quotient cX5_quotient 9 none, Cond.constantLong RX5 123 (-32768), Cond.constantLong RX5 125 (32767), Cond.methodLink RX5 162 yX5_shift, Cond.instanceMethod yX5_shift, Cond.selects RX5 yX5_shift yX5_shift]
def wsX5_does_r6 : List Cond := [Cond.code yX5_shift cX5_shift 10 none, Cond.methodLink RX5 165 yX5_either, Cond.instanceMethod yX5_either, Cond.selects RX5 yX5_either yX5_either, Cond.code yX5_either cX5_either 5 none, Cond.methodLink RX5 168 yX5_back, Cond.instanceMethod yX5_back, Cond.selects RX5 yX5_back yX5_back, Cond.code yX5_back cX5_back 3 none]
def wsX5_does : List Cond := .code yX5_does cX5_does 4 none :: ((wsX5_does_r1 ++ (wsX5_does_r2 ++ (wsX5_does_r3 ++ (wsX5_does_r4 ++ (wsX5_does_r5 ++ wsX5_does_r6))))) ++ wsX50)
def wsX5_step_r1 : List Cond := [Cond.fieldLink RX5 19 "WordGuestModel" "now" "[I", Cond.fieldLink RX5 13 "WordGuestModel" "registers" "[I", Cond.fieldLink RX5 39 "WordGuestModel" "flags" "I", Cond.fieldLink RX5 90 "WordGuestModel" "nowFlags" "I", Cond.fieldLink RX5 48 "WordGuestModel" "fault" "I", Cond.fieldLink RX5 80 "WordGuestModel" "writeSize" "I", Cond.fieldLink RX5 143 "WordGuestModel" "halt" "Z", Cond.fieldLink RX5 59 "WordGuestModel" "isByte" "Z", Cond.fieldLink RX5 7 "WordGuestModel" "bytes" "[I", Cond.fieldLink RX5 77 "WordGuestModel" "writePlace" "I", Cond.fieldLink RX5 83 "WordGuestModel" "writeValue" "I", Cond.fieldLink RX5 45 "WordGuestModel" "outCount" "I", Cond.fieldLink RX5 16 "WordGuestModel" "outs" "[I", Cond.constant RX5 30 (65535), Cond.fieldLink RX5 42 "WordGuestModel" "steps" "I", Cond.methodLink RX5 72 yX5_fetch, Cond.instanceMethod yX5_fetch, Cond.selects RX5 yX5_fetch yX5_fetch, Cond.initialized RX5, Cond.code yX5_fetch cX5_fetch 2 (some .int), Cond.methodLink RX5 55 yX5_read, Cond.instanceMethod yX5_read, Cond.selects RX5 yX5_read yX5_read, Cond.code yX5_read cX5_read 3 (some .int)]
def wsX5_step_r2 : List Cond := [Cond.methodLink RX5 51 yX5_fail, Cond.instanceMethod yX5_fail, Cond.selects RX5 yX5_fail yX5_fail, Cond.code yX5_fail cX5_fail 2 none, Cond.methodLink RX5 35 yX5_wordAt, Cond.instanceMethod yX5_wordAt, Cond.selects RX5 yX5_wordAt yX5_wordAt, Cond.code yX5_wordAt cX5_wordAt 2 (some .int), Cond.methodLink RX5 171 yX5_does, Cond.instanceMethod yX5_does, Cond.selects RX5 yX5_does yX5_does, Cond.code yX5_does cX5_does 4 none, Cond.methodLink RX5 127 yX5_two, Cond.instanceMethod yX5_two, Cond.selects RX5 yX5_two yX5_two, Cond.code yX5_two cX5_two 7 none, Cond.fieldLink RX5 63 "WordGuestModel" "atRegister" "I", Cond.constant RX5 76 (65280), Cond.methodLink RX5 103 yX5_find, Cond.instanceMethod yX5_find, Cond.selects RX5 yX5_find yX5_find, Cond.code yX5_find cX5_find 6 none, Cond.fieldLink RX5 66 "WordGuestModel" "atPlace" "I", Cond.methodLink RX5 69 yX5_move]
def wsX5_step_r3 : List Cond := [Cond.instanceMethod yX5_move, Cond.selects RX5 yX5_move yX5_move, Cond.code yX5_move cX5_move 3 none, Cond.methodLink RX5 106 yX5_get, Cond.instanceMethod yX5_get, Cond.selects RX5 yX5_get yX5_get, Cond.code yX5_get cX5_get 1 (some .int), Cond.methodLink RX5 109 yX5_has, Cond.instanceMethod yX5_has, Cond.selects RX5 yX5_has yX5_has, Cond.code yX5_has cX5_has 2 (some .boolean), Cond.methodLink RX5 96 yX5_mask, Cond.instanceMethod yX5_mask, Cond.selects RX5 yX5_mask yX5_mask, Cond.code yX5_mask cX5_mask 1 (some .int), Cond.methodLink RX5 93 yX5_negative, Cond.instanceMethod yX5_negative, Cond.selects RX5 yX5_negative yX5_negative, Cond.code yX5_negative cX5_negative 2 (some .boolean), Cond.methodLink RX5 87 yX5_top, Cond.instanceMethod yX5_top, Cond.selects RX5 yX5_top yX5_top, Cond.code yX5_top cX5_top 1 (some .int), Cond.constant RX5 86 (32768)]
def wsX5_step_r4 : List Cond := [Cond.methodLink RX5 112 yX5_setBy, Cond.instanceMethod yX5_setBy, Cond.selects RX5 yX5_setBy yX5_setBy, Cond.code yX5_setBy cX5_setBy 4 none, Cond.methodLink RX5 99 yX5_set, Cond.instanceMethod yX5_set, Cond.selects RX5 yX5_set yX5_set, Cond.code yX5_set cX5_set 5 none, Cond.methodLink RX5 116 yX5_write, Cond.instanceMethod yX5_write, Cond.selects RX5 yX5_write yX5_write, Cond.code yX5_write cX5_write 2 none, Cond.methodLink RX5 130 yX5_sum, Cond.instanceMethod yX5_sum, Cond.selects RX5 yX5_sum yX5_sum, Cond.code yX5_sum cX5_sum 6 none, Cond.methodLink RX5 134 yX5_goes, Cond.instanceMethod yX5_goes, Cond.selects RX5 yX5_goes yX5_goes, Cond.code yX5_goes cX5_goes 6 (some .boolean), Cond.methodLink RX5 137 yX5_one, Cond.instanceMethod yX5_one, Cond.selects RX5 yX5_one yX5_one, Cond.code yX5_one cX5_one 12 none]
def wsX5_step_r5 : List Cond := [Cond.methodLink RX5 140 yX5_others, Cond.instanceMethod yX5_others, Cond.selects RX5 yX5_others yX5_others, Cond.code yX5_others cX5_others 4 none, Cond.methodLink RX5 146 yX5_jump, Cond.instanceMethod yX5_jump, Cond.selects RX5 yX5_jump yX5_jump, Cond.code yX5_jump cX5_jump 6 none, Cond.methodLink RX5 150 yX5_exchangeBytes, Cond.instanceMethod yX5_exchangeBytes, Cond.selects RX5 yX5_exchangeBytes yX5_exchangeBytes, Cond.code yX5_exchangeBytes cX5_exchangeBytes 4 none, Cond.methodLink RX5 153 yX5_signOut, Cond.instanceMethod yX5_signOut, Cond.selects RX5 yX5_signOut yX5_signOut, Cond.code yX5_signOut cX5_signOut 4 none, Cond.methodLink RX5 156 yX5_product, Cond.instanceMethod yX5_product, Cond.selects RX5 yX5_product yX5_product, Cond.code yX5_product cX5_product 5 none, Cond.methodLink RX5 120 yX5_signed, Cond.static yX5_signed, Cond.code yX5_signed cX5_signed 1 (some .int), Cond.constant RX5 119 (65536)]
def wsX5_step_r6 : List Cond := [Cond.methodLink RX5 159 yX5_quotient, Cond.instanceMethod yX5_quotient, Cond.selects RX5 yX5_quotient yX5_quotient, Cond.code yX5_quotient cX5_quotient 9 none, Cond.constantLong RX5 123 (-32768), Cond.constantLong RX5 125 (32767), Cond.methodLink RX5 162 yX5_shift, Cond.instanceMethod yX5_shift, Cond.selects RX5 yX5_shift yX5_shift, Cond.code yX5_shift cX5_shift 10 none, Cond.methodLink RX5 165 yX5_either, Cond.instanceMethod yX5_either, Cond.selects RX5 yX5_either yX5_either, Cond.code yX5_either cX5_either 5 none, Cond.methodLink RX5 168 yX5_back, Cond.instanceMethod yX5_back, Cond.selects RX5 yX5_back yX5_back, Cond.code yX5_back cX5_back 3 none, Cond.methodLink RX5 31 yX5_setWord, Cond.instanceMethod yX5_setWord, Cond.selects RX5 yX5_setWord yX5_setWord, Cond.code yX5_setWord cX5_setWord 3 none]
def wsX5_step : List Cond := .code yX5_step cX5_step 3 none :: ((wsX5_step_r1 ++ (wsX5_step_r2 ++ (wsX5_step_r3 ++ (wsX5_step_r4 ++ (wsX5_step_r5 ++ wsX5_step_r6))))) ++ wsX50)
def wsX5_run_r1 : List Cond := [Cond.fieldLink RX5 22 "WordGuestModel" "thrown" "I", Cond.fieldLink RX5 42 "WordGuestModel" "steps" "I", Cond.fieldLink RX5 48 "WordGuestModel" "fault" "I", Cond.fieldLink RX5 143 "WordGuestModel" "halt" "Z", Cond.methodLink RX5 174 yX5_step, Cond.instanceMethod yX5_step, Cond.selects RX5 yX5_step yX5_step, Cond.initialized RX5, Cond.code yX5_step cX5_step 3 none, Cond.fieldLink RX5 19 "WordGuestModel" "now" "[I", Cond.fieldLink RX5 13 "WordGuestModel" "registers" "[I", Cond.fieldLink RX5 39 "WordGuestModel" "flags" "I", Cond.fieldLink RX5 90 "WordGuestModel" "nowFlags" "I", Cond.fieldLink RX5 80 "WordGuestModel" "writeSize" "I", Cond.fieldLink RX5 59 "WordGuestModel" "isByte" "Z", Cond.fieldLink RX5 7 "WordGuestModel" "bytes" "[I", Cond.fieldLink RX5 77 "WordGuestModel" "writePlace" "I", Cond.fieldLink RX5 83 "WordGuestModel" "writeValue" "I", Cond.fieldLink RX5 45 "WordGuestModel" "outCount" "I", Cond.fieldLink RX5 16 "WordGuestModel" "outs" "[I", Cond.constant RX5 30 (65535), Cond.methodLink RX5 72 yX5_fetch, Cond.instanceMethod yX5_fetch, Cond.selects RX5 yX5_fetch yX5_fetch]
def wsX5_run_r2 : List Cond := [Cond.code yX5_fetch cX5_fetch 2 (some .int), Cond.methodLink RX5 55 yX5_read, Cond.instanceMethod yX5_read, Cond.selects RX5 yX5_read yX5_read, Cond.code yX5_read cX5_read 3 (some .int), Cond.methodLink RX5 51 yX5_fail, Cond.instanceMethod yX5_fail, Cond.selects RX5 yX5_fail yX5_fail, Cond.code yX5_fail cX5_fail 2 none, Cond.methodLink RX5 35 yX5_wordAt, Cond.instanceMethod yX5_wordAt, Cond.selects RX5 yX5_wordAt yX5_wordAt, Cond.code yX5_wordAt cX5_wordAt 2 (some .int), Cond.methodLink RX5 171 yX5_does, Cond.instanceMethod yX5_does, Cond.selects RX5 yX5_does yX5_does, Cond.code yX5_does cX5_does 4 none, Cond.methodLink RX5 127 yX5_two, Cond.instanceMethod yX5_two, Cond.selects RX5 yX5_two yX5_two, Cond.code yX5_two cX5_two 7 none, Cond.fieldLink RX5 63 "WordGuestModel" "atRegister" "I", Cond.constant RX5 76 (65280), Cond.methodLink RX5 103 yX5_find]
def wsX5_run_r3 : List Cond := [Cond.instanceMethod yX5_find, Cond.selects RX5 yX5_find yX5_find, Cond.code yX5_find cX5_find 6 none, Cond.fieldLink RX5 66 "WordGuestModel" "atPlace" "I", Cond.methodLink RX5 69 yX5_move, Cond.instanceMethod yX5_move, Cond.selects RX5 yX5_move yX5_move, Cond.code yX5_move cX5_move 3 none, Cond.methodLink RX5 106 yX5_get, Cond.instanceMethod yX5_get, Cond.selects RX5 yX5_get yX5_get, Cond.code yX5_get cX5_get 1 (some .int), Cond.methodLink RX5 109 yX5_has, Cond.instanceMethod yX5_has, Cond.selects RX5 yX5_has yX5_has, Cond.code yX5_has cX5_has 2 (some .boolean), Cond.methodLink RX5 96 yX5_mask, Cond.instanceMethod yX5_mask, Cond.selects RX5 yX5_mask yX5_mask, Cond.code yX5_mask cX5_mask 1 (some .int), Cond.methodLink RX5 93 yX5_negative, Cond.instanceMethod yX5_negative, Cond.selects RX5 yX5_negative yX5_negative, Cond.code yX5_negative cX5_negative 2 (some .boolean)]
def wsX5_run_r4 : List Cond := [Cond.methodLink RX5 87 yX5_top, Cond.instanceMethod yX5_top, Cond.selects RX5 yX5_top yX5_top, Cond.code yX5_top cX5_top 1 (some .int), Cond.constant RX5 86 (32768), Cond.methodLink RX5 112 yX5_setBy, Cond.instanceMethod yX5_setBy, Cond.selects RX5 yX5_setBy yX5_setBy, Cond.code yX5_setBy cX5_setBy 4 none, Cond.methodLink RX5 99 yX5_set, Cond.instanceMethod yX5_set, Cond.selects RX5 yX5_set yX5_set, Cond.code yX5_set cX5_set 5 none, Cond.methodLink RX5 116 yX5_write, Cond.instanceMethod yX5_write, Cond.selects RX5 yX5_write yX5_write, Cond.code yX5_write cX5_write 2 none, Cond.methodLink RX5 130 yX5_sum, Cond.instanceMethod yX5_sum, Cond.selects RX5 yX5_sum yX5_sum, Cond.code yX5_sum cX5_sum 6 none, Cond.methodLink RX5 134 yX5_goes, Cond.instanceMethod yX5_goes, Cond.selects RX5 yX5_goes yX5_goes]
def wsX5_run_r5 : List Cond := [Cond.code yX5_goes cX5_goes 6 (some .boolean), Cond.methodLink RX5 137 yX5_one, Cond.instanceMethod yX5_one, Cond.selects RX5 yX5_one yX5_one, Cond.code yX5_one cX5_one 12 none, Cond.methodLink RX5 140 yX5_others, Cond.instanceMethod yX5_others, Cond.selects RX5 yX5_others yX5_others, Cond.code yX5_others cX5_others 4 none, Cond.methodLink RX5 146 yX5_jump, Cond.instanceMethod yX5_jump, Cond.selects RX5 yX5_jump yX5_jump, Cond.code yX5_jump cX5_jump 6 none, Cond.methodLink RX5 150 yX5_exchangeBytes, Cond.instanceMethod yX5_exchangeBytes, Cond.selects RX5 yX5_exchangeBytes yX5_exchangeBytes, Cond.code yX5_exchangeBytes cX5_exchangeBytes 4 none, Cond.methodLink RX5 153 yX5_signOut, Cond.instanceMethod yX5_signOut, Cond.selects RX5 yX5_signOut yX5_signOut, Cond.code yX5_signOut cX5_signOut 4 none, Cond.methodLink RX5 156 yX5_product, Cond.instanceMethod yX5_product, Cond.selects RX5 yX5_product yX5_product]
def wsX5_run_r6 : List Cond := [Cond.code yX5_product cX5_product 5 none, Cond.methodLink RX5 120 yX5_signed, Cond.static yX5_signed, Cond.code yX5_signed cX5_signed 1 (some .int), Cond.constant RX5 119 (65536), Cond.methodLink RX5 159 yX5_quotient, Cond.instanceMethod yX5_quotient, Cond.selects RX5 yX5_quotient yX5_quotient, Cond.code yX5_quotient cX5_quotient 9 none, Cond.constantLong RX5 123 (-32768), Cond.constantLong RX5 125 (32767), Cond.methodLink RX5 162 yX5_shift, Cond.instanceMethod yX5_shift, Cond.selects RX5 yX5_shift yX5_shift, Cond.code yX5_shift cX5_shift 10 none, Cond.methodLink RX5 165 yX5_either, Cond.instanceMethod yX5_either, Cond.selects RX5 yX5_either yX5_either, Cond.code yX5_either cX5_either 5 none, Cond.methodLink RX5 168 yX5_back, Cond.instanceMethod yX5_back, Cond.selects RX5 yX5_back yX5_back, Cond.code yX5_back cX5_back 3 none, Cond.methodLink RX5 31 yX5_setWord]
def wsX5_run_r7 : List Cond := [Cond.instanceMethod yX5_setWord, Cond.selects RX5 yX5_setWord yX5_setWord, Cond.code yX5_setWord cX5_setWord 3 none]
def wsX5_run : List Cond := .code yX5_run cX5_run 3 (some .int) :: ((wsX5_run_r1 ++ (wsX5_run_r2 ++ (wsX5_run_r3 ++ (wsX5_run_r4 ++ (wsX5_run_r5 ++ (wsX5_run_r6 ++ wsX5_run_r7)))))) ++ wsX50)
def wsL_load_r1 : List Cond := [Cond.classLink RL 13 "java/lang/IndexOutOfBoundsException", Cond.methodLink RL 7 yX4_load, Cond.instanceMethod yX4_load, Cond.selects RX4 yX4_load yX4_load, Cond.initialized RX4, Cond.code yX4_load cX4_load 7 (some .int), Cond.fieldLink RX4 12 "WordGuest" "memory" "LWordGuest$Memory;", Cond.methodLink RX4 25 yX4_needWordAt, Cond.instanceMethod yX4_needWordAt, Cond.selects RX4 yX4_needWordAt yX4_needWordAt, Cond.code yX4_needWordAt cX4_needWordAt 2 none, Cond.classLink RX4 80 "java/lang/IndexOutOfBoundsException", Cond.initialized "java/lang/IndexOutOfBoundsException", Cond.constant RX4 33 (65535), Cond.methodLink RX4 90 yX1_faultAt, Cond.instanceMethod yX1_faultAt, Cond.selects RX1 yX1_faultAt yX1_faultAt, Cond.initialized RX1, Cond.code yX1_faultAt cX1_faultAt 3 (some .int), Cond.constant RX1 18 (65535), Cond.methodLink RX4 29 yX1_setPair, Cond.instanceMethod yX1_setPair, Cond.selects RX1 yX1_setPair yX1_setPair, Cond.code yX1_setPair cX1_setPair 3 (some .int)]
def wsL_load_r2 : List Cond := [Cond.methodLink RX1 19 yX1_setIfThere, Cond.instanceMethod yX1_setIfThere, Cond.selects RX1 yX1_setIfThere yX1_setIfThere, Cond.code yX1_setIfThere cX1_setIfThere 3 (some .int), Cond.methodLink RX1 33 yX1_faultAt, Cond.methodLink RX1 36 yX1_setWord, Cond.instanceMethod yX1_setWord, Cond.selects RX1 yX1_setWord yX1_setWord, Cond.code yX1_setWord cX1_setWord 3 none, Cond.fieldLink RX1 9 "WordGuest$Memory" "words" "[I"]
def wsL_load : List Cond := .codeWith yL_load cL_load 9 (some .int) [(0, 18, 21, 13)] :: ((wsL_load_r1 ++ wsL_load_r2) ++ wsX40 ++ wsX10 ++ (vx_at0 RX4 82 "java/lang/IndexOutOfBoundsException" ["java/lang/RuntimeException", "java/lang/Exception"]).filter goodWord)
def wsL_word_r1 : List Cond := [Cond.classLink RL 13 "java/lang/IndexOutOfBoundsException", Cond.methodLink RL 15 yX4_word, Cond.instanceMethod yX4_word, Cond.selects RX4 yX4_word yX4_word, Cond.initialized RX4, Cond.code yX4_word cX4_word 2 (some .int), Cond.fieldLink RX4 12 "WordGuest" "memory" "LWordGuest$Memory;", Cond.constant RX4 33 (65535), Cond.methodLink RX4 25 yX4_needWordAt, Cond.instanceMethod yX4_needWordAt, Cond.selects RX4 yX4_needWordAt yX4_needWordAt, Cond.code yX4_needWordAt cX4_needWordAt 2 none, Cond.classLink RX4 80 "java/lang/IndexOutOfBoundsException", Cond.initialized "java/lang/IndexOutOfBoundsException", Cond.methodLink RX4 90 yX1_faultAt, Cond.instanceMethod yX1_faultAt, Cond.selects RX1 yX1_faultAt yX1_faultAt, Cond.initialized RX1, Cond.code yX1_faultAt cX1_faultAt 3 (some .int), Cond.constant RX1 18 (65535), Cond.methodLink RX4 34 yX1_valueAt, Cond.instanceMethod yX1_valueAt, Cond.selects RX1 yX1_valueAt yX1_valueAt, Cond.code yX1_valueAt cX1_valueAt 4 (some .int)]
def wsL_word_r2 : List Cond := [Cond.fieldLink RX1 9 "WordGuest$Memory" "words" "[I"]
def wsL_word : List Cond := .codeWith yL_word cL_word 4 (some .int) [(0, 9, 12, 13)] :: ((wsL_word_r1 ++ wsL_word_r2) ++ wsX40 ++ wsX10 ++ (vx_at0 RX4 82 "java/lang/IndexOutOfBoundsException" ["java/lang/RuntimeException", "java/lang/Exception"]).filter goodWord)
def wsL_poke_r1 : List Cond := [Cond.classLink RL 13 "java/lang/IndexOutOfBoundsException", Cond.methodLink RL 19 yX4_poke, Cond.instanceMethod yX4_poke, Cond.selects RX4 yX4_poke yX4_poke, Cond.initialized RX4, Cond.code yX4_poke cX4_poke 4 (some .boolean), Cond.fieldLink RX4 12 "WordGuest" "memory" "LWordGuest$Memory;", Cond.constant RX4 33 (65535), Cond.methodLink RX4 25 yX4_needWordAt, Cond.instanceMethod yX4_needWordAt, Cond.selects RX4 yX4_needWordAt yX4_needWordAt, Cond.code yX4_needWordAt cX4_needWordAt 2 none, Cond.classLink RX4 80 "java/lang/IndexOutOfBoundsException", Cond.initialized "java/lang/IndexOutOfBoundsException", Cond.methodLink RX4 90 yX1_faultAt, Cond.instanceMethod yX1_faultAt, Cond.selects RX1 yX1_faultAt yX1_faultAt, Cond.initialized RX1, Cond.code yX1_faultAt cX1_faultAt 3 (some .int), Cond.constant RX1 18 (65535), Cond.methodLink RX4 34 yX1_valueAt, Cond.instanceMethod yX1_valueAt, Cond.selects RX1 yX1_valueAt yX1_valueAt, Cond.code yX1_valueAt cX1_valueAt 4 (some .int)]
def wsL_poke_r2 : List Cond := [Cond.fieldLink RX1 9 "WordGuest$Memory" "words" "[I", Cond.methodLink RX4 37 yX1_setWord, Cond.instanceMethod yX1_setWord, Cond.selects RX1 yX1_setWord yX1_setWord, Cond.code yX1_setWord cX1_setWord 3 none]
def wsL_poke : List Cond := .codeWith yL_poke cL_poke 5 (some .int) [(0, 17, 20, 13)] :: ((wsL_poke_r1 ++ wsL_poke_r2) ++ wsX40 ++ wsX10 ++ (vx_at0 RX4 82 "java/lang/IndexOutOfBoundsException" ["java/lang/RuntimeException", "java/lang/Exception"]).filter goodWord)
def wsL_register : List Cond := .codeWith yL_register cL_register 4 (some .int) [(0, 9, 12, 13)] :: ([.classLink RL 13 "java/lang/IndexOutOfBoundsException", .methodLink RL 23 yX4_register, .instanceMethod yX4_register, .selects RX4 yX4_register yX4_register, .initialized RX4, .code yX4_register cX4_register 2 (some .int), .fieldLink RX4 21 "WordGuest" "processor" "LWordGuest$Processor;", .methodLink RX4 41 yX4_needRegister, .instanceMethod yX4_needRegister, .selects RX4 yX4_needRegister yX4_needRegister, .code yX4_needRegister cX4_needRegister 2 none, .classLink RX4 80 "java/lang/IndexOutOfBoundsException", .initialized "java/lang/IndexOutOfBoundsException"] ++ wsX40 ++ wsX30 ++ wsX20 ++ (vx_at0 RX4 82 "java/lang/IndexOutOfBoundsException" ["java/lang/RuntimeException", "java/lang/Exception"]).filter goodWord)
def wsL_put : List Cond := .codeWith yL_put cL_put 4 (some .int) [(0, 6, 9, 13)] :: ([.classLink RL 13 "java/lang/IndexOutOfBoundsException", .methodLink RL 26 yX4_put, .instanceMethod yX4_put, .selects RX4 yX4_put yX4_put, .initialized RX4, .code yX4_put cX4_put 3 none, .fieldLink RX4 21 "WordGuest" "processor" "LWordGuest$Processor;", .constant RX4 33 (65535), .methodLink RX4 41 yX4_needRegister, .instanceMethod yX4_needRegister, .selects RX4 yX4_needRegister yX4_needRegister, .code yX4_needRegister cX4_needRegister 2 none, .classLink RX4 80 "java/lang/IndexOutOfBoundsException", .initialized "java/lang/IndexOutOfBoundsException"] ++ wsX40 ++ wsX30 ++ wsX20 ++ (vx_at0 RX4 82 "java/lang/IndexOutOfBoundsException" ["java/lang/RuntimeException", "java/lang/Exception"]).filter goodWord)
def wsL_run_r1 : List Cond := [Cond.classLink RL 33 "java/lang/IllegalArgumentException", Cond.methodLink RL 30 yX4_run, Cond.instanceMethod yX4_run, Cond.selects RX4 yX4_run yX4_run, Cond.initialized RX4, Cond.code yX4_run cX4_run 4 (some .int), Cond.classLink RX4 67 "java/lang/IllegalArgumentException", Cond.initialized "java/lang/IllegalArgumentException", Cond.fieldLink RX4 70 "WordGuest" "latestSteps" "I", Cond.fieldLink RX4 21 "WordGuest" "processor" "LWordGuest$Processor;", Cond.methodLink RX4 74 yX3_step, Cond.instanceMethod yX3_step, Cond.selects RX3 yX3_step yX3_step, Cond.initialized RX3, Cond.code yX3_step cX3_step 4 (some .int), Cond.fieldLink RX3 23 "WordGuest$Processor" "parts" "LWordGuest$Parts;", Cond.fieldLink RX3 12 "WordGuest$Processor" "conditions" "LWordGuest$Flags;", Cond.methodLink RX3 34 yX2_begin, Cond.instanceMethod yX2_begin, Cond.selects RX2 yX2_begin yX2_begin, Cond.initialized RX2, Cond.code yX2_begin cX2_begin 1 none, Cond.fieldLink RX2 9 "WordGuest$Parts" "registers" "[I", Cond.fieldLink RX2 15 "WordGuest$Parts" "registersBefore" "[I"]
def wsL_run_r2 : List Cond := [Cond.methodLink RX2 22 arraycopyName, Cond.native arraycopyName, Cond.static arraycopyName, Cond.initialized "java/lang/System", Cond.fieldLink RX2 28 "WordGuest$Parts" "fault" "I", Cond.methodLink RX3 37 yX0_number, Cond.instanceMethod yX0_number, Cond.selects RX0 yX0_number yX0_number, Cond.initialized RX0, Cond.code yX0_number cX0_number 1 (some .int), Cond.fieldLink RX0 7 "WordGuest$Flags" "n" "Z", Cond.fieldLink RX0 13 "WordGuest$Flags" "z" "Z", Cond.fieldLink RX0 16 "WordGuest$Flags" "v" "Z", Cond.fieldLink RX0 19 "WordGuest$Flags" "c" "Z", Cond.methodLink RX3 41 yX2_takeNext, Cond.instanceMethod yX2_takeNext, Cond.selects RX2 yX2_takeNext yX2_takeNext, Cond.code yX2_takeNext cX2_takeNext 1 (some .int), Cond.constant RX2 46 (65535), Cond.methodLink RX2 43 yX2_grow, Cond.instanceMethod yX2_grow, Cond.selects RX2 yX2_grow yX2_grow, Cond.code yX2_grow cX2_grow 4 (some .int), Cond.methodLink RX2 47 yX2_fetch]
def wsL_run_r3 : List Cond := [Cond.instanceMethod yX2_fetch, Cond.selects RX2 yX2_fetch yX2_fetch, Cond.code yX2_fetch cX2_fetch 3 (some .int), Cond.constant RX2 38 (65536), Cond.fieldLink RX2 18 "WordGuest$Parts" "memory" "LWordGuest$Memory;", Cond.methodLink RX2 56 yX1_faultAt, Cond.instanceMethod yX1_faultAt, Cond.selects RX1 yX1_faultAt yX1_faultAt, Cond.initialized RX1, Cond.code yX1_faultAt cX1_faultAt 3 (some .int), Cond.constant RX1 18 (65535), Cond.methodLink RX2 61 yX1_valueAt, Cond.instanceMethod yX1_valueAt, Cond.selects RX1 yX1_valueAt yX1_valueAt, Cond.code yX1_valueAt cX1_valueAt 4 (some .int), Cond.fieldLink RX1 9 "WordGuest$Memory" "words" "[I", Cond.methodLink RX3 48 yX3_performByHead, Cond.instanceMethod yX3_performByHead, Cond.selects RX3 yX3_performByHead yX3_performByHead, Cond.code yX3_performByHead cX3_performByHead 4 none, Cond.methodLink RX3 65 yX3_hasHighestBit, Cond.static yX3_hasHighestBit, Cond.code yX3_hasHighestBit cX3_hasHighestBit 1 (some .boolean), Cond.constant RX3 64 (32768)]
def wsL_run_r4 : List Cond := [Cond.methodLink RX3 108 yX3_performOne, Cond.instanceMethod yX3_performOne, Cond.selects RX3 yX3_performOne yX3_performOne, Cond.code yX3_performOne cX3_performOne 8 none, Cond.methodLink RX3 70 yX3_sizeIn, Cond.static yX3_sizeIn, Cond.code yX3_sizeIn cX3_sizeIn 1 (some .int), Cond.constant RX3 69 (65535), Cond.methodLink RX3 74 yX2_locate, Cond.instanceMethod yX2_locate, Cond.selects RX2 yX2_locate yX2_locate, Cond.code yX2_locate cX2_locate 4 (some .int), Cond.methodLink RX2 39 yX2_strideOf, Cond.static yX2_strideOf, Cond.code yX2_strideOf cX2_strideOf 2 (some .int), Cond.methodLink RX2 50 yX2_shrink, Cond.instanceMethod yX2_shrink, Cond.selects RX2 yX2_shrink yX2_shrink, Cond.code yX2_shrink cX2_shrink 3 (some .int), Cond.methodLink RX2 53 yX2_fromRegister, Cond.instanceMethod yX2_fromRegister, Cond.selects RX2 yX2_fromRegister yX2_fromRegister, Cond.code yX2_fromRegister cX2_fromRegister 3 (some .int), Cond.methodLink RX3 78 yX2_fetch]
def wsL_run_r5 : List Cond := [Cond.methodLink RX3 132 yX3_count, Cond.instanceMethod yX3_count, Cond.selects RX3 yX3_count yX3_count, Cond.code yX3_count cX3_count 4 (some .int), Cond.methodLink RX3 141 yX3_withoutOverflow, Cond.instanceMethod yX3_withoutOverflow, Cond.selects RX3 yX3_withoutOverflow yX3_withoutOverflow, Cond.code yX3_withoutOverflow cX3_withoutOverflow 3 (some .int), Cond.methodLink RX3 145 yX3_oneMore, Cond.instanceMethod yX3_oneMore, Cond.selects RX3 yX3_oneMore yX3_oneMore, Cond.code yX3_oneMore cX3_oneMore 4 (some .int), Cond.static yX4_signOf, Cond.code yX4_signOf cX4_signOf 1 (some .int), Cond.constant RX4 93 (32768), Cond.methodLink RX3 148 yX3_oneLess, Cond.instanceMethod yX3_oneLess, Cond.selects RX3 yX3_oneLess yX3_oneLess, Cond.code yX3_oneLess cX3_oneLess 4 (some .int), Cond.methodLink RX3 151 yX3_minus, Cond.instanceMethod yX3_minus, Cond.selects RX3 yX3_minus yX3_minus, Cond.code yX3_minus cX3_minus 4 (some .int), Cond.methodLink RX3 154 yX3_carryMore]
def wsL_run_r6 : List Cond := [Cond.instanceMethod yX3_carryMore, Cond.selects RX3 yX3_carryMore yX3_carryMore, Cond.code yX3_carryMore cX3_carryMore 3 (some .int), Cond.methodLink RX3 157 yX3_carryLess, Cond.instanceMethod yX3_carryLess, Cond.selects RX3 yX3_carryLess yX3_carryLess, Cond.code yX3_carryLess cX3_carryLess 3 (some .int), Cond.methodLink RX3 89 yX0_setByResult, Cond.instanceMethod yX0_setByResult, Cond.selects RX0 yX0_setByResult yX0_setByResult, Cond.code yX0_setByResult cX0_setByResult 3 none, Cond.methodLink RX3 135 yX3_shiftByOne, Cond.instanceMethod yX3_shiftByOne, Cond.selects RX3 yX3_shiftByOne yX3_shiftByOne, Cond.code yX3_shiftByOne cX3_shiftByOne 7 (some .int), Cond.methodLink RX3 99 yX2_store, Cond.instanceMethod yX2_store, Cond.selects RX2 yX2_store yX2_store, Cond.code yX2_store cX2_store 5 none, Cond.methodLink RX2 64 yX1_write, Cond.instanceMethod yX1_write, Cond.selects RX1 yX1_write yX1_write, Cond.code yX1_write cX1_write 6 none, Cond.fieldLink RX1 23 "WordGuest$Memory" "toldCount" "I"]
def wsL_run_r7 : List Cond := [Cond.fieldLink RX1 15 "WordGuest$Memory" "told" "[I", Cond.methodLink RX3 111 yX3_branch, Cond.instanceMethod yX3_branch, Cond.selects RX3 yX3_branch yX3_branch, Cond.code yX3_branch cX3_branch 2 none, Cond.methodLink RX3 198 yX3_isMet, Cond.instanceMethod yX3_isMet, Cond.selects RX3 yX3_isMet yX3_isMet, Cond.code yX3_isMet cX3_isMet 3 (some .boolean), Cond.methodLink RX3 201 yX0_below, Cond.instanceMethod yX0_below, Cond.selects RX0 yX0_below yX0_below, Cond.code yX0_below cX0_below 1 (some .boolean), Cond.static yX4_signed, Cond.code yX4_signed cX4_signed 3 (some .int), Cond.methodLink RX4 94 yX4_signOf, Cond.methodLink RX3 195 yX2_goOn, Cond.instanceMethod yX2_goOn, Cond.selects RX2 yX2_goOn yX2_goOn, Cond.code yX2_goOn cX2_goOn 2 none, Cond.methodLink RX3 114 yX3_refuse, Cond.instanceMethod yX3_refuse, Cond.selects RX3 yX3_refuse yX3_refuse, Cond.code yX3_refuse cX3_refuse 1 none]
def wsL_run_r8 : List Cond := [Cond.methodLink RX3 117 yX3_callPart, Cond.instanceMethod yX3_callPart, Cond.selects RX3 yX3_callPart yX3_callPart, Cond.code yX3_callPart cX3_callPart 4 none, Cond.methodLink RX3 205 yX3_isRegisterWay, Cond.static yX3_isRegisterWay, Cond.code yX3_isRegisterWay cX3_isRegisterWay 1 (some .boolean), Cond.methodLink RX3 208 yX2_push, Cond.instanceMethod yX2_push, Cond.selects RX2 yX2_push yX2_push, Cond.code yX2_push cX2_push 2 none, Cond.methodLink RX2 71 yX2_store, Cond.methodLink RX3 120 yX3_jump, Cond.instanceMethod yX3_jump, Cond.selects RX3 yX3_jump yX3_jump, Cond.code yX3_jump cX3_jump 2 none, Cond.methodLink RX3 123 yX3_returnOrSetFlags, Cond.instanceMethod yX3_returnOrSetFlags, Cond.selects RX3 yX3_returnOrSetFlags yX3_returnOrSetFlags, Cond.code yX3_returnOrSetFlags cX3_returnOrSetFlags 4 none, Cond.methodLink RX3 211 yX2_pop, Cond.instanceMethod yX2_pop, Cond.selects RX2 yX2_pop yX2_pop, Cond.code yX2_pop cX2_pop 1 (some .int)]
def wsL_run_r9 : List Cond := [Cond.methodLink RX3 30 yX0_become, Cond.instanceMethod yX0_become, Cond.selects RX0 yX0_become yX0_become, Cond.code yX0_become cX0_become 2 none, Cond.methodLink RX3 126 yX3_exchangeBytes, Cond.instanceMethod yX3_exchangeBytes, Cond.selects RX3 yX3_exchangeBytes yX3_exchangeBytes, Cond.code yX3_exchangeBytes cX3_exchangeBytes 5 none, Cond.methodLink RX3 129 yX3_spreadSign, Cond.instanceMethod yX3_spreadSign, Cond.selects RX3 yX3_spreadSign yX3_spreadSign, Cond.code yX3_spreadSign cX3_spreadSign 4 none, Cond.methodLink RX3 51 yX3_addOrSubtract, Cond.instanceMethod yX3_addOrSubtract, Cond.selects RX3 yX3_addOrSubtract yX3_addOrSubtract, Cond.code yX3_addOrSubtract cX3_addOrSubtract 6 none, Cond.methodLink RX3 81 yX3_setByDifference, Cond.instanceMethod yX3_setByDifference, Cond.selects RX3 yX3_setByDifference yX3_setByDifference, Cond.code yX3_setByDifference cX3_setByDifference 5 none, Cond.methodLink RX3 54 yX3_performWithRegister, Cond.instanceMethod yX3_performWithRegister, Cond.selects RX3 yX3_performWithRegister yX3_performWithRegister, Cond.code yX3_performWithRegister cX3_performWithRegister 3 none]
def wsL_run_r10 : List Cond := [Cond.methodLink RX3 163 yX3_multiply, Cond.instanceMethod yX3_multiply, Cond.selects RX3 yX3_multiply yX3_multiply, Cond.code yX3_multiply cX3_multiply 5 none, Cond.methodLink RX3 185 yX3_fitsWord, Cond.static yX3_fitsWord, Cond.code yX3_fitsWord cX3_fitsWord 2 (some .boolean), Cond.constantLong RX3 191 (-32768), Cond.constantLong RX3 193 (32768), Cond.methodLink RX3 166 yX3_divide, Cond.instanceMethod yX3_divide, Cond.selects RX3 yX3_divide yX3_divide, Cond.code yX3_divide cX3_divide 8 none, Cond.constantLong RX3 189 (65535), Cond.methodLink RX3 169 yX3_shift, Cond.instanceMethod yX3_shift, Cond.selects RX3 yX3_shift yX3_shift, Cond.code yX3_shift cX3_shift 10 none, Cond.methodLink RX3 172 yX3_exclude, Cond.instanceMethod yX3_exclude, Cond.selects RX3 yX3_exclude yX3_exclude, Cond.code yX3_exclude cX3_exclude 5 none, Cond.methodLink RX3 175 yX3_countDown, Cond.instanceMethod yX3_countDown]
def wsL_run_r11 : List Cond := [Cond.selects RX3 yX3_countDown yX3_countDown, Cond.code yX3_countDown cX3_countDown 3 none, Cond.methodLink RX3 57 yX3_performTwo, Cond.instanceMethod yX3_performTwo, Cond.selects RX3 yX3_performTwo yX3_performTwo, Cond.code yX3_performTwo cX3_performTwo 8 none, Cond.methodLink RX3 85 yX3_combine, Cond.static yX3_combine, Cond.code yX3_combine cX3_combine 3 (some .int), Cond.methodLink RX3 96 yX2_storeMoved, Cond.instanceMethod yX2_storeMoved, Cond.selects RX2 yX2_storeMoved yX2_storeMoved, Cond.code yX2_storeMoved cX2_storeMoved 4 none, Cond.methodLink RX3 61 yX2_takeBack, Cond.instanceMethod yX2_takeBack, Cond.selects RX2 yX2_takeBack yX2_takeBack, Cond.code yX2_takeBack cX2_takeBack 1 none]
def wsL_run : List Cond := .codeWith yL_run cL_run 4 (some .int) [(0, 9, 12, 33)] :: ((wsL_run_r1 ++ (wsL_run_r2 ++ (wsL_run_r3 ++ (wsL_run_r4 ++ (wsL_run_r5 ++ (wsL_run_r6 ++ (wsL_run_r7 ++ (wsL_run_r8 ++ (wsL_run_r9 ++ (wsL_run_r10 ++ wsL_run_r11)))))))))) ++ wsX40 ++ wsX30 ++ wsX20 ++ wsX00 ++ wsX10 ++ (vx_at0 RX4 69 "java/lang/IllegalArgumentException" ["java/lang/RuntimeException", "java/lang/Exception"]).filter goodWord)
def wsL_output : List Cond := .codeWith yL_output cL_output 4 (some .int) [(0, 9, 12, 13)] :: ([.classLink RL 13 "java/lang/IndexOutOfBoundsException", .methodLink RL 35 yX4_output, .instanceMethod yX4_output, .selects RX4 yX4_output yX4_output, .initialized RX4, .code yX4_output cX4_output 2 (some .int), .classLink RX4 80 "java/lang/IndexOutOfBoundsException", .initialized "java/lang/IndexOutOfBoundsException", .fieldLink RX4 12 "WordGuest" "memory" "LWordGuest$Memory;"] ++ wsX40 ++ wsX10 ++ (vx_at0 RX4 82 "java/lang/IndexOutOfBoundsException" ["java/lang/RuntimeException", "java/lang/Exception"]).filter goodWord)
def wsL_law0_r1 : List Cond := [Cond.classLink RL 8 RX4, Cond.instantiable RX4 3, Cond.initialized RX4, Cond.classLink RL 39 RX5, Cond.instantiable RX5 17, Cond.initialized RX5, Cond.arrayClass .long, Cond.methodLink RL 38 yX4_init, Cond.instanceMethod yX4_init, Cond.code yX4_init cX4_init 1 none, Cond.methodLink RX4 3 objectInit, Cond.instanceMethod objectInit, Cond.code objectInit ⟨#[0xb1]⟩ 1 none, Cond.classLink RX4 9 RX1, Cond.instantiable RX1 3, Cond.initialized RX1, Cond.fieldLink RX4 12 "WordGuest" "memory" "LWordGuest$Memory;", Cond.classLink RX4 16 RX3, Cond.instantiable RX3 2, Cond.initialized RX3, Cond.fieldLink RX4 21 "WordGuest" "processor" "LWordGuest$Processor;", Cond.instanceMethod yX1_init, Cond.code yX1_init cX1_init 1 none, Cond.methodLink RX1 3 objectInit]
def wsL_law0_r2 : List Cond := [Cond.arrayClass .int, Cond.fieldLink RX1 9 "WordGuest$Memory" "words" "[I", Cond.fieldLink RX1 15 "WordGuest$Memory" "told" "[I", Cond.methodLink RX4 18 yX3_init, Cond.instanceMethod yX3_init, Cond.code yX3_init cX3_init 2 none, Cond.methodLink RX3 3 objectInit, Cond.classLink RX3 9 RX0, Cond.instantiable RX0 4, Cond.initialized RX0, Cond.fieldLink RX3 12 "WordGuest$Processor" "conditions" "LWordGuest$Flags;", Cond.classLink RX3 18 RX2, Cond.instantiable RX2 4, Cond.initialized RX2, Cond.fieldLink RX3 23 "WordGuest$Processor" "parts" "LWordGuest$Parts;", Cond.instanceMethod yX0_init, Cond.code yX0_init cX0_init 1 none, Cond.methodLink RX0 1 objectInit, Cond.methodLink RX3 20 yX2_init, Cond.instanceMethod yX2_init, Cond.code yX2_init cX2_init 2 none, Cond.methodLink RX2 3 objectInit, Cond.fieldLink RX2 9 "WordGuest$Parts" "registers" "[I", Cond.fieldLink RX2 15 "WordGuest$Parts" "registersBefore" "[I"]
def wsL_law0_r3 : List Cond := [Cond.fieldLink RX2 18 "WordGuest$Parts" "memory" "LWordGuest$Memory;", Cond.methodLink RL 41 yX5_init, Cond.instanceMethod yX5_init, Cond.code yX5_init cX5_init 1 none, Cond.methodLink RX5 1 objectInit, Cond.fieldLink RX5 7 "WordGuestModel" "bytes" "[I", Cond.fieldLink RX5 13 "WordGuestModel" "registers" "[I", Cond.fieldLink RX5 16 "WordGuestModel" "outs" "[I", Cond.fieldLink RX5 19 "WordGuestModel" "now" "[I", Cond.methodLink RL 42 yL_load, Cond.static yL_load, Cond.initialized RL, Cond.codeWith yL_load cL_load 9 (some .int) [(0, 18, 21, 13)], Cond.classLink RL 13 "java/lang/IndexOutOfBoundsException", Cond.methodLink RL 7 yX4_load, Cond.instanceMethod yX4_load, Cond.selects RX4 yX4_load yX4_load, Cond.code yX4_load cX4_load 7 (some .int), Cond.methodLink RX4 25 yX4_needWordAt, Cond.instanceMethod yX4_needWordAt, Cond.selects RX4 yX4_needWordAt yX4_needWordAt, Cond.code yX4_needWordAt cX4_needWordAt 2 none, Cond.classLink RX4 80 "java/lang/IndexOutOfBoundsException", Cond.initialized "java/lang/IndexOutOfBoundsException"]
def wsL_law0_r4 : List Cond := [Cond.constant RX4 33 (65535), Cond.methodLink RX4 90 yX1_faultAt, Cond.instanceMethod yX1_faultAt, Cond.selects RX1 yX1_faultAt yX1_faultAt, Cond.code yX1_faultAt cX1_faultAt 3 (some .int), Cond.constant RX1 18 (65535), Cond.methodLink RX4 29 yX1_setPair, Cond.instanceMethod yX1_setPair, Cond.selects RX1 yX1_setPair yX1_setPair, Cond.code yX1_setPair cX1_setPair 3 (some .int), Cond.methodLink RX1 19 yX1_setIfThere, Cond.instanceMethod yX1_setIfThere, Cond.selects RX1 yX1_setIfThere yX1_setIfThere, Cond.code yX1_setIfThere cX1_setIfThere 3 (some .int), Cond.methodLink RX1 33 yX1_faultAt, Cond.methodLink RX1 36 yX1_setWord, Cond.instanceMethod yX1_setWord, Cond.selects RX1 yX1_setWord yX1_setWord, Cond.code yX1_setWord cX1_setWord 3 none, Cond.methodLink RL 47 yX5_load, Cond.instanceMethod yX5_load, Cond.selects RX5 yX5_load yX5_load, Cond.code yX5_load cX5_load 10 (some .int), Cond.fieldLink RX5 22 "WordGuestModel" "thrown" "I"]
def wsL_law0_r5 : List Cond := [Cond.constant RX5 30 (65535), Cond.methodLink RX5 26 yX5_isWord, Cond.static yX5_isWord, Cond.code yX5_isWord cX5_isWord 1 (some .boolean), Cond.methodLink RX5 31 yX5_setWord, Cond.instanceMethod yX5_setWord, Cond.selects RX5 yX5_setWord yX5_setWord, Cond.code yX5_setWord cX5_setWord 3 none, Cond.methodLink RL 48 yX5_thrown, Cond.instanceMethod yX5_thrown, Cond.selects RX5 yX5_thrown yX5_thrown, Cond.code yX5_thrown cX5_thrown 1 (some .int), Cond.methodLink RL 52 yL_word, Cond.static yL_word, Cond.codeWith yL_word cL_word 4 (some .int) [(0, 9, 12, 13)], Cond.methodLink RL 15 yX4_word, Cond.instanceMethod yX4_word, Cond.selects RX4 yX4_word yX4_word, Cond.code yX4_word cX4_word 2 (some .int), Cond.methodLink RX4 34 yX1_valueAt, Cond.instanceMethod yX1_valueAt, Cond.selects RX1 yX1_valueAt yX1_valueAt, Cond.code yX1_valueAt cX1_valueAt 4 (some .int), Cond.methodLink RL 55 yX5_word]
def wsL_law0_r6 : List Cond := [Cond.instanceMethod yX5_word, Cond.selects RX5 yX5_word yX5_word, Cond.code yX5_word cX5_word 2 (some .int), Cond.methodLink RX5 35 yX5_wordAt, Cond.instanceMethod yX5_wordAt, Cond.selects RX5 yX5_wordAt yX5_wordAt, Cond.code yX5_wordAt cX5_wordAt 2 (some .int), Cond.methodLink RL 56 yL_poke, Cond.static yL_poke, Cond.codeWith yL_poke cL_poke 5 (some .int) [(0, 17, 20, 13)], Cond.methodLink RL 19 yX4_poke, Cond.instanceMethod yX4_poke, Cond.selects RX4 yX4_poke yX4_poke, Cond.code yX4_poke cX4_poke 4 (some .boolean), Cond.methodLink RX4 37 yX1_setWord, Cond.methodLink RL 59 yX5_poke, Cond.instanceMethod yX5_poke, Cond.selects RX5 yX5_poke yX5_poke, Cond.code yX5_poke cX5_poke 4 (some .boolean), Cond.methodLink RL 60 yL_register, Cond.static yL_register, Cond.codeWith yL_register cL_register 4 (some .int) [(0, 9, 12, 13)], Cond.methodLink RL 23 yX4_register, Cond.instanceMethod yX4_register]
def wsL_law0_r7 : List Cond := [Cond.selects RX4 yX4_register yX4_register, Cond.code yX4_register cX4_register 2 (some .int), Cond.methodLink RX4 41 yX4_needRegister, Cond.instanceMethod yX4_needRegister, Cond.selects RX4 yX4_needRegister yX4_needRegister, Cond.code yX4_needRegister cX4_needRegister 2 none, Cond.methodLink RL 62 yX5_register, Cond.instanceMethod yX5_register, Cond.selects RX5 yX5_register yX5_register, Cond.code yX5_register cX5_register 2 (some .int), Cond.methodLink RL 63 yL_put, Cond.static yL_put, Cond.codeWith yL_put cL_put 4 (some .int) [(0, 6, 9, 13)], Cond.methodLink RL 26 yX4_put, Cond.instanceMethod yX4_put, Cond.selects RX4 yX4_put yX4_put, Cond.code yX4_put cX4_put 3 none, Cond.methodLink RL 66 yX5_put, Cond.instanceMethod yX5_put, Cond.selects RX5 yX5_put yX5_put, Cond.code yX5_put cX5_put 3 none, Cond.methodLink RL 67 yX4_flags, Cond.instanceMethod yX4_flags, Cond.selects RX4 yX4_flags yX4_flags]
def wsL_law0_r8 : List Cond := [Cond.code yX4_flags cX4_flags 1 (some .int), Cond.methodLink RX4 58 yX0_number, Cond.instanceMethod yX0_number, Cond.selects RX0 yX0_number yX0_number, Cond.code yX0_number cX0_number 1 (some .int), Cond.fieldLink RX0 7 "WordGuest$Flags" "n" "Z", Cond.fieldLink RX0 13 "WordGuest$Flags" "z" "Z", Cond.fieldLink RX0 16 "WordGuest$Flags" "v" "Z", Cond.fieldLink RX0 19 "WordGuest$Flags" "c" "Z", Cond.methodLink RL 70 yX5_flags, Cond.instanceMethod yX5_flags, Cond.selects RX5 yX5_flags yX5_flags, Cond.code yX5_flags cX5_flags 1 (some .int), Cond.fieldLink RX5 39 "WordGuestModel" "flags" "I", Cond.methodLink RL 71 yX4_flag, Cond.instanceMethod yX4_flag, Cond.selects RX4 yX4_flag yX4_flag, Cond.code yX4_flag cX4_flag 2 none, Cond.methodLink RX4 64 yX0_become, Cond.instanceMethod yX0_become, Cond.selects RX0 yX0_become yX0_become, Cond.code yX0_become cX0_become 2 none, Cond.methodLink RL 75 yX5_flag, Cond.instanceMethod yX5_flag]
def wsL_law0_r9 : List Cond := [Cond.selects RX5 yX5_flag yX5_flag, Cond.code yX5_flag cX5_flag 2 none, Cond.methodLink RL 76 yL_run, Cond.static yL_run, Cond.codeWith yL_run cL_run 4 (some .int) [(0, 9, 12, 33)], Cond.classLink RL 33 "java/lang/IllegalArgumentException", Cond.methodLink RL 30 yX4_run, Cond.instanceMethod yX4_run, Cond.selects RX4 yX4_run yX4_run, Cond.code yX4_run cX4_run 4 (some .int), Cond.classLink RX4 67 "java/lang/IllegalArgumentException", Cond.initialized "java/lang/IllegalArgumentException", Cond.fieldLink RX4 70 "WordGuest" "latestSteps" "I", Cond.methodLink RX4 74 yX3_step, Cond.instanceMethod yX3_step, Cond.selects RX3 yX3_step yX3_step, Cond.code yX3_step cX3_step 4 (some .int), Cond.methodLink RX3 34 yX2_begin, Cond.instanceMethod yX2_begin, Cond.selects RX2 yX2_begin yX2_begin, Cond.code yX2_begin cX2_begin 1 none, Cond.methodLink RX2 22 arraycopyName, Cond.native arraycopyName, Cond.static arraycopyName]
def wsL_law0_r10 : List Cond := [Cond.initialized "java/lang/System", Cond.fieldLink RX2 28 "WordGuest$Parts" "fault" "I", Cond.methodLink RX3 37 yX0_number, Cond.methodLink RX3 41 yX2_takeNext, Cond.instanceMethod yX2_takeNext, Cond.selects RX2 yX2_takeNext yX2_takeNext, Cond.code yX2_takeNext cX2_takeNext 1 (some .int), Cond.constant RX2 46 (65535), Cond.methodLink RX2 43 yX2_grow, Cond.instanceMethod yX2_grow, Cond.selects RX2 yX2_grow yX2_grow, Cond.code yX2_grow cX2_grow 4 (some .int), Cond.methodLink RX2 47 yX2_fetch, Cond.instanceMethod yX2_fetch, Cond.selects RX2 yX2_fetch yX2_fetch, Cond.code yX2_fetch cX2_fetch 3 (some .int), Cond.constant RX2 38 (65536), Cond.methodLink RX2 56 yX1_faultAt, Cond.methodLink RX2 61 yX1_valueAt, Cond.methodLink RX3 48 yX3_performByHead, Cond.instanceMethod yX3_performByHead, Cond.selects RX3 yX3_performByHead yX3_performByHead, Cond.code yX3_performByHead cX3_performByHead 4 none, Cond.methodLink RX3 65 yX3_hasHighestBit]
def wsL_law0_r11 : List Cond := [Cond.static yX3_hasHighestBit, Cond.code yX3_hasHighestBit cX3_hasHighestBit 1 (some .boolean), Cond.constant RX3 64 (32768), Cond.methodLink RX3 108 yX3_performOne, Cond.instanceMethod yX3_performOne, Cond.selects RX3 yX3_performOne yX3_performOne, Cond.code yX3_performOne cX3_performOne 8 none, Cond.methodLink RX3 70 yX3_sizeIn, Cond.static yX3_sizeIn, Cond.code yX3_sizeIn cX3_sizeIn 1 (some .int), Cond.constant RX3 69 (65535), Cond.methodLink RX3 74 yX2_locate, Cond.instanceMethod yX2_locate, Cond.selects RX2 yX2_locate yX2_locate, Cond.code yX2_locate cX2_locate 4 (some .int), Cond.methodLink RX2 39 yX2_strideOf, Cond.static yX2_strideOf, Cond.code yX2_strideOf cX2_strideOf 2 (some .int), Cond.methodLink RX2 50 yX2_shrink, Cond.instanceMethod yX2_shrink, Cond.selects RX2 yX2_shrink yX2_shrink, Cond.code yX2_shrink cX2_shrink 3 (some .int), Cond.methodLink RX2 53 yX2_fromRegister, Cond.instanceMethod yX2_fromRegister]
def wsL_law0_r12 : List Cond := [Cond.selects RX2 yX2_fromRegister yX2_fromRegister, Cond.code yX2_fromRegister cX2_fromRegister 3 (some .int), Cond.methodLink RX3 78 yX2_fetch, Cond.methodLink RX3 132 yX3_count, Cond.instanceMethod yX3_count, Cond.selects RX3 yX3_count yX3_count, Cond.code yX3_count cX3_count 4 (some .int), Cond.methodLink RX3 141 yX3_withoutOverflow, Cond.instanceMethod yX3_withoutOverflow, Cond.selects RX3 yX3_withoutOverflow yX3_withoutOverflow, Cond.code yX3_withoutOverflow cX3_withoutOverflow 3 (some .int), Cond.methodLink RX3 145 yX3_oneMore, Cond.instanceMethod yX3_oneMore, Cond.selects RX3 yX3_oneMore yX3_oneMore, Cond.code yX3_oneMore cX3_oneMore 4 (some .int), Cond.static yX4_signOf, Cond.code yX4_signOf cX4_signOf 1 (some .int), Cond.constant RX4 93 (32768), Cond.methodLink RX3 148 yX3_oneLess, Cond.instanceMethod yX3_oneLess, Cond.selects RX3 yX3_oneLess yX3_oneLess, Cond.code yX3_oneLess cX3_oneLess 4 (some .int), Cond.methodLink RX3 151 yX3_minus, Cond.instanceMethod yX3_minus]
def wsL_law0_r13 : List Cond := [Cond.selects RX3 yX3_minus yX3_minus, Cond.code yX3_minus cX3_minus 4 (some .int), Cond.methodLink RX3 154 yX3_carryMore, Cond.instanceMethod yX3_carryMore, Cond.selects RX3 yX3_carryMore yX3_carryMore, Cond.code yX3_carryMore cX3_carryMore 3 (some .int), Cond.methodLink RX3 157 yX3_carryLess, Cond.instanceMethod yX3_carryLess, Cond.selects RX3 yX3_carryLess yX3_carryLess, Cond.code yX3_carryLess cX3_carryLess 3 (some .int), Cond.methodLink RX3 89 yX0_setByResult, Cond.instanceMethod yX0_setByResult, Cond.selects RX0 yX0_setByResult yX0_setByResult, Cond.code yX0_setByResult cX0_setByResult 3 none, Cond.methodLink RX3 135 yX3_shiftByOne, Cond.instanceMethod yX3_shiftByOne, Cond.selects RX3 yX3_shiftByOne yX3_shiftByOne, Cond.code yX3_shiftByOne cX3_shiftByOne 7 (some .int), Cond.methodLink RX3 99 yX2_store, Cond.instanceMethod yX2_store, Cond.selects RX2 yX2_store yX2_store, Cond.code yX2_store cX2_store 5 none, Cond.methodLink RX2 64 yX1_write, Cond.instanceMethod yX1_write]
def wsL_law0_r14 : List Cond := [Cond.selects RX1 yX1_write yX1_write, Cond.code yX1_write cX1_write 6 none, Cond.fieldLink RX1 23 "WordGuest$Memory" "toldCount" "I", Cond.methodLink RX3 111 yX3_branch, Cond.instanceMethod yX3_branch, Cond.selects RX3 yX3_branch yX3_branch, Cond.code yX3_branch cX3_branch 2 none, Cond.methodLink RX3 198 yX3_isMet, Cond.instanceMethod yX3_isMet, Cond.selects RX3 yX3_isMet yX3_isMet, Cond.code yX3_isMet cX3_isMet 3 (some .boolean), Cond.methodLink RX3 201 yX0_below, Cond.instanceMethod yX0_below, Cond.selects RX0 yX0_below yX0_below, Cond.code yX0_below cX0_below 1 (some .boolean), Cond.static yX4_signed, Cond.code yX4_signed cX4_signed 3 (some .int), Cond.methodLink RX4 94 yX4_signOf, Cond.methodLink RX3 195 yX2_goOn, Cond.instanceMethod yX2_goOn, Cond.selects RX2 yX2_goOn yX2_goOn, Cond.code yX2_goOn cX2_goOn 2 none, Cond.methodLink RX3 114 yX3_refuse, Cond.instanceMethod yX3_refuse]
def wsL_law0_r15 : List Cond := [Cond.selects RX3 yX3_refuse yX3_refuse, Cond.code yX3_refuse cX3_refuse 1 none, Cond.methodLink RX3 117 yX3_callPart, Cond.instanceMethod yX3_callPart, Cond.selects RX3 yX3_callPart yX3_callPart, Cond.code yX3_callPart cX3_callPart 4 none, Cond.methodLink RX3 205 yX3_isRegisterWay, Cond.static yX3_isRegisterWay, Cond.code yX3_isRegisterWay cX3_isRegisterWay 1 (some .boolean), Cond.methodLink RX3 208 yX2_push, Cond.instanceMethod yX2_push, Cond.selects RX2 yX2_push yX2_push, Cond.code yX2_push cX2_push 2 none, Cond.methodLink RX2 71 yX2_store, Cond.methodLink RX3 120 yX3_jump, Cond.instanceMethod yX3_jump, Cond.selects RX3 yX3_jump yX3_jump, Cond.code yX3_jump cX3_jump 2 none, Cond.methodLink RX3 123 yX3_returnOrSetFlags, Cond.instanceMethod yX3_returnOrSetFlags, Cond.selects RX3 yX3_returnOrSetFlags yX3_returnOrSetFlags, Cond.code yX3_returnOrSetFlags cX3_returnOrSetFlags 4 none, Cond.methodLink RX3 211 yX2_pop, Cond.instanceMethod yX2_pop]
def wsL_law0_r16 : List Cond := [Cond.selects RX2 yX2_pop yX2_pop, Cond.code yX2_pop cX2_pop 1 (some .int), Cond.methodLink RX3 30 yX0_become, Cond.methodLink RX3 126 yX3_exchangeBytes, Cond.instanceMethod yX3_exchangeBytes, Cond.selects RX3 yX3_exchangeBytes yX3_exchangeBytes, Cond.code yX3_exchangeBytes cX3_exchangeBytes 5 none, Cond.methodLink RX3 129 yX3_spreadSign, Cond.instanceMethod yX3_spreadSign, Cond.selects RX3 yX3_spreadSign yX3_spreadSign, Cond.code yX3_spreadSign cX3_spreadSign 4 none, Cond.methodLink RX3 51 yX3_addOrSubtract, Cond.instanceMethod yX3_addOrSubtract, Cond.selects RX3 yX3_addOrSubtract yX3_addOrSubtract, Cond.code yX3_addOrSubtract cX3_addOrSubtract 6 none, Cond.methodLink RX3 81 yX3_setByDifference, Cond.instanceMethod yX3_setByDifference, Cond.selects RX3 yX3_setByDifference yX3_setByDifference, Cond.code yX3_setByDifference cX3_setByDifference 5 none, Cond.methodLink RX3 54 yX3_performWithRegister, Cond.instanceMethod yX3_performWithRegister, Cond.selects RX3 yX3_performWithRegister yX3_performWithRegister, Cond.code yX3_performWithRegister cX3_performWithRegister 3 none, Cond.methodLink RX3 163 yX3_multiply]
def wsL_law0_r17 : List Cond := [Cond.instanceMethod yX3_multiply, Cond.selects RX3 yX3_multiply yX3_multiply, Cond.code yX3_multiply cX3_multiply 5 none, Cond.methodLink RX3 185 yX3_fitsWord, Cond.static yX3_fitsWord, Cond.code yX3_fitsWord cX3_fitsWord 2 (some .boolean), Cond.constantLong RX3 191 (-32768), Cond.constantLong RX3 193 (32768), Cond.methodLink RX3 166 yX3_divide, Cond.instanceMethod yX3_divide, Cond.selects RX3 yX3_divide yX3_divide, Cond.code yX3_divide cX3_divide 8 none, Cond.constantLong RX3 189 (65535), Cond.methodLink RX3 169 yX3_shift, Cond.instanceMethod yX3_shift, Cond.selects RX3 yX3_shift yX3_shift, Cond.code yX3_shift cX3_shift 10 none, Cond.methodLink RX3 172 yX3_exclude, Cond.instanceMethod yX3_exclude, Cond.selects RX3 yX3_exclude yX3_exclude, Cond.code yX3_exclude cX3_exclude 5 none, Cond.methodLink RX3 175 yX3_countDown, Cond.instanceMethod yX3_countDown, Cond.selects RX3 yX3_countDown yX3_countDown]
def wsL_law0_r18 : List Cond := [Cond.code yX3_countDown cX3_countDown 3 none, Cond.methodLink RX3 57 yX3_performTwo, Cond.instanceMethod yX3_performTwo, Cond.selects RX3 yX3_performTwo yX3_performTwo, Cond.code yX3_performTwo cX3_performTwo 8 none, Cond.methodLink RX3 85 yX3_combine, Cond.static yX3_combine, Cond.code yX3_combine cX3_combine 3 (some .int), Cond.methodLink RX3 96 yX2_storeMoved, Cond.instanceMethod yX2_storeMoved, Cond.selects RX2 yX2_storeMoved yX2_storeMoved, Cond.code yX2_storeMoved cX2_storeMoved 4 none, Cond.methodLink RX3 61 yX2_takeBack, Cond.instanceMethod yX2_takeBack, Cond.selects RX2 yX2_takeBack yX2_takeBack, Cond.code yX2_takeBack cX2_takeBack 1 none, Cond.methodLink RL 78 yX5_run, Cond.instanceMethod yX5_run, Cond.selects RX5 yX5_run yX5_run, Cond.code yX5_run cX5_run 3 (some .int), Cond.fieldLink RX5 42 "WordGuestModel" "steps" "I", Cond.fieldLink RX5 48 "WordGuestModel" "fault" "I", Cond.fieldLink RX5 143 "WordGuestModel" "halt" "Z", Cond.methodLink RX5 174 yX5_step]
def wsL_law0_r19 : List Cond := [Cond.instanceMethod yX5_step, Cond.selects RX5 yX5_step yX5_step, Cond.code yX5_step cX5_step 3 none, Cond.fieldLink RX5 90 "WordGuestModel" "nowFlags" "I", Cond.fieldLink RX5 80 "WordGuestModel" "writeSize" "I", Cond.fieldLink RX5 59 "WordGuestModel" "isByte" "Z", Cond.fieldLink RX5 77 "WordGuestModel" "writePlace" "I", Cond.fieldLink RX5 83 "WordGuestModel" "writeValue" "I", Cond.fieldLink RX5 45 "WordGuestModel" "outCount" "I", Cond.methodLink RX5 72 yX5_fetch, Cond.instanceMethod yX5_fetch, Cond.selects RX5 yX5_fetch yX5_fetch, Cond.code yX5_fetch cX5_fetch 2 (some .int), Cond.methodLink RX5 55 yX5_read, Cond.instanceMethod yX5_read, Cond.selects RX5 yX5_read yX5_read, Cond.code yX5_read cX5_read 3 (some .int), Cond.methodLink RX5 51 yX5_fail, Cond.instanceMethod yX5_fail, Cond.selects RX5 yX5_fail yX5_fail, Cond.code yX5_fail cX5_fail 2 none, Cond.methodLink RX5 171 yX5_does, Cond.instanceMethod yX5_does, Cond.selects RX5 yX5_does yX5_does]
def wsL_law0_r20 : List Cond := [Cond.code yX5_does cX5_does 4 none, Cond.methodLink RX5 127 yX5_two, Cond.instanceMethod yX5_two, Cond.selects RX5 yX5_two yX5_two, Cond.code yX5_two cX5_two 7 none, Cond.fieldLink RX5 63 "WordGuestModel" "atRegister" "I", Cond.constant RX5 76 (65280), Cond.methodLink RX5 103 yX5_find, Cond.instanceMethod yX5_find, Cond.selects RX5 yX5_find yX5_find, Cond.code yX5_find cX5_find 6 none, Cond.fieldLink RX5 66 "WordGuestModel" "atPlace" "I", Cond.methodLink RX5 69 yX5_move, Cond.instanceMethod yX5_move, Cond.selects RX5 yX5_move yX5_move, Cond.code yX5_move cX5_move 3 none, Cond.methodLink RX5 106 yX5_get, Cond.instanceMethod yX5_get, Cond.selects RX5 yX5_get yX5_get, Cond.code yX5_get cX5_get 1 (some .int), Cond.methodLink RX5 109 yX5_has, Cond.instanceMethod yX5_has, Cond.selects RX5 yX5_has yX5_has, Cond.code yX5_has cX5_has 2 (some .boolean)]
def wsL_law0_r21 : List Cond := [Cond.methodLink RX5 96 yX5_mask, Cond.instanceMethod yX5_mask, Cond.selects RX5 yX5_mask yX5_mask, Cond.code yX5_mask cX5_mask 1 (some .int), Cond.methodLink RX5 93 yX5_negative, Cond.instanceMethod yX5_negative, Cond.selects RX5 yX5_negative yX5_negative, Cond.code yX5_negative cX5_negative 2 (some .boolean), Cond.methodLink RX5 87 yX5_top, Cond.instanceMethod yX5_top, Cond.selects RX5 yX5_top yX5_top, Cond.code yX5_top cX5_top 1 (some .int), Cond.constant RX5 86 (32768), Cond.methodLink RX5 112 yX5_setBy, Cond.instanceMethod yX5_setBy, Cond.selects RX5 yX5_setBy yX5_setBy, Cond.code yX5_setBy cX5_setBy 4 none, Cond.methodLink RX5 99 yX5_set, Cond.instanceMethod yX5_set, Cond.selects RX5 yX5_set yX5_set, Cond.code yX5_set cX5_set 5 none, Cond.methodLink RX5 116 yX5_write, Cond.instanceMethod yX5_write, Cond.selects RX5 yX5_write yX5_write]
def wsL_law0_r22 : List Cond := [Cond.code yX5_write cX5_write 2 none, Cond.methodLink RX5 130 yX5_sum, Cond.instanceMethod yX5_sum, Cond.selects RX5 yX5_sum yX5_sum, Cond.code yX5_sum cX5_sum 6 none, Cond.methodLink RX5 134 yX5_goes, Cond.instanceMethod yX5_goes, Cond.selects RX5 yX5_goes yX5_goes, Cond.code yX5_goes cX5_goes 6 (some .boolean), Cond.methodLink RX5 137 yX5_one, Cond.instanceMethod yX5_one, Cond.selects RX5 yX5_one yX5_one, Cond.code yX5_one cX5_one 12 none, Cond.methodLink RX5 140 yX5_others, Cond.instanceMethod yX5_others, Cond.selects RX5 yX5_others yX5_others, Cond.code yX5_others cX5_others 4 none, Cond.methodLink RX5 146 yX5_jump, Cond.instanceMethod yX5_jump, Cond.selects RX5 yX5_jump yX5_jump, Cond.code yX5_jump cX5_jump 6 none, Cond.methodLink RX5 150 yX5_exchangeBytes, Cond.instanceMethod yX5_exchangeBytes, Cond.selects RX5 yX5_exchangeBytes yX5_exchangeBytes]
def wsL_law0_r23 : List Cond := [Cond.code yX5_exchangeBytes cX5_exchangeBytes 4 none, Cond.methodLink RX5 153 yX5_signOut, Cond.instanceMethod yX5_signOut, Cond.selects RX5 yX5_signOut yX5_signOut, Cond.code yX5_signOut cX5_signOut 4 none, Cond.methodLink RX5 156 yX5_product, Cond.instanceMethod yX5_product, Cond.selects RX5 yX5_product yX5_product, Cond.code yX5_product cX5_product 5 none, Cond.methodLink RX5 120 yX5_signed, Cond.static yX5_signed, Cond.code yX5_signed cX5_signed 1 (some .int), Cond.constant RX5 119 (65536), Cond.methodLink RX5 159 yX5_quotient, Cond.instanceMethod yX5_quotient, Cond.selects RX5 yX5_quotient yX5_quotient, Cond.code yX5_quotient cX5_quotient 9 none, Cond.constantLong RX5 123 (-32768), Cond.constantLong RX5 125 (32767), Cond.methodLink RX5 162 yX5_shift, Cond.instanceMethod yX5_shift, Cond.selects RX5 yX5_shift yX5_shift, Cond.code yX5_shift cX5_shift 10 none, Cond.methodLink RX5 165 yX5_either]
def wsL_law0_r24 : List Cond := [Cond.instanceMethod yX5_either, Cond.selects RX5 yX5_either yX5_either, Cond.code yX5_either cX5_either 5 none, Cond.methodLink RX5 168 yX5_back, Cond.instanceMethod yX5_back, Cond.selects RX5 yX5_back yX5_back, Cond.code yX5_back cX5_back 3 none, Cond.methodLink RL 79 yX4_steps, Cond.instanceMethod yX4_steps, Cond.selects RX4 yX4_steps yX4_steps, Cond.code yX4_steps cX4_steps 1 (some .int), Cond.methodLink RL 82 yX5_steps, Cond.instanceMethod yX5_steps, Cond.selects RX5 yX5_steps yX5_steps, Cond.code yX5_steps cX5_steps 1 (some .int), Cond.methodLink RL 83 yL_output, Cond.static yL_output, Cond.codeWith yL_output cL_output 4 (some .int) [(0, 9, 12, 13)], Cond.methodLink RL 35 yX4_output, Cond.instanceMethod yX4_output, Cond.selects RX4 yX4_output yX4_output, Cond.code yX4_output cX4_output 2 (some .int), Cond.methodLink RL 85 yX5_output, Cond.instanceMethod yX5_output]
def wsL_law0_r25 : List Cond := [Cond.selects RX5 yX5_output yX5_output, Cond.code yX5_output cX5_output 2 (some .int), Cond.methodLink RL 86 yX4_outputs, Cond.instanceMethod yX4_outputs, Cond.selects RX4 yX4_outputs yX4_outputs, Cond.code yX4_outputs cX4_outputs 1 (some .int), Cond.methodLink RL 89 yX5_outputs, Cond.instanceMethod yX5_outputs, Cond.selects RX5 yX5_outputs yX5_outputs, Cond.code yX5_outputs cX5_outputs 1 (some .int), Cond.methodLink RL 90 yX4_clear, Cond.instanceMethod yX4_clear, Cond.selects RX4 yX4_clear yX4_clear, Cond.code yX4_clear cX4_clear 1 none, Cond.methodLink RX4 86 yX1_empty, Cond.instanceMethod yX1_empty, Cond.selects RX1 yX1_empty yX1_empty, Cond.code yX1_empty cX1_empty 1 none, Cond.methodLink RX1 27 yJ7_fill_53178, Cond.static yJ7_fill_53178, Cond.initialized RJ7, Cond.code yJ7_fill_53178 cJ7_fill_53178 4 none, Cond.methodLink RX4 89 yX3_empty, Cond.instanceMethod yX3_empty]
def wsL_law0_r26 : List Cond := [Cond.selects RX3 yX3_empty yX3_empty, Cond.code yX3_empty cX3_empty 1 none, Cond.methodLink RX3 27 yX2_empty, Cond.instanceMethod yX2_empty, Cond.selects RX2 yX2_empty yX2_empty, Cond.code yX2_empty cX2_empty 1 none, Cond.methodLink RX2 32 yJ7_fill_53178, Cond.methodLink RL 93 yX5_clear, Cond.instanceMethod yX5_clear, Cond.selects RX5 yX5_clear yX5_clear, Cond.code yX5_clear cX5_clear 2 none]
def wsL_law0 : List Cond := (wsL_law0_r1 ++ (wsL_law0_r2 ++ (wsL_law0_r3 ++ (wsL_law0_r4 ++ (wsL_law0_r5 ++ (wsL_law0_r6 ++ (wsL_law0_r7 ++ (wsL_law0_r8 ++ (wsL_law0_r9 ++ (wsL_law0_r10 ++ (wsL_law0_r11 ++ (wsL_law0_r12 ++ (wsL_law0_r13 ++ (wsL_law0_r14 ++ (wsL_law0_r15 ++ (wsL_law0_r16 ++ (wsL_law0_r17 ++ (wsL_law0_r18 ++ (wsL_law0_r19 ++ (wsL_law0_r20 ++ (wsL_law0_r21 ++ (wsL_law0_r22 ++ (wsL_law0_r23 ++ (wsL_law0_r24 ++ (wsL_law0_r25 ++ wsL_law0_r26))))))))))))))))))))))))) ++ wsX40 ++ wsX50 ++ wsX10 ++ wsX30 ++ wsX00 ++ wsX20 ++ ([] : List Cond)
def wsL_law : List Cond := wsL_law0 ++ (vx_at0 RX4 82 "java/lang/IndexOutOfBoundsException" ["java/lang/RuntimeException", "java/lang/Exception"]).filter goodWord ++ (vx_at0 RX4 69 "java/lang/IllegalArgumentException" ["java/lang/RuntimeException", "java/lang/Exception"]).filter goodWord
end
section
theorem lq_mem {big : List Cond} (ws : List Cond) (ps qs : List Nat) (hp : ws.filter k2_isCode = ps.filterMap (fun i => big[i]?)) (hq : ws.filter (fun w => !k2_isCode w) = qs.filterMap (fun i => big[i]?)) : ∀ w ∈ ws, w ∈ big := by
  intro w hw
  by_cases hc : k2_isCode w = true
  · have h1 : w ∈ ws.filter k2_isCode := List.mem_filter.mpr ⟨hw, hc⟩
    rw [hp] at h1
    obtain ⟨i, -, hi⟩ := List.mem_filterMap.mp h1
    exact List.mem_of_getElem? hi
  · have h1 : w ∈ ws.filter (fun w => !k2_isCode w) := List.mem_filter.mpr ⟨hw, by simpa using hc⟩
    rw [hq] at h1
    obtain ⟨i, -, hi⟩ := List.mem_filterMap.mp h1
    exact List.mem_of_getElem? hi
set_option maxRecDepth 20000 in
theorem lq_wsL_law0_r1 : ∀ w ∈ wsL_law0_r1, w ∈ lw_tbl := lq_mem _ [82, 85, 90] [78, 79, 65, 599, 600, 70, 841, 80, 81, 83, 84, 86, 87, 66, 165, 105, 106, 67, 166, 89, 91] rfl (by decide +kernel)
set_option maxRecDepth 20000 in
theorem lq_wsL_law0_r2 : ∀ w ∈ wsL_law0_r2, w ∈ lw_tbl := lq_mem _ [109, 115, 138] [104, 92, 93, 107, 108, 110, 111, 112, 68, 158, 134, 135, 69, 156, 114, 116, 136, 137, 139, 141, 144] rfl (by decide +kernel)
set_option maxRecDepth 20000 in
theorem lq_wsL_law0_r3 : ∀ w ∈ wsL_law0_r3, w ∈ lw_tbl := lq_mem _ [603, 227, 231] [140, 601, 602, 604, 606, 607, 609, 612, 220, 221, 64, 222, 223, 224, 225, 226, 228, 230, 0, 238, 74] rfl (by decide +kernel)
set_option maxRecDepth 20000 in
theorem lq_wsL_law0_r4 : ∀ w ∈ wsL_law0_r4, w ∈ lw_tbl := lq_mem _ [236, 303, 307, 312, 664] [232, 233, 234, 235, 237, 300, 301, 302, 304, 306, 2, 308, 309, 310, 311, 661, 662, 663, 605] rfl (by decide +kernel)
set_option maxRecDepth 20000 in
theorem lq_wsL_law0_r5 : ∀ w ∈ wsL_law0_r5, w ∈ lw_tbl := lq_mem _ [667, 672, 660, 319, 323] [668, 665, 666, 669, 671, 34, 657, 658, 659, 313, 314, 315, 316, 317, 318, 320, 321, 322, 673] rfl (by decide +kernel)
set_option maxRecDepth 20000 in
theorem lq_wsL_law0_r6 : ∀ w ∈ wsL_law0_r6, w ∈ lw_tbl := lq_mem _ [676, 680, 330, 684] [674, 675, 677, 679, 35, 324, 325, 326, 327, 328, 329, 331, 681, 682, 683, 332, 333, 334, 335, 336] rfl (by decide +kernel)
set_option maxRecDepth 20000 in
theorem lq_wsL_law0_r7 : ∀ w ∈ wsL_law0_r7, w ∈ lw_tbl := lq_mem _ [338, 342, 688, 349, 692] [337, 339, 341, 3, 685, 686, 687, 343, 344, 345, 346, 347, 348, 689, 690, 691, 175, 176, 177] rfl (by decide +kernel)
set_option maxRecDepth 20000 in
theorem lq_wsL_law0_r8 : ∀ w ∈ wsL_law0_r8, w ∈ lw_tbl := lq_mem _ [178, 182, 696, 186, 190] [179, 180, 181, 117, 119, 121, 123, 693, 694, 695, 608, 183, 184, 185, 187, 188, 189, 697, 698] rfl (by decide +kernel)
set_option maxRecDepth 20000 in
theorem lq_wsL_law0_r9 : ∀ w ∈ wsL_law0_r9, w ∈ lw_tbl := lq_mem _ [700, 357, 376, 380] [699, 350, 351, 352, 353, 354, 355, 356, 358, 75, 167, 373, 374, 375, 377, 378, 379, 381, 383, 382] rfl (by decide +kernel)
set_option maxRecDepth 20000 in
theorem lq_wsL_law0_r10 : ∀ w ∈ wsL_law0_r10, w ∈ lw_tbl := lq_mem _ [388, 392, 397, 404] [76, 145, 384, 385, 386, 387, 393, 389, 391, 4, 394, 395, 396, 398, 399, 400, 401, 403, 5, 405] rfl (by decide +kernel)
set_option maxRecDepth 20000 in
theorem lq_wsL_law0_r11 : ∀ w ∈ wsL_law0_r11, w ∈ lw_tbl := lq_mem _ [407, 412, 415, 420, 423, 427] [406, 408, 409, 411, 6, 413, 414, 416, 417, 418, 419, 421, 422, 424, 426, 7, 428, 430] rfl (by decide +kernel)
set_option maxRecDepth 20000 in
theorem lq_wsL_law0_r12 : ∀ w ∈ wsL_law0_r12, w ∈ lw_tbl := lq_mem _ [431, 436, 440, 444, 447, 452] [8, 432, 433, 435, 9, 437, 439, 10, 441, 443, 11, 446, 448, 449, 451, 12, 453, 455] rfl (by decide +kernel)
set_option maxRecDepth 20000 in
theorem lq_wsL_law0_r13 : ∀ w ∈ wsL_law0_r13, w ∈ lw_tbl := lq_mem _ [456, 460, 464, 468, 473, 477] [13, 457, 459, 14, 461, 463, 15, 465, 466, 467, 470, 472, 16, 474, 475, 476, 478, 479] rfl (by decide +kernel)
set_option maxRecDepth 20000 in
theorem lq_wsL_law0_r14 : ∀ w ∈ wsL_law0_r14, w ∈ lw_tbl := lq_mem _ [481, 485, 489, 493, 496, 501] [480, 95, 482, 484, 17, 486, 488, 18, 490, 491, 492, 495, 497, 498, 499, 500, 502, 504] rfl (by decide +kernel)
set_option maxRecDepth 20000 in
theorem lq_wsL_law0_r15 : ∀ w ∈ wsL_law0_r15, w ∈ lw_tbl := lq_mem _ [505, 509, 512, 516, 521, 525] [19, 506, 508, 20, 510, 511, 513, 514, 515, 517, 518, 520, 21, 522, 524, 22, 526, 527] rfl (by decide +kernel)
set_option maxRecDepth 20000 in
theorem lq_wsL_law0_r16 : ∀ w ∈ wsL_law0_r16, w ∈ lw_tbl := lq_mem _ [529, 533, 537, 541, 545, 549] [528, 219, 530, 532, 23, 534, 536, 24, 538, 540, 25, 542, 544, 26, 546, 548, 27, 550] rfl (by decide +kernel)
set_option maxRecDepth 20000 in
theorem lq_wsL_law0_r17 : ∀ w ∈ wsL_law0_r17, w ∈ lw_tbl := lq_mem _ [553, 556, 562, 567, 571] [552, 28, 554, 555, 557, 558, 559, 561, 29, 563, 564, 566, 30, 568, 570, 31, 572, 574, 32] rfl (by decide +kernel)
set_option maxRecDepth 20000 in
theorem lq_wsL_law0_r18 : ∀ w ∈ wsL_law0_r18, w ∈ lw_tbl := lq_mem _ [575, 579, 582, 586, 591, 720] [576, 578, 33, 580, 581, 583, 584, 585, 588, 589, 590, 717, 718, 719, 611, 617, 618, 721] rfl (by decide +kernel)
set_option maxRecDepth 20000 in
theorem lq_wsL_law0_r19 : ∀ w ∈ wsL_law0_r19, w ∈ lw_tbl := lq_mem _ [724, 728, 732, 736] [723, 36, 613, 615, 619, 614, 616, 610, 725, 727, 37, 729, 731, 38, 733, 735, 39, 737, 739, 40] rfl (by decide +kernel)
set_option maxRecDepth 20000 in
theorem lq_wsL_law0_r20 : ∀ w ∈ wsL_law0_r20, w ∈ lw_tbl := lq_mem _ [740, 744, 748, 752, 756, 760] [741, 743, 41, 620, 782, 745, 747, 42, 621, 749, 751, 43, 753, 755, 44, 757, 759, 45] rfl (by decide +kernel)
set_option maxRecDepth 20000 in
theorem lq_wsL_law0_r21 : ∀ w ∈ wsL_law0_r21, w ∈ lw_tbl := lq_mem _ [764, 768, 772, 777, 781] [761, 763, 46, 765, 767, 47, 769, 771, 48, 773, 774, 776, 49, 778, 780, 50, 783, 785, 51] rfl (by decide +kernel)
set_option maxRecDepth 20000 in
theorem lq_wsL_law0_r22 : ∀ w ∈ wsL_law0_r22, w ∈ lw_tbl := lq_mem _ [786, 790, 794, 798, 802, 806] [787, 789, 52, 791, 793, 53, 795, 797, 54, 799, 801, 55, 803, 805, 56, 807, 809, 57] rfl (by decide +kernel)
set_option maxRecDepth 20000 in
theorem lq_wsL_law0_r23 : ∀ w ∈ wsL_law0_r23, w ∈ lw_tbl := lq_mem _ [810, 814, 818, 821, 826, 832] [811, 813, 58, 815, 817, 59, 819, 820, 822, 823, 825, 60, 827, 828, 829, 831, 61, 833] rfl (by decide +kernel)
set_option maxRecDepth 20000 in
theorem lq_wsL_law0_r24 : ∀ w ∈ wsL_law0_r24, w ∈ lw_tbl := lq_mem _ [836, 840, 194, 704, 598] [835, 62, 837, 839, 63, 191, 192, 193, 701, 702, 703, 592, 593, 594, 595, 596, 597, 705, 706] rfl (by decide +kernel)
set_option maxRecDepth 20000 in
theorem lq_wsL_law0_r25 : ∀ w ∈ wsL_law0_r25, w ∈ lw_tbl := lq_mem _ [708, 198, 712, 202, 206, 209] [707, 195, 196, 197, 709, 710, 711, 199, 200, 201, 203, 204, 205, 207, 208, 77, 210, 211] rfl (by decide +kernel)
set_option maxRecDepth 20000 in
theorem lq_wsL_law0_r26 : ∀ w ∈ wsL_law0_r26, w ∈ lw_tbl := lq_mem _ [213, 217, 716] [212, 214, 215, 216, 218, 713, 714, 715] rfl (by decide +kernel)
theorem lq_wsX40 : ∀ w ∈ wsX40, w ∈ lw_tbl := by decide +kernel
theorem lq_wsX50 : ∀ w ∈ wsX50, w ∈ lw_tbl := by decide +kernel
theorem lq_wsX10 : ∀ w ∈ wsX10, w ∈ lw_tbl := by decide +kernel
theorem lq_wsX30 : ∀ w ∈ wsX30, w ∈ lw_tbl := by decide +kernel
theorem lq_wsX00 : ∀ w ∈ wsX00, w ∈ lw_tbl := by decide +kernel
theorem lq_wsX20 : ∀ w ∈ wsX20, w ∈ lw_tbl := by decide +kernel
theorem wsL_law_in0 : ∀ w ∈ wsL_law0, w ∈ lw_tbl := by
  unfold wsL_law0
  exact List.forall_mem_append.mpr ⟨List.forall_mem_append.mpr ⟨List.forall_mem_append.mpr ⟨List.forall_mem_append.mpr ⟨List.forall_mem_append.mpr ⟨List.forall_mem_append.mpr ⟨List.forall_mem_append.mpr ⟨List.forall_mem_append.mpr ⟨lq_wsL_law0_r1, List.forall_mem_append.mpr ⟨lq_wsL_law0_r2, List.forall_mem_append.mpr ⟨lq_wsL_law0_r3, List.forall_mem_append.mpr ⟨lq_wsL_law0_r4, List.forall_mem_append.mpr ⟨lq_wsL_law0_r5, List.forall_mem_append.mpr ⟨lq_wsL_law0_r6, List.forall_mem_append.mpr ⟨lq_wsL_law0_r7, List.forall_mem_append.mpr ⟨lq_wsL_law0_r8, List.forall_mem_append.mpr ⟨lq_wsL_law0_r9, List.forall_mem_append.mpr ⟨lq_wsL_law0_r10, List.forall_mem_append.mpr ⟨lq_wsL_law0_r11, List.forall_mem_append.mpr ⟨lq_wsL_law0_r12, List.forall_mem_append.mpr ⟨lq_wsL_law0_r13, List.forall_mem_append.mpr ⟨lq_wsL_law0_r14, List.forall_mem_append.mpr ⟨lq_wsL_law0_r15, List.forall_mem_append.mpr ⟨lq_wsL_law0_r16, List.forall_mem_append.mpr ⟨lq_wsL_law0_r17, List.forall_mem_append.mpr ⟨lq_wsL_law0_r18, List.forall_mem_append.mpr ⟨lq_wsL_law0_r19, List.forall_mem_append.mpr ⟨lq_wsL_law0_r20, List.forall_mem_append.mpr ⟨lq_wsL_law0_r21, List.forall_mem_append.mpr ⟨lq_wsL_law0_r22, List.forall_mem_append.mpr ⟨lq_wsL_law0_r23, List.forall_mem_append.mpr ⟨lq_wsL_law0_r24, List.forall_mem_append.mpr ⟨lq_wsL_law0_r25, lq_wsL_law0_r26⟩⟩⟩⟩⟩⟩⟩⟩⟩⟩⟩⟩⟩⟩⟩⟩⟩⟩⟩⟩⟩⟩⟩⟩⟩, lq_wsX40⟩, lq_wsX50⟩, lq_wsX10⟩, lq_wsX30⟩, lq_wsX00⟩, lq_wsX20⟩, fun _ h => absurd h List.not_mem_nil⟩
theorem wsL_law_x0 : ∀ w ∈ (vx_at0 RX4 82 "java/lang/IndexOutOfBoundsException" ["java/lang/RuntimeException", "java/lang/Exception"]).filter goodWord, w ∈ lw_tbl := by decide +kernel
theorem wsL_law_x1 : ∀ w ∈ (vx_at0 RX4 69 "java/lang/IllegalArgumentException" ["java/lang/RuntimeException", "java/lang/Exception"]).filter goodWord, w ∈ lw_tbl := by decide +kernel
theorem wsL_law_in : ∀ w ∈ wsL_law, w ∈ lw_tbl := fun w h => (List.mem_append.mp h).elim (fun h => (List.mem_append.mp h).elim (fun h => wsL_law_in0 w h) (fun h => wsL_law_x0 w h)) (fun h => wsL_law_x1 w h)
theorem inlX0 : ∀ w ∈ wsX00, w ∈ wsL_law := fun _ h => List.mem_append_left _ (List.mem_append_left _ (List.mem_append_left _ (List.mem_append_left _ (List.mem_append_right _ h))))
theorem inX0 : ∀ w ∈ wsX00, w ∈ lw_tbl := fun w h => wsL_law_in w (inlX0 w h)
theorem inlX1 : ∀ w ∈ wsX10, w ∈ wsL_law := fun _ h => List.mem_append_left _ (List.mem_append_left _ (List.mem_append_left _ (List.mem_append_left _ (List.mem_append_left _ (List.mem_append_left _ (List.mem_append_right _ h))))))
theorem inX1 : ∀ w ∈ wsX10, w ∈ lw_tbl := fun w h => wsL_law_in w (inlX1 w h)
theorem inlX2 : ∀ w ∈ wsX20, w ∈ wsL_law := fun _ h => List.mem_append_left _ (List.mem_append_left _ (List.mem_append_left _ (List.mem_append_right _ h)))
theorem inX2 : ∀ w ∈ wsX20, w ∈ lw_tbl := fun w h => wsL_law_in w (inlX2 w h)
theorem inlX3 : ∀ w ∈ wsX30, w ∈ wsL_law := fun _ h => List.mem_append_left _ (List.mem_append_left _ (List.mem_append_left _ (List.mem_append_left _ (List.mem_append_left _ (List.mem_append_right _ h)))))
theorem inX3 : ∀ w ∈ wsX30, w ∈ lw_tbl := fun w h => wsL_law_in w (inlX3 w h)
theorem inlX4 : ∀ w ∈ wsX40, w ∈ wsL_law := fun _ h => List.mem_append_left _ (List.mem_append_left _ (List.mem_append_left _ (List.mem_append_left _ (List.mem_append_left _ (List.mem_append_left _ (List.mem_append_left _ (List.mem_append_left _ (List.mem_append_right _ h))))))))
theorem inX4 : ∀ w ∈ wsX40, w ∈ lw_tbl := fun w h => wsL_law_in w (inlX4 w h)
theorem inlX5 : ∀ w ∈ wsX50, w ∈ wsL_law := fun _ h => List.mem_append_left _ (List.mem_append_left _ (List.mem_append_left _ (List.mem_append_left _ (List.mem_append_left _ (List.mem_append_left _ (List.mem_append_left _ (List.mem_append_right _ h)))))))
theorem inX5 : ∀ w ∈ wsX50, w ∈ lw_tbl := fun w h => wsL_law_in w (inlX5 w h)
theorem inJ10 : ∀ w ∈ wsJ100, w ∈ lw_tbl := by decide +kernel
theorem inJ7 : ∀ w ∈ wsJ70, w ∈ lw_tbl := by decide +kernel
abbrev vwCl : List vw_C := [(RX0, TX0, 4), (RX1, TX1, 3), (RX2, TX2, 4), (RX3, TX3, 2), (RX4, TX4, 3), (RX5, TX5, 17)]
end
section
theorem dX0_init_0 : decode cX0_init 0 = .ok (.aload_n 0, 1) := by decide +kernel
theorem dX0_init_1 : decode cX0_init 1 = .ok (.invokespecial 1, 3) := by decide +kernel
theorem dX0_init_4 : decode cX0_init 4 = .ok (.return_, 1) := by decide +kernel
theorem dX0_number_0 : decode cX0_number 0 = .ok (.aload_n 0, 1) := by decide +kernel
theorem dX0_number_1 : decode cX0_number 1 = .ok (.getfield 7, 3) := by decide +kernel
theorem dX0_number_4 : decode cX0_number 4 = .ok (.ifCond .eq 8, 3) := by decide +kernel
theorem dX0_number_7 : decode cX0_number 7 = .ok (.bipush 8, 2) := by decide +kernel
theorem dX0_number_9 : decode cX0_number 9 = .ok (.goto 4, 3) := by decide +kernel
theorem dX0_number_12 : decode cX0_number 12 = .ok (.iconst 0, 1) := by decide +kernel
theorem dX0_number_13 : decode cX0_number 13 = .ok (.aload_n 0, 1) := by decide +kernel
theorem dX0_number_14 : decode cX0_number 14 = .ok (.getfield 13, 3) := by decide +kernel
theorem dX0_number_17 : decode cX0_number 17 = .ok (.ifCond .eq 7, 3) := by decide +kernel
theorem dX0_number_20 : decode cX0_number 20 = .ok (.iconst 4, 1) := by decide +kernel
theorem dX0_number_21 : decode cX0_number 21 = .ok (.goto 4, 3) := by decide +kernel
theorem dX0_number_24 : decode cX0_number 24 = .ok (.iconst 0, 1) := by decide +kernel
theorem dX0_number_25 : decode cX0_number 25 = .ok (.ior, 1) := by decide +kernel
theorem dX0_number_26 : decode cX0_number 26 = .ok (.aload_n 0, 1) := by decide +kernel
theorem dX0_number_27 : decode cX0_number 27 = .ok (.getfield 16, 3) := by decide +kernel
theorem dX0_number_30 : decode cX0_number 30 = .ok (.ifCond .eq 7, 3) := by decide +kernel
theorem dX0_number_33 : decode cX0_number 33 = .ok (.iconst 2, 1) := by decide +kernel
theorem dX0_number_34 : decode cX0_number 34 = .ok (.goto 4, 3) := by decide +kernel
theorem dX0_number_37 : decode cX0_number 37 = .ok (.iconst 0, 1) := by decide +kernel
theorem dX0_number_38 : decode cX0_number 38 = .ok (.ior, 1) := by decide +kernel
theorem dX0_number_39 : decode cX0_number 39 = .ok (.aload_n 0, 1) := by decide +kernel
theorem dX0_number_40 : decode cX0_number 40 = .ok (.getfield 19, 3) := by decide +kernel
theorem dX0_number_43 : decode cX0_number 43 = .ok (.ifCond .eq 7, 3) := by decide +kernel
theorem dX0_number_46 : decode cX0_number 46 = .ok (.iconst 1, 1) := by decide +kernel
theorem dX0_number_47 : decode cX0_number 47 = .ok (.goto 4, 3) := by decide +kernel
theorem dX0_number_50 : decode cX0_number 50 = .ok (.iconst 0, 1) := by decide +kernel
theorem dX0_number_51 : decode cX0_number 51 = .ok (.ior, 1) := by decide +kernel
theorem dX0_number_52 : decode cX0_number 52 = .ok (.ireturn, 1) := by decide +kernel
theorem dX0_become_0 : decode cX0_become 0 = .ok (.aload_n 0, 1) := by decide +kernel
theorem dX0_become_1 : decode cX0_become 1 = .ok (.iload_n 1, 1) := by decide +kernel
theorem dX0_become_2 : decode cX0_become 2 = .ok (.bipush 8, 2) := by decide +kernel
theorem dX0_become_4 : decode cX0_become 4 = .ok (.iand, 1) := by decide +kernel
theorem dX0_become_5 : decode cX0_become 5 = .ok (.ifCond .eq 7, 3) := by decide +kernel
theorem dX0_become_8 : decode cX0_become 8 = .ok (.iconst 1, 1) := by decide +kernel
theorem dX0_become_9 : decode cX0_become 9 = .ok (.goto 4, 3) := by decide +kernel
theorem dX0_become_12 : decode cX0_become 12 = .ok (.iconst 0, 1) := by decide +kernel
theorem dX0_become_13 : decode cX0_become 13 = .ok (.putfield 7, 3) := by decide +kernel
theorem dX0_become_16 : decode cX0_become 16 = .ok (.aload_n 0, 1) := by decide +kernel
theorem dX0_become_17 : decode cX0_become 17 = .ok (.iload_n 1, 1) := by decide +kernel
theorem dX0_become_18 : decode cX0_become 18 = .ok (.iconst 4, 1) := by decide +kernel
theorem dX0_become_19 : decode cX0_become 19 = .ok (.iand, 1) := by decide +kernel
theorem dX0_become_20 : decode cX0_become 20 = .ok (.ifCond .eq 7, 3) := by decide +kernel
theorem dX0_become_23 : decode cX0_become 23 = .ok (.iconst 1, 1) := by decide +kernel
theorem dX0_become_24 : decode cX0_become 24 = .ok (.goto 4, 3) := by decide +kernel
theorem dX0_become_27 : decode cX0_become 27 = .ok (.iconst 0, 1) := by decide +kernel
theorem dX0_become_28 : decode cX0_become 28 = .ok (.putfield 13, 3) := by decide +kernel
theorem dX0_become_31 : decode cX0_become 31 = .ok (.aload_n 0, 1) := by decide +kernel
theorem dX0_become_32 : decode cX0_become 32 = .ok (.iload_n 1, 1) := by decide +kernel
theorem dX0_become_33 : decode cX0_become 33 = .ok (.iconst 2, 1) := by decide +kernel
theorem dX0_become_34 : decode cX0_become 34 = .ok (.iand, 1) := by decide +kernel
theorem dX0_become_35 : decode cX0_become 35 = .ok (.ifCond .eq 7, 3) := by decide +kernel
theorem dX0_become_38 : decode cX0_become 38 = .ok (.iconst 1, 1) := by decide +kernel
theorem dX0_become_39 : decode cX0_become 39 = .ok (.goto 4, 3) := by decide +kernel
theorem dX0_become_42 : decode cX0_become 42 = .ok (.iconst 0, 1) := by decide +kernel
theorem dX0_become_43 : decode cX0_become 43 = .ok (.putfield 16, 3) := by decide +kernel
theorem dX0_become_46 : decode cX0_become 46 = .ok (.aload_n 0, 1) := by decide +kernel
theorem dX0_become_47 : decode cX0_become 47 = .ok (.iload_n 1, 1) := by decide +kernel
theorem dX0_become_48 : decode cX0_become 48 = .ok (.iconst 1, 1) := by decide +kernel
theorem dX0_become_49 : decode cX0_become 49 = .ok (.iand, 1) := by decide +kernel
theorem dX0_become_50 : decode cX0_become 50 = .ok (.ifCond .eq 7, 3) := by decide +kernel
theorem dX0_become_53 : decode cX0_become 53 = .ok (.iconst 1, 1) := by decide +kernel
theorem dX0_become_54 : decode cX0_become 54 = .ok (.goto 4, 3) := by decide +kernel
theorem dX0_become_57 : decode cX0_become 57 = .ok (.iconst 0, 1) := by decide +kernel
theorem dX0_become_58 : decode cX0_become 58 = .ok (.putfield 19, 3) := by decide +kernel
theorem dX0_become_61 : decode cX0_become 61 = .ok (.return_, 1) := by decide +kernel
theorem dX1_init_0 : decode cX1_init 0 = .ok (.aload_n 0, 1) := by decide +kernel
theorem dX1_init_1 : decode cX1_init 1 = .ok (.invokespecial 3, 3) := by decide +kernel
theorem dX1_init_4 : decode cX1_init 4 = .ok (.aload_n 0, 1) := by decide +kernel
theorem dX1_init_5 : decode cX1_init 5 = .ok (.sipush 2048, 3) := by decide +kernel
theorem dX1_init_8 : decode cX1_init 8 = .ok (.newarray .int, 2) := by decide +kernel
theorem dX1_init_10 : decode cX1_init 10 = .ok (.putfield 9, 3) := by decide +kernel
theorem dX1_init_13 : decode cX1_init 13 = .ok (.aload_n 0, 1) := by decide +kernel
theorem dX1_init_14 : decode cX1_init 14 = .ok (.sipush 400, 3) := by decide +kernel
theorem dX1_init_17 : decode cX1_init 17 = .ok (.newarray .int, 2) := by decide +kernel
theorem dX1_init_19 : decode cX1_init 19 = .ok (.putfield 15, 3) := by decide +kernel
theorem dX1_init_22 : decode cX1_init 22 = .ok (.return_, 1) := by decide +kernel
theorem dX1_faultAt_0 : decode cX1_faultAt 0 = .ok (.iload_n 2, 1) := by decide +kernel
theorem dX1_faultAt_1 : decode cX1_faultAt 1 = .ok (.ldc 18, 2) := by decide +kernel
theorem dX1_faultAt_3 : decode cX1_faultAt 3 = .ok (.if_icmp .ne 11, 3) := by decide +kernel
theorem dX1_faultAt_6 : decode cX1_faultAt 6 = .ok (.iload_n 1, 1) := by decide +kernel
theorem dX1_faultAt_7 : decode cX1_faultAt 7 = .ok (.iconst 1, 1) := by decide +kernel
theorem dX1_faultAt_8 : decode cX1_faultAt 8 = .ok (.iand, 1) := by decide +kernel
theorem dX1_faultAt_9 : decode cX1_faultAt 9 = .ok (.ifCond .eq 5, 3) := by decide +kernel
theorem dX1_faultAt_12 : decode cX1_faultAt 12 = .ok (.iconst 2, 1) := by decide +kernel
theorem dX1_faultAt_13 : decode cX1_faultAt 13 = .ok (.ireturn, 1) := by decide +kernel
theorem dX1_faultAt_14 : decode cX1_faultAt 14 = .ok (.iload_n 1, 1) := by decide +kernel
theorem dX1_faultAt_15 : decode cX1_faultAt 15 = .ok (.ifCond .lt 10, 3) := by decide +kernel
theorem dX1_faultAt_18 : decode cX1_faultAt 18 = .ok (.iload_n 1, 1) := by decide +kernel
theorem dX1_faultAt_19 : decode cX1_faultAt 19 = .ok (.sipush 4096, 3) := by decide +kernel
theorem dX1_faultAt_22 : decode cX1_faultAt 22 = .ok (.if_icmp .lt 7, 3) := by decide +kernel
theorem dX1_faultAt_25 : decode cX1_faultAt 25 = .ok (.iconst 3, 1) := by decide +kernel
theorem dX1_faultAt_26 : decode cX1_faultAt 26 = .ok (.goto 4, 3) := by decide +kernel
theorem dX1_faultAt_29 : decode cX1_faultAt 29 = .ok (.iconst 0, 1) := by decide +kernel
theorem dX1_faultAt_30 : decode cX1_faultAt 30 = .ok (.ireturn, 1) := by decide +kernel
theorem dX1_valueAt_0 : decode cX1_valueAt 0 = .ok (.iload_n 1, 1) := by decide +kernel
theorem dX1_valueAt_1 : decode cX1_valueAt 1 = .ok (.iconst 1, 1) := by decide +kernel
theorem dX1_valueAt_2 : decode cX1_valueAt 2 = .ok (.iand, 1) := by decide +kernel
theorem dX1_valueAt_3 : decode cX1_valueAt 3 = .ok (.bipush 8, 2) := by decide +kernel
theorem dX1_valueAt_5 : decode cX1_valueAt 5 = .ok (.imul, 1) := by decide +kernel
theorem dX1_valueAt_6 : decode cX1_valueAt 6 = .ok (.istore_n 3, 1) := by decide +kernel
theorem dX1_valueAt_7 : decode cX1_valueAt 7 = .ok (.aload_n 0, 1) := by decide +kernel
theorem dX1_valueAt_8 : decode cX1_valueAt 8 = .ok (.getfield 9, 3) := by decide +kernel
theorem dX1_valueAt_11 : decode cX1_valueAt 11 = .ok (.iload_n 1, 1) := by decide +kernel
theorem dX1_valueAt_12 : decode cX1_valueAt 12 = .ok (.iconst 1, 1) := by decide +kernel
theorem dX1_valueAt_13 : decode cX1_valueAt 13 = .ok (.ishr, 1) := by decide +kernel
theorem dX1_valueAt_14 : decode cX1_valueAt 14 = .ok (.sipush 2047, 3) := by decide +kernel
theorem dX1_valueAt_17 : decode cX1_valueAt 17 = .ok (.iand, 1) := by decide +kernel
theorem dX1_valueAt_18 : decode cX1_valueAt 18 = .ok (.iaload, 1) := by decide +kernel
theorem dX1_valueAt_19 : decode cX1_valueAt 19 = .ok (.iload_n 3, 1) := by decide +kernel
theorem dX1_valueAt_20 : decode cX1_valueAt 20 = .ok (.ishr, 1) := by decide +kernel
theorem dX1_valueAt_21 : decode cX1_valueAt 21 = .ok (.iload_n 2, 1) := by decide +kernel
theorem dX1_valueAt_22 : decode cX1_valueAt 22 = .ok (.iand, 1) := by decide +kernel
theorem dX1_valueAt_23 : decode cX1_valueAt 23 = .ok (.ireturn, 1) := by decide +kernel
theorem dX1_setWord_0 : decode cX1_setWord 0 = .ok (.aload_n 0, 1) := by decide +kernel
theorem dX1_setWord_1 : decode cX1_setWord 1 = .ok (.getfield 9, 3) := by decide +kernel
theorem dX1_setWord_4 : decode cX1_setWord 4 = .ok (.iload_n 1, 1) := by decide +kernel
theorem dX1_setWord_5 : decode cX1_setWord 5 = .ok (.iconst 1, 1) := by decide +kernel
theorem dX1_setWord_6 : decode cX1_setWord 6 = .ok (.ishr, 1) := by decide +kernel
theorem dX1_setWord_7 : decode cX1_setWord 7 = .ok (.sipush 2047, 3) := by decide +kernel
theorem dX1_setWord_10 : decode cX1_setWord 10 = .ok (.iand, 1) := by decide +kernel
theorem dX1_setWord_11 : decode cX1_setWord 11 = .ok (.iload_n 2, 1) := by decide +kernel
theorem dX1_setWord_12 : decode cX1_setWord 12 = .ok (.ldc 18, 2) := by decide +kernel
theorem dX1_setWord_14 : decode cX1_setWord 14 = .ok (.iand, 1) := by decide +kernel
theorem dX1_setWord_15 : decode cX1_setWord 15 = .ok (.iastore, 1) := by decide +kernel
theorem dX1_setWord_16 : decode cX1_setWord 16 = .ok (.return_, 1) := by decide +kernel
theorem dX1_setPair_0 : decode cX1_setPair 0 = .ok (.aload_n 0, 1) := by decide +kernel
theorem dX1_setPair_1 : decode cX1_setPair 1 = .ok (.iload_n 1, 1) := by decide +kernel
theorem dX1_setPair_2 : decode cX1_setPair 2 = .ok (.iload_n 2, 1) := by decide +kernel
theorem dX1_setPair_3 : decode cX1_setPair 3 = .ok (.bipush 16, 2) := by decide +kernel
theorem dX1_setPair_5 : decode cX1_setPair 5 = .ok (.iushr, 1) := by decide +kernel
theorem dX1_setPair_6 : decode cX1_setPair 6 = .ok (.invokevirtual 19, 3) := by decide +kernel
theorem dX1_setPair_9 : decode cX1_setPair 9 = .ok (.aload_n 0, 1) := by decide +kernel
theorem dX1_setPair_10 : decode cX1_setPair 10 = .ok (.iload_n 1, 1) := by decide +kernel
theorem dX1_setPair_11 : decode cX1_setPair 11 = .ok (.iconst 2, 1) := by decide +kernel
theorem dX1_setPair_12 : decode cX1_setPair 12 = .ok (.iadd, 1) := by decide +kernel
theorem dX1_setPair_13 : decode cX1_setPair 13 = .ok (.iload_n 2, 1) := by decide +kernel
theorem dX1_setPair_14 : decode cX1_setPair 14 = .ok (.invokevirtual 19, 3) := by decide +kernel
theorem dX1_setPair_17 : decode cX1_setPair 17 = .ok (.iadd, 1) := by decide +kernel
theorem dX1_setPair_18 : decode cX1_setPair 18 = .ok (.ireturn, 1) := by decide +kernel
theorem dX1_empty_0 : decode cX1_empty 0 = .ok (.aload_n 0, 1) := by decide +kernel
theorem dX1_empty_1 : decode cX1_empty 1 = .ok (.getfield 9, 3) := by decide +kernel
theorem dX1_empty_4 : decode cX1_empty 4 = .ok (.iconst 0, 1) := by decide +kernel
theorem dX1_empty_5 : decode cX1_empty 5 = .ok (.invokestatic 27, 3) := by decide +kernel
theorem dX1_empty_8 : decode cX1_empty 8 = .ok (.aload_n 0, 1) := by decide +kernel
theorem dX1_empty_9 : decode cX1_empty 9 = .ok (.iconst 0, 1) := by decide +kernel
theorem dX1_empty_10 : decode cX1_empty 10 = .ok (.putfield 23, 3) := by decide +kernel
theorem dX1_empty_13 : decode cX1_empty 13 = .ok (.return_, 1) := by decide +kernel
theorem dX1_setIfThere_0 : decode cX1_setIfThere 0 = .ok (.aload_n 0, 1) := by decide +kernel
theorem dX1_setIfThere_1 : decode cX1_setIfThere 1 = .ok (.iload_n 1, 1) := by decide +kernel
theorem dX1_setIfThere_2 : decode cX1_setIfThere 2 = .ok (.ldc 18, 2) := by decide +kernel
theorem dX1_setIfThere_4 : decode cX1_setIfThere 4 = .ok (.invokevirtual 33, 3) := by decide +kernel
theorem dX1_setIfThere_7 : decode cX1_setIfThere 7 = .ok (.ifCond .eq 5, 3) := by decide +kernel
theorem dX1_setIfThere_10 : decode cX1_setIfThere 10 = .ok (.iconst 0, 1) := by decide +kernel
theorem dX1_setIfThere_11 : decode cX1_setIfThere 11 = .ok (.ireturn, 1) := by decide +kernel
theorem dX1_setIfThere_12 : decode cX1_setIfThere 12 = .ok (.aload_n 0, 1) := by decide +kernel
theorem dX1_setIfThere_13 : decode cX1_setIfThere 13 = .ok (.iload_n 1, 1) := by decide +kernel
theorem dX1_setIfThere_14 : decode cX1_setIfThere 14 = .ok (.iload_n 2, 1) := by decide +kernel
theorem dX1_setIfThere_15 : decode cX1_setIfThere 15 = .ok (.invokevirtual 36, 3) := by decide +kernel
theorem dX1_setIfThere_18 : decode cX1_setIfThere 18 = .ok (.iconst 1, 1) := by decide +kernel
theorem dX1_setIfThere_19 : decode cX1_setIfThere 19 = .ok (.ireturn, 1) := by decide +kernel
theorem dX2_init_0 : decode cX2_init 0 = .ok (.aload_n 0, 1) := by decide +kernel
theorem dX2_init_1 : decode cX2_init 1 = .ok (.invokespecial 3, 3) := by decide +kernel
theorem dX2_init_4 : decode cX2_init 4 = .ok (.aload_n 0, 1) := by decide +kernel
theorem dX2_init_5 : decode cX2_init 5 = .ok (.bipush 8, 2) := by decide +kernel
theorem dX2_init_7 : decode cX2_init 7 = .ok (.newarray .int, 2) := by decide +kernel
theorem dX2_init_9 : decode cX2_init 9 = .ok (.putfield 9, 3) := by decide +kernel
theorem dX2_init_12 : decode cX2_init 12 = .ok (.aload_n 0, 1) := by decide +kernel
theorem dX2_init_13 : decode cX2_init 13 = .ok (.bipush 8, 2) := by decide +kernel
theorem dX2_init_15 : decode cX2_init 15 = .ok (.newarray .int, 2) := by decide +kernel
theorem dX2_init_17 : decode cX2_init 17 = .ok (.putfield 15, 3) := by decide +kernel
theorem dX2_init_20 : decode cX2_init 20 = .ok (.aload_n 0, 1) := by decide +kernel
theorem dX2_init_21 : decode cX2_init 21 = .ok (.aload_n 1, 1) := by decide +kernel
theorem dX2_init_22 : decode cX2_init 22 = .ok (.putfield 18, 3) := by decide +kernel
theorem dX2_init_25 : decode cX2_init 25 = .ok (.return_, 1) := by decide +kernel
theorem dX2_begin_0 : decode cX2_begin 0 = .ok (.aload_n 0, 1) := by decide +kernel
theorem dX2_begin_1 : decode cX2_begin 1 = .ok (.getfield 9, 3) := by decide +kernel
theorem dX2_begin_4 : decode cX2_begin 4 = .ok (.iconst 0, 1) := by decide +kernel
theorem dX2_begin_5 : decode cX2_begin 5 = .ok (.aload_n 0, 1) := by decide +kernel
theorem dX2_begin_6 : decode cX2_begin 6 = .ok (.getfield 15, 3) := by decide +kernel
theorem dX2_begin_9 : decode cX2_begin 9 = .ok (.iconst 0, 1) := by decide +kernel
theorem dX2_begin_10 : decode cX2_begin 10 = .ok (.bipush 8, 2) := by decide +kernel
theorem dX2_begin_12 : decode cX2_begin 12 = .ok (.invokestatic 22, 3) := by decide +kernel
theorem dX2_begin_15 : decode cX2_begin 15 = .ok (.aload_n 0, 1) := by decide +kernel
theorem dX2_begin_16 : decode cX2_begin 16 = .ok (.iconst 0, 1) := by decide +kernel
theorem dX2_begin_17 : decode cX2_begin 17 = .ok (.putfield 28, 3) := by decide +kernel
theorem dX2_begin_20 : decode cX2_begin 20 = .ok (.return_, 1) := by decide +kernel
theorem dX2_empty_0 : decode cX2_empty 0 = .ok (.aload_n 0, 1) := by decide +kernel
theorem dX2_empty_1 : decode cX2_empty 1 = .ok (.getfield 9, 3) := by decide +kernel
theorem dX2_empty_4 : decode cX2_empty 4 = .ok (.iconst 0, 1) := by decide +kernel
theorem dX2_empty_5 : decode cX2_empty 5 = .ok (.invokestatic 32, 3) := by decide +kernel
theorem dX2_empty_8 : decode cX2_empty 8 = .ok (.return_, 1) := by decide +kernel
theorem dX2_fetch_0 : decode cX2_fetch 0 = .ok (.iload_n 1, 1) := by decide +kernel
theorem dX2_fetch_1 : decode cX2_fetch 1 = .ok (.ldc 38, 2) := by decide +kernel
theorem dX2_fetch_3 : decode cX2_fetch 3 = .ok (.if_icmp .lt 15, 3) := by decide +kernel
theorem dX2_fetch_6 : decode cX2_fetch 6 = .ok (.aload_n 0, 1) := by decide +kernel
theorem dX2_fetch_7 : decode cX2_fetch 7 = .ok (.getfield 9, 3) := by decide +kernel
theorem dX2_fetch_10 : decode cX2_fetch 10 = .ok (.iload_n 1, 1) := by decide +kernel
theorem dX2_fetch_11 : decode cX2_fetch 11 = .ok (.bipush 7, 2) := by decide +kernel
theorem dX2_fetch_13 : decode cX2_fetch 13 = .ok (.iand, 1) := by decide +kernel
theorem dX2_fetch_14 : decode cX2_fetch 14 = .ok (.iaload, 1) := by decide +kernel
theorem dX2_fetch_15 : decode cX2_fetch 15 = .ok (.iload_n 2, 1) := by decide +kernel
theorem dX2_fetch_16 : decode cX2_fetch 16 = .ok (.iand, 1) := by decide +kernel
theorem dX2_fetch_17 : decode cX2_fetch 17 = .ok (.ireturn, 1) := by decide +kernel
theorem dX2_fetch_18 : decode cX2_fetch 18 = .ok (.aload_n 0, 1) := by decide +kernel
theorem dX2_fetch_19 : decode cX2_fetch 19 = .ok (.getfield 28, 3) := by decide +kernel
theorem dX2_fetch_22 : decode cX2_fetch 22 = .ok (.ifCond .ne 16, 3) := by decide +kernel
theorem dX2_fetch_25 : decode cX2_fetch 25 = .ok (.aload_n 0, 1) := by decide +kernel
theorem dX2_fetch_26 : decode cX2_fetch 26 = .ok (.aload_n 0, 1) := by decide +kernel
theorem dX2_fetch_27 : decode cX2_fetch 27 = .ok (.getfield 18, 3) := by decide +kernel
theorem dX2_fetch_30 : decode cX2_fetch 30 = .ok (.iload_n 1, 1) := by decide +kernel
theorem dX2_fetch_31 : decode cX2_fetch 31 = .ok (.iload_n 2, 1) := by decide +kernel
theorem dX2_fetch_32 : decode cX2_fetch 32 = .ok (.invokevirtual 56, 3) := by decide +kernel
theorem dX2_fetch_35 : decode cX2_fetch 35 = .ok (.putfield 28, 3) := by decide +kernel
theorem dX2_fetch_38 : decode cX2_fetch 38 = .ok (.aload_n 0, 1) := by decide +kernel
theorem dX2_fetch_39 : decode cX2_fetch 39 = .ok (.getfield 28, 3) := by decide +kernel
theorem dX2_fetch_42 : decode cX2_fetch 42 = .ok (.ifCond .ne 15, 3) := by decide +kernel
theorem dX2_fetch_45 : decode cX2_fetch 45 = .ok (.aload_n 0, 1) := by decide +kernel
theorem dX2_fetch_46 : decode cX2_fetch 46 = .ok (.getfield 18, 3) := by decide +kernel
theorem dX2_fetch_49 : decode cX2_fetch 49 = .ok (.iload_n 1, 1) := by decide +kernel
theorem dX2_fetch_50 : decode cX2_fetch 50 = .ok (.iload_n 2, 1) := by decide +kernel
theorem dX2_fetch_51 : decode cX2_fetch 51 = .ok (.invokevirtual 61, 3) := by decide +kernel
theorem dX2_fetch_54 : decode cX2_fetch 54 = .ok (.goto 4, 3) := by decide +kernel
theorem dX2_fetch_57 : decode cX2_fetch 57 = .ok (.iconst 0, 1) := by decide +kernel
theorem dX2_fetch_58 : decode cX2_fetch 58 = .ok (.ireturn, 1) := by decide +kernel
theorem dX2_takeNext_0 : decode cX2_takeNext 0 = .ok (.aload_n 0, 1) := by decide +kernel
theorem dX2_takeNext_1 : decode cX2_takeNext 1 = .ok (.aload_n 0, 1) := by decide +kernel
theorem dX2_takeNext_2 : decode cX2_takeNext 2 = .ok (.bipush 7, 2) := by decide +kernel
theorem dX2_takeNext_4 : decode cX2_takeNext 4 = .ok (.iconst 2, 1) := by decide +kernel
theorem dX2_takeNext_5 : decode cX2_takeNext 5 = .ok (.invokevirtual 43, 3) := by decide +kernel
theorem dX2_takeNext_8 : decode cX2_takeNext 8 = .ok (.ldc 46, 2) := by decide +kernel
theorem dX2_takeNext_10 : decode cX2_takeNext 10 = .ok (.invokevirtual 47, 3) := by decide +kernel
theorem dX2_takeNext_13 : decode cX2_takeNext 13 = .ok (.ireturn, 1) := by decide +kernel
theorem dX2_grow_0 : decode cX2_grow 0 = .ok (.aload_n 0, 1) := by decide +kernel
theorem dX2_grow_1 : decode cX2_grow 1 = .ok (.getfield 9, 3) := by decide +kernel
theorem dX2_grow_4 : decode cX2_grow 4 = .ok (.iload_n 1, 1) := by decide +kernel
theorem dX2_grow_5 : decode cX2_grow 5 = .ok (.iaload, 1) := by decide +kernel
theorem dX2_grow_6 : decode cX2_grow 6 = .ok (.istore_n 3, 1) := by decide +kernel
theorem dX2_grow_7 : decode cX2_grow 7 = .ok (.aload_n 0, 1) := by decide +kernel
theorem dX2_grow_8 : decode cX2_grow 8 = .ok (.getfield 9, 3) := by decide +kernel
theorem dX2_grow_11 : decode cX2_grow 11 = .ok (.iload_n 1, 1) := by decide +kernel
theorem dX2_grow_12 : decode cX2_grow 12 = .ok (.iload_n 3, 1) := by decide +kernel
theorem dX2_grow_13 : decode cX2_grow 13 = .ok (.iload_n 2, 1) := by decide +kernel
theorem dX2_grow_14 : decode cX2_grow 14 = .ok (.iadd, 1) := by decide +kernel
theorem dX2_grow_15 : decode cX2_grow 15 = .ok (.ldc 46, 2) := by decide +kernel
theorem dX2_grow_17 : decode cX2_grow 17 = .ok (.iand, 1) := by decide +kernel
theorem dX2_grow_18 : decode cX2_grow 18 = .ok (.iastore, 1) := by decide +kernel
theorem dX2_grow_19 : decode cX2_grow 19 = .ok (.iload_n 3, 1) := by decide +kernel
theorem dX2_grow_20 : decode cX2_grow 20 = .ok (.ireturn, 1) := by decide +kernel
theorem dX3_init_0 : decode cX3_init 0 = .ok (.aload_n 0, 1) := by decide +kernel
theorem dX3_init_1 : decode cX3_init 1 = .ok (.invokespecial 3, 3) := by decide +kernel
theorem dX3_init_4 : decode cX3_init 4 = .ok (.aload_n 0, 1) := by decide +kernel
theorem dX3_init_5 : decode cX3_init 5 = .ok (.new 9, 3) := by decide +kernel
theorem dX3_init_8 : decode cX3_init 8 = .ok (.dup, 1) := by decide +kernel
theorem dX3_init_9 : decode cX3_init 9 = .ok (.invokespecial 11, 3) := by decide +kernel
theorem dX3_init_12 : decode cX3_init 12 = .ok (.putfield 12, 3) := by decide +kernel
theorem dX3_init_15 : decode cX3_init 15 = .ok (.aload_n 0, 1) := by decide +kernel
theorem dX3_init_16 : decode cX3_init 16 = .ok (.new 18, 3) := by decide +kernel
theorem dX3_init_19 : decode cX3_init 19 = .ok (.dup, 1) := by decide +kernel
theorem dX3_init_20 : decode cX3_init 20 = .ok (.aload_n 1, 1) := by decide +kernel
theorem dX3_init_21 : decode cX3_init 21 = .ok (.invokespecial 20, 3) := by decide +kernel
theorem dX3_init_24 : decode cX3_init 24 = .ok (.putfield 23, 3) := by decide +kernel
theorem dX3_init_27 : decode cX3_init 27 = .ok (.return_, 1) := by decide +kernel
theorem dX3_empty_0 : decode cX3_empty 0 = .ok (.aload_n 0, 1) := by decide +kernel
theorem dX3_empty_1 : decode cX3_empty 1 = .ok (.getfield 23, 3) := by decide +kernel
theorem dX3_empty_4 : decode cX3_empty 4 = .ok (.invokevirtual 27, 3) := by decide +kernel
theorem dX3_empty_7 : decode cX3_empty 7 = .ok (.aload_n 0, 1) := by decide +kernel
theorem dX3_empty_8 : decode cX3_empty 8 = .ok (.getfield 12, 3) := by decide +kernel
theorem dX3_empty_11 : decode cX3_empty 11 = .ok (.iconst 0, 1) := by decide +kernel
theorem dX3_empty_12 : decode cX3_empty 12 = .ok (.invokevirtual 30, 3) := by decide +kernel
theorem dX3_empty_15 : decode cX3_empty 15 = .ok (.return_, 1) := by decide +kernel
theorem dX3_step_0 : decode cX3_step 0 = .ok (.aload_n 0, 1) := by decide +kernel
theorem dX3_step_1 : decode cX3_step 1 = .ok (.getfield 23, 3) := by decide +kernel
theorem dX3_step_4 : decode cX3_step 4 = .ok (.invokevirtual 34, 3) := by decide +kernel
theorem dX3_step_7 : decode cX3_step 7 = .ok (.aload_n 0, 1) := by decide +kernel
theorem dX3_step_8 : decode cX3_step 8 = .ok (.getfield 12, 3) := by decide +kernel
theorem dX3_step_11 : decode cX3_step 11 = .ok (.invokevirtual 37, 3) := by decide +kernel
theorem dX3_step_14 : decode cX3_step 14 = .ok (.istore_n 1, 1) := by decide +kernel
theorem dX3_step_15 : decode cX3_step 15 = .ok (.aload_n 0, 1) := by decide +kernel
theorem dX3_step_16 : decode cX3_step 16 = .ok (.getfield 23, 3) := by decide +kernel
theorem dX3_step_19 : decode cX3_step 19 = .ok (.invokevirtual 41, 3) := by decide +kernel
theorem dX3_step_22 : decode cX3_step 22 = .ok (.istore_n 2, 1) := by decide +kernel
theorem dX3_step_23 : decode cX3_step 23 = .ok (.aload_n 0, 1) := by decide +kernel
theorem dX3_step_24 : decode cX3_step 24 = .ok (.getfield 23, 3) := by decide +kernel
theorem dX3_step_27 : decode cX3_step 27 = .ok (.getfield 44, 3) := by decide +kernel
theorem dX3_step_30 : decode cX3_step 30 = .ok (.ifCond .ne 63, 3) := by decide +kernel
theorem dX3_step_33 : decode cX3_step 33 = .ok (.iload_n 2, 1) := by decide +kernel
theorem dX3_step_34 : decode cX3_step 34 = .ok (.ifCond .ne 5, 3) := by decide +kernel
theorem dX3_step_37 : decode cX3_step 37 = .ok (.iconst 1, 1) := by decide +kernel
theorem dX3_step_38 : decode cX3_step 38 = .ok (.ireturn, 1) := by decide +kernel
theorem dX3_step_39 : decode cX3_step 39 = .ok (.iload_n 2, 1) := by decide +kernel
theorem dX3_step_40 : decode cX3_step 40 = .ok (.bipush 12, 2) := by decide +kernel
theorem dX3_step_42 : decode cX3_step 42 = .ok (.ishr, 1) := by decide +kernel
theorem dX3_step_43 : decode cX3_step 43 = .ok (.bipush 7, 2) := by decide +kernel
theorem dX3_step_45 : decode cX3_step 45 = .ok (.iand, 1) := by decide +kernel
theorem dX3_step_46 : decode cX3_step 46 = .ok (.istore_n 3, 1) := by decide +kernel
theorem dX3_step_47 : decode cX3_step 47 = .ok (.iload_n 3, 1) := by decide +kernel
theorem dX3_step_48 : decode cX3_step 48 = .ok (.ifCond .ne 11, 3) := by decide +kernel
theorem dX3_step_51 : decode cX3_step 51 = .ok (.aload_n 0, 1) := by decide +kernel
theorem dX3_step_52 : decode cX3_step 52 = .ok (.iload_n 2, 1) := by decide +kernel
theorem dX3_step_53 : decode cX3_step 53 = .ok (.invokevirtual 48, 3) := by decide +kernel
theorem dX3_step_56 : decode cX3_step 56 = .ok (.goto 37, 3) := by decide +kernel
theorem dX3_step_59 : decode cX3_step 59 = .ok (.iload_n 3, 1) := by decide +kernel
theorem dX3_step_60 : decode cX3_step 60 = .ok (.bipush 6, 2) := by decide +kernel
theorem dX3_step_62 : decode cX3_step 62 = .ok (.if_icmp .ne 11, 3) := by decide +kernel
theorem dX3_step_65 : decode cX3_step 65 = .ok (.aload_n 0, 1) := by decide +kernel
theorem dX3_step_66 : decode cX3_step 66 = .ok (.iload_n 2, 1) := by decide +kernel
theorem dX3_step_67 : decode cX3_step 67 = .ok (.invokevirtual 51, 3) := by decide +kernel
theorem dX3_step_70 : decode cX3_step 70 = .ok (.goto 23, 3) := by decide +kernel
theorem dX3_step_73 : decode cX3_step 73 = .ok (.iload_n 3, 1) := by decide +kernel
theorem dX3_step_74 : decode cX3_step 74 = .ok (.bipush 7, 2) := by decide +kernel
theorem dX3_step_76 : decode cX3_step 76 = .ok (.if_icmp .ne 11, 3) := by decide +kernel
theorem dX3_step_79 : decode cX3_step 79 = .ok (.aload_n 0, 1) := by decide +kernel
theorem dX3_step_80 : decode cX3_step 80 = .ok (.iload_n 2, 1) := by decide +kernel
theorem dX3_step_81 : decode cX3_step 81 = .ok (.invokevirtual 54, 3) := by decide +kernel
theorem dX3_step_84 : decode cX3_step 84 = .ok (.goto 9, 3) := by decide +kernel
theorem dX3_step_87 : decode cX3_step 87 = .ok (.aload_n 0, 1) := by decide +kernel
theorem dX3_step_88 : decode cX3_step 88 = .ok (.iload_n 2, 1) := by decide +kernel
theorem dX3_step_89 : decode cX3_step 89 = .ok (.iload_n 3, 1) := by decide +kernel
theorem dX3_step_90 : decode cX3_step 90 = .ok (.invokevirtual 57, 3) := by decide +kernel
theorem dX3_step_93 : decode cX3_step 93 = .ok (.aload_n 0, 1) := by decide +kernel
theorem dX3_step_94 : decode cX3_step 94 = .ok (.getfield 23, 3) := by decide +kernel
theorem dX3_step_97 : decode cX3_step 97 = .ok (.getfield 44, 3) := by decide +kernel
theorem dX3_step_100 : decode cX3_step 100 = .ok (.ifCond .eq 18, 3) := by decide +kernel
theorem dX3_step_103 : decode cX3_step 103 = .ok (.aload_n 0, 1) := by decide +kernel
theorem dX3_step_104 : decode cX3_step 104 = .ok (.getfield 23, 3) := by decide +kernel
theorem dX3_step_107 : decode cX3_step 107 = .ok (.invokevirtual 61, 3) := by decide +kernel
theorem dX3_step_110 : decode cX3_step 110 = .ok (.aload_n 0, 1) := by decide +kernel
theorem dX3_step_111 : decode cX3_step 111 = .ok (.getfield 12, 3) := by decide +kernel
theorem dX3_step_114 : decode cX3_step 114 = .ok (.iload_n 1, 1) := by decide +kernel
theorem dX3_step_115 : decode cX3_step 115 = .ok (.invokevirtual 30, 3) := by decide +kernel
theorem dX3_step_118 : decode cX3_step 118 = .ok (.aload_n 0, 1) := by decide +kernel
theorem dX3_step_119 : decode cX3_step 119 = .ok (.getfield 23, 3) := by decide +kernel
theorem dX3_step_122 : decode cX3_step 122 = .ok (.getfield 44, 3) := by decide +kernel
theorem dX3_step_125 : decode cX3_step 125 = .ok (.ireturn, 1) := by decide +kernel
theorem dX4_init_0 : decode cX4_init 0 = .ok (.aload_n 0, 1) := by decide +kernel
theorem dX4_init_1 : decode cX4_init 1 = .ok (.invokespecial 3, 3) := by decide +kernel
theorem dX4_init_4 : decode cX4_init 4 = .ok (.aload_n 0, 1) := by decide +kernel
theorem dX4_init_5 : decode cX4_init 5 = .ok (.new 9, 3) := by decide +kernel
theorem dX4_init_8 : decode cX4_init 8 = .ok (.dup, 1) := by decide +kernel
theorem dX4_init_9 : decode cX4_init 9 = .ok (.invokespecial 11, 3) := by decide +kernel
theorem dX4_init_12 : decode cX4_init 12 = .ok (.putfield 12, 3) := by decide +kernel
theorem dX4_init_15 : decode cX4_init 15 = .ok (.aload_n 0, 1) := by decide +kernel
theorem dX4_init_16 : decode cX4_init 16 = .ok (.new 16, 3) := by decide +kernel
theorem dX4_init_19 : decode cX4_init 19 = .ok (.dup, 1) := by decide +kernel
theorem dX4_init_20 : decode cX4_init 20 = .ok (.aload_n 0, 1) := by decide +kernel
theorem dX4_init_21 : decode cX4_init 21 = .ok (.getfield 12, 3) := by decide +kernel
theorem dX4_init_24 : decode cX4_init 24 = .ok (.invokespecial 18, 3) := by decide +kernel
theorem dX4_init_27 : decode cX4_init 27 = .ok (.putfield 21, 3) := by decide +kernel
theorem dX4_init_30 : decode cX4_init 30 = .ok (.return_, 1) := by decide +kernel
theorem dX4_load_0 : decode cX4_load 0 = .ok (.aload_n 0, 1) := by decide +kernel
theorem dX4_load_1 : decode cX4_load 1 = .ok (.iload_n 1, 1) := by decide +kernel
theorem dX4_load_2 : decode cX4_load 2 = .ok (.invokevirtual 25, 3) := by decide +kernel
theorem dX4_load_5 : decode cX4_load 5 = .ok (.aload_n 0, 1) := by decide +kernel
theorem dX4_load_6 : decode cX4_load 6 = .ok (.getfield 12, 3) := by decide +kernel
theorem dX4_load_9 : decode cX4_load 9 = .ok (.iload_n 1, 1) := by decide +kernel
theorem dX4_load_10 : decode cX4_load 10 = .ok (.iload_n 2, 1) := by decide +kernel
theorem dX4_load_11 : decode cX4_load 11 = .ok (.invokevirtual 29, 3) := by decide +kernel
theorem dX4_load_14 : decode cX4_load 14 = .ok (.aload_n 0, 1) := by decide +kernel
theorem dX4_load_15 : decode cX4_load 15 = .ok (.getfield 12, 3) := by decide +kernel
theorem dX4_load_18 : decode cX4_load 18 = .ok (.iload_n 1, 1) := by decide +kernel
theorem dX4_load_19 : decode cX4_load 19 = .ok (.iconst 4, 1) := by decide +kernel
theorem dX4_load_20 : decode cX4_load 20 = .ok (.iadd, 1) := by decide +kernel
theorem dX4_load_21 : decode cX4_load 21 = .ok (.iload_n 3, 1) := by decide +kernel
theorem dX4_load_22 : decode cX4_load 22 = .ok (.invokevirtual 29, 3) := by decide +kernel
theorem dX4_load_25 : decode cX4_load 25 = .ok (.iadd, 1) := by decide +kernel
theorem dX4_load_26 : decode cX4_load 26 = .ok (.aload_n 0, 1) := by decide +kernel
theorem dX4_load_27 : decode cX4_load 27 = .ok (.getfield 12, 3) := by decide +kernel
theorem dX4_load_30 : decode cX4_load 30 = .ok (.iload_n 1, 1) := by decide +kernel
theorem dX4_load_31 : decode cX4_load 31 = .ok (.bipush 8, 2) := by decide +kernel
theorem dX4_load_33 : decode cX4_load 33 = .ok (.iadd, 1) := by decide +kernel
theorem dX4_load_34 : decode cX4_load 34 = .ok (.iload 4, 2) := by decide +kernel
theorem dX4_load_36 : decode cX4_load 36 = .ok (.invokevirtual 29, 3) := by decide +kernel
theorem dX4_load_39 : decode cX4_load 39 = .ok (.iadd, 1) := by decide +kernel
theorem dX4_load_40 : decode cX4_load 40 = .ok (.aload_n 0, 1) := by decide +kernel
theorem dX4_load_41 : decode cX4_load 41 = .ok (.getfield 12, 3) := by decide +kernel
theorem dX4_load_44 : decode cX4_load 44 = .ok (.iload_n 1, 1) := by decide +kernel
theorem dX4_load_45 : decode cX4_load 45 = .ok (.bipush 12, 2) := by decide +kernel
theorem dX4_load_47 : decode cX4_load 47 = .ok (.iadd, 1) := by decide +kernel
theorem dX4_load_48 : decode cX4_load 48 = .ok (.iload 5, 2) := by decide +kernel
theorem dX4_load_50 : decode cX4_load 50 = .ok (.invokevirtual 29, 3) := by decide +kernel
theorem dX4_load_53 : decode cX4_load 53 = .ok (.iadd, 1) := by decide +kernel
theorem dX4_load_54 : decode cX4_load 54 = .ok (.aload_n 0, 1) := by decide +kernel
theorem dX4_load_55 : decode cX4_load 55 = .ok (.getfield 12, 3) := by decide +kernel
theorem dX4_load_58 : decode cX4_load 58 = .ok (.iload_n 1, 1) := by decide +kernel
theorem dX4_load_59 : decode cX4_load 59 = .ok (.bipush 16, 2) := by decide +kernel
theorem dX4_load_61 : decode cX4_load 61 = .ok (.iadd, 1) := by decide +kernel
theorem dX4_load_62 : decode cX4_load 62 = .ok (.iload 6, 2) := by decide +kernel
theorem dX4_load_64 : decode cX4_load 64 = .ok (.invokevirtual 29, 3) := by decide +kernel
theorem dX4_load_67 : decode cX4_load 67 = .ok (.iadd, 1) := by decide +kernel
theorem dX4_load_68 : decode cX4_load 68 = .ok (.ireturn, 1) := by decide +kernel
theorem dX4_word_0 : decode cX4_word 0 = .ok (.aload_n 0, 1) := by decide +kernel
theorem dX4_word_1 : decode cX4_word 1 = .ok (.iload_n 1, 1) := by decide +kernel
theorem dX4_word_2 : decode cX4_word 2 = .ok (.invokevirtual 25, 3) := by decide +kernel
theorem dX4_word_5 : decode cX4_word 5 = .ok (.aload_n 0, 1) := by decide +kernel
theorem dX4_word_6 : decode cX4_word 6 = .ok (.getfield 12, 3) := by decide +kernel
theorem dX4_word_9 : decode cX4_word 9 = .ok (.iload_n 1, 1) := by decide +kernel
theorem dX4_word_10 : decode cX4_word 10 = .ok (.ldc 33, 2) := by decide +kernel
end
section
theorem dX4_word_12 : decode cX4_word 12 = .ok (.invokevirtual 34, 3) := by decide +kernel
theorem dX4_word_15 : decode cX4_word 15 = .ok (.ireturn, 1) := by decide +kernel
theorem dX4_poke_0 : decode cX4_poke 0 = .ok (.aload_n 0, 1) := by decide +kernel
theorem dX4_poke_1 : decode cX4_poke 1 = .ok (.iload_n 1, 1) := by decide +kernel
theorem dX4_poke_2 : decode cX4_poke 2 = .ok (.invokevirtual 25, 3) := by decide +kernel
theorem dX4_poke_5 : decode cX4_poke 5 = .ok (.aload_n 0, 1) := by decide +kernel
theorem dX4_poke_6 : decode cX4_poke 6 = .ok (.getfield 12, 3) := by decide +kernel
theorem dX4_poke_9 : decode cX4_poke 9 = .ok (.iload_n 1, 1) := by decide +kernel
theorem dX4_poke_10 : decode cX4_poke 10 = .ok (.ldc 33, 2) := by decide +kernel
theorem dX4_poke_12 : decode cX4_poke 12 = .ok (.invokevirtual 34, 3) := by decide +kernel
theorem dX4_poke_15 : decode cX4_poke 15 = .ok (.istore_n 3, 1) := by decide +kernel
theorem dX4_poke_16 : decode cX4_poke 16 = .ok (.aload_n 0, 1) := by decide +kernel
theorem dX4_poke_17 : decode cX4_poke 17 = .ok (.getfield 12, 3) := by decide +kernel
theorem dX4_poke_20 : decode cX4_poke 20 = .ok (.iload_n 1, 1) := by decide +kernel
theorem dX4_poke_21 : decode cX4_poke 21 = .ok (.iload_n 2, 1) := by decide +kernel
theorem dX4_poke_22 : decode cX4_poke 22 = .ok (.invokevirtual 37, 3) := by decide +kernel
theorem dX4_poke_25 : decode cX4_poke 25 = .ok (.iload_n 3, 1) := by decide +kernel
theorem dX4_poke_26 : decode cX4_poke 26 = .ok (.iload_n 2, 1) := by decide +kernel
theorem dX4_poke_27 : decode cX4_poke 27 = .ok (.ldc 33, 2) := by decide +kernel
theorem dX4_poke_29 : decode cX4_poke 29 = .ok (.iand, 1) := by decide +kernel
theorem dX4_poke_30 : decode cX4_poke 30 = .ok (.if_icmp .eq 7, 3) := by decide +kernel
theorem dX4_poke_33 : decode cX4_poke 33 = .ok (.iconst 1, 1) := by decide +kernel
theorem dX4_poke_34 : decode cX4_poke 34 = .ok (.goto 4, 3) := by decide +kernel
theorem dX4_poke_37 : decode cX4_poke 37 = .ok (.iconst 0, 1) := by decide +kernel
theorem dX4_poke_38 : decode cX4_poke 38 = .ok (.ireturn, 1) := by decide +kernel
theorem dX4_register_0 : decode cX4_register 0 = .ok (.aload_n 0, 1) := by decide +kernel
theorem dX4_register_1 : decode cX4_register 1 = .ok (.iload_n 1, 1) := by decide +kernel
theorem dX4_register_2 : decode cX4_register 2 = .ok (.invokevirtual 41, 3) := by decide +kernel
theorem dX4_register_5 : decode cX4_register 5 = .ok (.aload_n 0, 1) := by decide +kernel
theorem dX4_register_6 : decode cX4_register 6 = .ok (.getfield 21, 3) := by decide +kernel
theorem dX4_register_9 : decode cX4_register 9 = .ok (.getfield 44, 3) := by decide +kernel
theorem dX4_register_12 : decode cX4_register 12 = .ok (.getfield 48, 3) := by decide +kernel
theorem dX4_register_15 : decode cX4_register 15 = .ok (.iload_n 1, 1) := by decide +kernel
theorem dX4_register_16 : decode cX4_register 16 = .ok (.iaload, 1) := by decide +kernel
theorem dX4_register_17 : decode cX4_register 17 = .ok (.ireturn, 1) := by decide +kernel
theorem dX4_put_0 : decode cX4_put 0 = .ok (.aload_n 0, 1) := by decide +kernel
theorem dX4_put_1 : decode cX4_put 1 = .ok (.iload_n 1, 1) := by decide +kernel
theorem dX4_put_2 : decode cX4_put 2 = .ok (.invokevirtual 41, 3) := by decide +kernel
theorem dX4_put_5 : decode cX4_put 5 = .ok (.aload_n 0, 1) := by decide +kernel
theorem dX4_put_6 : decode cX4_put 6 = .ok (.getfield 21, 3) := by decide +kernel
theorem dX4_put_9 : decode cX4_put 9 = .ok (.getfield 44, 3) := by decide +kernel
theorem dX4_put_12 : decode cX4_put 12 = .ok (.getfield 48, 3) := by decide +kernel
theorem dX4_put_15 : decode cX4_put 15 = .ok (.iload_n 1, 1) := by decide +kernel
theorem dX4_put_16 : decode cX4_put 16 = .ok (.iload_n 2, 1) := by decide +kernel
theorem dX4_put_17 : decode cX4_put 17 = .ok (.ldc 33, 2) := by decide +kernel
theorem dX4_put_19 : decode cX4_put 19 = .ok (.iand, 1) := by decide +kernel
theorem dX4_put_20 : decode cX4_put 20 = .ok (.iastore, 1) := by decide +kernel
theorem dX4_put_21 : decode cX4_put 21 = .ok (.return_, 1) := by decide +kernel
theorem dX4_flags_0 : decode cX4_flags 0 = .ok (.aload_n 0, 1) := by decide +kernel
theorem dX4_flags_1 : decode cX4_flags 1 = .ok (.getfield 21, 3) := by decide +kernel
theorem dX4_flags_4 : decode cX4_flags 4 = .ok (.getfield 54, 3) := by decide +kernel
theorem dX4_flags_7 : decode cX4_flags 7 = .ok (.invokevirtual 58, 3) := by decide +kernel
theorem dX4_flags_10 : decode cX4_flags 10 = .ok (.ireturn, 1) := by decide +kernel
theorem dX4_flag_0 : decode cX4_flag 0 = .ok (.aload_n 0, 1) := by decide +kernel
theorem dX4_flag_1 : decode cX4_flag 1 = .ok (.getfield 21, 3) := by decide +kernel
theorem dX4_flag_4 : decode cX4_flag 4 = .ok (.getfield 54, 3) := by decide +kernel
theorem dX4_flag_7 : decode cX4_flag 7 = .ok (.iload_n 1, 1) := by decide +kernel
theorem dX4_flag_8 : decode cX4_flag 8 = .ok (.invokevirtual 64, 3) := by decide +kernel
theorem dX4_flag_11 : decode cX4_flag 11 = .ok (.return_, 1) := by decide +kernel
theorem dX4_run_0 : decode cX4_run 0 = .ok (.iload_n 1, 1) := by decide +kernel
theorem dX4_run_1 : decode cX4_run 1 = .ok (.ifCond .lt 10, 3) := by decide +kernel
theorem dX4_run_4 : decode cX4_run 4 = .ok (.iload_n 1, 1) := by decide +kernel
theorem dX4_run_5 : decode cX4_run 5 = .ok (.sipush 5000, 3) := by decide +kernel
theorem dX4_run_8 : decode cX4_run 8 = .ok (.if_icmp .le 11, 3) := by decide +kernel
theorem dX4_run_11 : decode cX4_run 11 = .ok (.new 67, 3) := by decide +kernel
theorem dX4_run_14 : decode cX4_run 14 = .ok (.dup, 1) := by decide +kernel
theorem dX4_run_15 : decode cX4_run 15 = .ok (.invokespecial 69, 3) := by decide +kernel
theorem dX4_run_18 : decode cX4_run 18 = .ok (.athrow, 1) := by decide +kernel
theorem dX4_run_19 : decode cX4_run 19 = .ok (.aload_n 0, 1) := by decide +kernel
theorem dX4_run_20 : decode cX4_run 20 = .ok (.iconst 0, 1) := by decide +kernel
theorem dX4_run_21 : decode cX4_run 21 = .ok (.putfield 70, 3) := by decide +kernel
theorem dX4_run_24 : decode cX4_run 24 = .ok (.iconst 0, 1) := by decide +kernel
theorem dX4_run_25 : decode cX4_run 25 = .ok (.istore_n 2, 1) := by decide +kernel
theorem dX4_run_26 : decode cX4_run 26 = .ok (.iload_n 2, 1) := by decide +kernel
theorem dX4_run_27 : decode cX4_run 27 = .ok (.iload_n 1, 1) := by decide +kernel
theorem dX4_run_28 : decode cX4_run 28 = .ok (.if_icmp .ge 42, 3) := by decide +kernel
theorem dX4_run_31 : decode cX4_run 31 = .ok (.aload_n 0, 1) := by decide +kernel
theorem dX4_run_32 : decode cX4_run 32 = .ok (.getfield 21, 3) := by decide +kernel
theorem dX4_run_35 : decode cX4_run 35 = .ok (.invokevirtual 74, 3) := by decide +kernel
theorem dX4_run_38 : decode cX4_run 38 = .ok (.istore_n 3, 1) := by decide +kernel
theorem dX4_run_39 : decode cX4_run 39 = .ok (.iload_n 3, 1) := by decide +kernel
theorem dX4_run_40 : decode cX4_run 40 = .ok (.ifCond .eq 8, 3) := by decide +kernel
theorem dX4_run_43 : decode cX4_run 43 = .ok (.iload_n 3, 1) := by decide +kernel
theorem dX4_run_44 : decode cX4_run 44 = .ok (.iconst 1, 1) := by decide +kernel
theorem dX4_run_45 : decode cX4_run 45 = .ok (.if_icmp .ne 13, 3) := by decide +kernel
theorem dX4_run_48 : decode cX4_run 48 = .ok (.aload_n 0, 1) := by decide +kernel
theorem dX4_run_49 : decode cX4_run 49 = .ok (.dup, 1) := by decide +kernel
theorem dX4_run_50 : decode cX4_run 50 = .ok (.getfield 70, 3) := by decide +kernel
theorem dX4_run_53 : decode cX4_run 53 = .ok (.iconst 1, 1) := by decide +kernel
theorem dX4_run_54 : decode cX4_run 54 = .ok (.iadd, 1) := by decide +kernel
theorem dX4_run_55 : decode cX4_run 55 = .ok (.putfield 70, 3) := by decide +kernel
theorem dX4_run_58 : decode cX4_run 58 = .ok (.iload_n 3, 1) := by decide +kernel
theorem dX4_run_59 : decode cX4_run 59 = .ok (.ifCond .eq 5, 3) := by decide +kernel
theorem dX4_run_62 : decode cX4_run 62 = .ok (.iload_n 3, 1) := by decide +kernel
theorem dX4_run_63 : decode cX4_run 63 = .ok (.ireturn, 1) := by decide +kernel
theorem dX4_run_64 : decode cX4_run 64 = .ok (.iinc 2 1, 3) := by decide +kernel
theorem dX4_run_67 : decode cX4_run 67 = .ok (.goto (-41), 3) := by decide +kernel
theorem dX4_run_70 : decode cX4_run 70 = .ok (.iconst 0, 1) := by decide +kernel
theorem dX4_run_71 : decode cX4_run 71 = .ok (.ireturn, 1) := by decide +kernel
theorem dX4_steps_0 : decode cX4_steps 0 = .ok (.aload_n 0, 1) := by decide +kernel
theorem dX4_steps_1 : decode cX4_steps 1 = .ok (.getfield 70, 3) := by decide +kernel
theorem dX4_steps_4 : decode cX4_steps 4 = .ok (.ireturn, 1) := by decide +kernel
theorem dX4_output_0 : decode cX4_output 0 = .ok (.iload_n 1, 1) := by decide +kernel
theorem dX4_output_1 : decode cX4_output 1 = .ok (.ifCond .lt 14, 3) := by decide +kernel
theorem dX4_output_4 : decode cX4_output 4 = .ok (.iload_n 1, 1) := by decide +kernel
theorem dX4_output_5 : decode cX4_output 5 = .ok (.aload_n 0, 1) := by decide +kernel
theorem dX4_output_6 : decode cX4_output 6 = .ok (.getfield 12, 3) := by decide +kernel
theorem dX4_output_9 : decode cX4_output 9 = .ok (.getfield 77, 3) := by decide +kernel
theorem dX4_output_12 : decode cX4_output 12 = .ok (.if_icmp .lt 11, 3) := by decide +kernel
theorem dX4_output_15 : decode cX4_output 15 = .ok (.new 80, 3) := by decide +kernel
theorem dX4_output_18 : decode cX4_output 18 = .ok (.dup, 1) := by decide +kernel
theorem dX4_output_19 : decode cX4_output 19 = .ok (.invokespecial 82, 3) := by decide +kernel
theorem dX4_output_22 : decode cX4_output 22 = .ok (.athrow, 1) := by decide +kernel
theorem dX4_output_23 : decode cX4_output 23 = .ok (.aload_n 0, 1) := by decide +kernel
theorem dX4_output_24 : decode cX4_output 24 = .ok (.getfield 12, 3) := by decide +kernel
theorem dX4_output_27 : decode cX4_output 27 = .ok (.getfield 83, 3) := by decide +kernel
theorem dX4_output_30 : decode cX4_output 30 = .ok (.iload_n 1, 1) := by decide +kernel
theorem dX4_output_31 : decode cX4_output 31 = .ok (.iaload, 1) := by decide +kernel
theorem dX4_output_32 : decode cX4_output 32 = .ok (.ireturn, 1) := by decide +kernel
theorem dX4_outputs_0 : decode cX4_outputs 0 = .ok (.aload_n 0, 1) := by decide +kernel
theorem dX4_outputs_1 : decode cX4_outputs 1 = .ok (.getfield 12, 3) := by decide +kernel
theorem dX4_outputs_4 : decode cX4_outputs 4 = .ok (.getfield 77, 3) := by decide +kernel
theorem dX4_outputs_7 : decode cX4_outputs 7 = .ok (.ireturn, 1) := by decide +kernel
theorem dX4_clear_0 : decode cX4_clear 0 = .ok (.aload_n 0, 1) := by decide +kernel
theorem dX4_clear_1 : decode cX4_clear 1 = .ok (.getfield 12, 3) := by decide +kernel
theorem dX4_clear_4 : decode cX4_clear 4 = .ok (.invokevirtual 86, 3) := by decide +kernel
theorem dX4_clear_7 : decode cX4_clear 7 = .ok (.aload_n 0, 1) := by decide +kernel
theorem dX4_clear_8 : decode cX4_clear 8 = .ok (.getfield 21, 3) := by decide +kernel
theorem dX4_clear_11 : decode cX4_clear 11 = .ok (.invokevirtual 89, 3) := by decide +kernel
theorem dX4_clear_14 : decode cX4_clear 14 = .ok (.aload_n 0, 1) := by decide +kernel
theorem dX4_clear_15 : decode cX4_clear 15 = .ok (.iconst 0, 1) := by decide +kernel
theorem dX4_clear_16 : decode cX4_clear 16 = .ok (.putfield 70, 3) := by decide +kernel
theorem dX4_clear_19 : decode cX4_clear 19 = .ok (.return_, 1) := by decide +kernel
theorem dX4_needWordAt_0 : decode cX4_needWordAt 0 = .ok (.aload_n 0, 1) := by decide +kernel
theorem dX4_needWordAt_1 : decode cX4_needWordAt 1 = .ok (.getfield 12, 3) := by decide +kernel
theorem dX4_needWordAt_4 : decode cX4_needWordAt 4 = .ok (.iload_n 1, 1) := by decide +kernel
theorem dX4_needWordAt_5 : decode cX4_needWordAt 5 = .ok (.ldc 33, 2) := by decide +kernel
theorem dX4_needWordAt_7 : decode cX4_needWordAt 7 = .ok (.invokevirtual 90, 3) := by decide +kernel
theorem dX4_needWordAt_10 : decode cX4_needWordAt 10 = .ok (.ifCond .eq 11, 3) := by decide +kernel
theorem dX4_needWordAt_13 : decode cX4_needWordAt 13 = .ok (.new 80, 3) := by decide +kernel
theorem dX4_needWordAt_16 : decode cX4_needWordAt 16 = .ok (.dup, 1) := by decide +kernel
theorem dX4_needWordAt_17 : decode cX4_needWordAt 17 = .ok (.invokespecial 82, 3) := by decide +kernel
theorem dX4_needWordAt_20 : decode cX4_needWordAt 20 = .ok (.athrow, 1) := by decide +kernel
theorem dX4_needWordAt_21 : decode cX4_needWordAt 21 = .ok (.return_, 1) := by decide +kernel
theorem dX4_needRegister_0 : decode cX4_needRegister 0 = .ok (.iload_n 1, 1) := by decide +kernel
theorem dX4_needRegister_1 : decode cX4_needRegister 1 = .ok (.ifCond .lt 9, 3) := by decide +kernel
theorem dX4_needRegister_4 : decode cX4_needRegister 4 = .ok (.iload_n 1, 1) := by decide +kernel
theorem dX4_needRegister_5 : decode cX4_needRegister 5 = .ok (.bipush 8, 2) := by decide +kernel
theorem dX4_needRegister_7 : decode cX4_needRegister 7 = .ok (.if_icmp .lt 11, 3) := by decide +kernel
theorem dX4_needRegister_10 : decode cX4_needRegister 10 = .ok (.new 80, 3) := by decide +kernel
theorem dX4_needRegister_13 : decode cX4_needRegister 13 = .ok (.dup, 1) := by decide +kernel
theorem dX4_needRegister_14 : decode cX4_needRegister 14 = .ok (.invokespecial 82, 3) := by decide +kernel
theorem dX4_needRegister_17 : decode cX4_needRegister 17 = .ok (.athrow, 1) := by decide +kernel
theorem dX4_needRegister_18 : decode cX4_needRegister 18 = .ok (.return_, 1) := by decide +kernel
theorem dX5_init_0 : decode cX5_init 0 = .ok (.aload_n 0, 1) := by decide +kernel
theorem dX5_init_1 : decode cX5_init 1 = .ok (.invokespecial 1, 3) := by decide +kernel
theorem dX5_init_4 : decode cX5_init 4 = .ok (.aload_n 0, 1) := by decide +kernel
theorem dX5_init_5 : decode cX5_init 5 = .ok (.sipush 4096, 3) := by decide +kernel
theorem dX5_init_8 : decode cX5_init 8 = .ok (.newarray .int, 2) := by decide +kernel
theorem dX5_init_10 : decode cX5_init 10 = .ok (.putfield 7, 3) := by decide +kernel
theorem dX5_init_13 : decode cX5_init 13 = .ok (.aload_n 0, 1) := by decide +kernel
theorem dX5_init_14 : decode cX5_init 14 = .ok (.bipush 8, 2) := by decide +kernel
theorem dX5_init_16 : decode cX5_init 16 = .ok (.newarray .int, 2) := by decide +kernel
theorem dX5_init_18 : decode cX5_init 18 = .ok (.putfield 13, 3) := by decide +kernel
theorem dX5_init_21 : decode cX5_init 21 = .ok (.aload_n 0, 1) := by decide +kernel
theorem dX5_init_22 : decode cX5_init 22 = .ok (.sipush 400, 3) := by decide +kernel
theorem dX5_init_25 : decode cX5_init 25 = .ok (.newarray .int, 2) := by decide +kernel
theorem dX5_init_27 : decode cX5_init 27 = .ok (.putfield 16, 3) := by decide +kernel
theorem dX5_init_30 : decode cX5_init 30 = .ok (.aload_n 0, 1) := by decide +kernel
theorem dX5_init_31 : decode cX5_init 31 = .ok (.bipush 8, 2) := by decide +kernel
theorem dX5_init_33 : decode cX5_init 33 = .ok (.newarray .int, 2) := by decide +kernel
theorem dX5_init_35 : decode cX5_init 35 = .ok (.putfield 19, 3) := by decide +kernel
theorem dX5_init_38 : decode cX5_init 38 = .ok (.return_, 1) := by decide +kernel
theorem dX5_thrown_0 : decode cX5_thrown 0 = .ok (.aload_n 0, 1) := by decide +kernel
theorem dX5_thrown_1 : decode cX5_thrown 1 = .ok (.getfield 22, 3) := by decide +kernel
theorem dX5_thrown_4 : decode cX5_thrown 4 = .ok (.ireturn, 1) := by decide +kernel
theorem dX5_isWord_0 : decode cX5_isWord 0 = .ok (.iload_n 0, 1) := by decide +kernel
theorem dX5_isWord_1 : decode cX5_isWord 1 = .ok (.ifCond .lt 20, 3) := by decide +kernel
theorem dX5_isWord_4 : decode cX5_isWord 4 = .ok (.iload_n 0, 1) := by decide +kernel
theorem dX5_isWord_5 : decode cX5_isWord 5 = .ok (.sipush 4096, 3) := by decide +kernel
theorem dX5_isWord_8 : decode cX5_isWord 8 = .ok (.if_icmp .ge 13, 3) := by decide +kernel
theorem dX5_isWord_11 : decode cX5_isWord 11 = .ok (.iload_n 0, 1) := by decide +kernel
theorem dX5_isWord_12 : decode cX5_isWord 12 = .ok (.iconst 2, 1) := by decide +kernel
theorem dX5_isWord_13 : decode cX5_isWord 13 = .ok (.irem, 1) := by decide +kernel
theorem dX5_isWord_14 : decode cX5_isWord 14 = .ok (.ifCond .ne 7, 3) := by decide +kernel
theorem dX5_isWord_17 : decode cX5_isWord 17 = .ok (.iconst 1, 1) := by decide +kernel
theorem dX5_isWord_18 : decode cX5_isWord 18 = .ok (.goto 4, 3) := by decide +kernel
theorem dX5_isWord_21 : decode cX5_isWord 21 = .ok (.iconst 0, 1) := by decide +kernel
theorem dX5_isWord_22 : decode cX5_isWord 22 = .ok (.ireturn, 1) := by decide +kernel
theorem dX5_wordAt_0 : decode cX5_wordAt 0 = .ok (.aload_n 0, 1) := by decide +kernel
theorem dX5_wordAt_1 : decode cX5_wordAt 1 = .ok (.getfield 7, 3) := by decide +kernel
theorem dX5_wordAt_4 : decode cX5_wordAt 4 = .ok (.iload_n 1, 1) := by decide +kernel
theorem dX5_wordAt_5 : decode cX5_wordAt 5 = .ok (.iaload, 1) := by decide +kernel
theorem dX5_wordAt_6 : decode cX5_wordAt 6 = .ok (.aload_n 0, 1) := by decide +kernel
theorem dX5_wordAt_7 : decode cX5_wordAt 7 = .ok (.getfield 7, 3) := by decide +kernel
theorem dX5_wordAt_10 : decode cX5_wordAt 10 = .ok (.iload_n 1, 1) := by decide +kernel
theorem dX5_wordAt_11 : decode cX5_wordAt 11 = .ok (.iconst 1, 1) := by decide +kernel
theorem dX5_wordAt_12 : decode cX5_wordAt 12 = .ok (.iadd, 1) := by decide +kernel
theorem dX5_wordAt_13 : decode cX5_wordAt 13 = .ok (.iaload, 1) := by decide +kernel
theorem dX5_wordAt_14 : decode cX5_wordAt 14 = .ok (.bipush 8, 2) := by decide +kernel
theorem dX5_wordAt_16 : decode cX5_wordAt 16 = .ok (.ishl, 1) := by decide +kernel
theorem dX5_wordAt_17 : decode cX5_wordAt 17 = .ok (.ior, 1) := by decide +kernel
theorem dX5_wordAt_18 : decode cX5_wordAt 18 = .ok (.ireturn, 1) := by decide +kernel
theorem dX5_setWord_0 : decode cX5_setWord 0 = .ok (.aload_n 0, 1) := by decide +kernel
theorem dX5_setWord_1 : decode cX5_setWord 1 = .ok (.getfield 7, 3) := by decide +kernel
theorem dX5_setWord_4 : decode cX5_setWord 4 = .ok (.iload_n 1, 1) := by decide +kernel
theorem dX5_setWord_5 : decode cX5_setWord 5 = .ok (.iload_n 2, 1) := by decide +kernel
theorem dX5_setWord_6 : decode cX5_setWord 6 = .ok (.sipush 255, 3) := by decide +kernel
theorem dX5_setWord_9 : decode cX5_setWord 9 = .ok (.iand, 1) := by decide +kernel
theorem dX5_setWord_10 : decode cX5_setWord 10 = .ok (.iastore, 1) := by decide +kernel
theorem dX5_setWord_11 : decode cX5_setWord 11 = .ok (.aload_n 0, 1) := by decide +kernel
theorem dX5_setWord_12 : decode cX5_setWord 12 = .ok (.getfield 7, 3) := by decide +kernel
theorem dX5_setWord_15 : decode cX5_setWord 15 = .ok (.iload_n 1, 1) := by decide +kernel
theorem dX5_setWord_16 : decode cX5_setWord 16 = .ok (.iconst 1, 1) := by decide +kernel
theorem dX5_setWord_17 : decode cX5_setWord 17 = .ok (.iadd, 1) := by decide +kernel
theorem dX5_setWord_18 : decode cX5_setWord 18 = .ok (.iload_n 2, 1) := by decide +kernel
theorem dX5_setWord_19 : decode cX5_setWord 19 = .ok (.bipush 8, 2) := by decide +kernel
theorem dX5_setWord_21 : decode cX5_setWord 21 = .ok (.ishr, 1) := by decide +kernel
theorem dX5_setWord_22 : decode cX5_setWord 22 = .ok (.sipush 255, 3) := by decide +kernel
theorem dX5_setWord_25 : decode cX5_setWord 25 = .ok (.iand, 1) := by decide +kernel
theorem dX5_setWord_26 : decode cX5_setWord 26 = .ok (.iastore, 1) := by decide +kernel
theorem dX5_setWord_27 : decode cX5_setWord 27 = .ok (.return_, 1) := by decide +kernel
theorem dX5_load_0 : decode cX5_load 0 = .ok (.aload_n 0, 1) := by decide +kernel
theorem dX5_load_1 : decode cX5_load 1 = .ok (.iload_n 1, 1) := by decide +kernel
theorem dX5_load_2 : decode cX5_load 2 = .ok (.invokestatic 26, 3) := by decide +kernel
theorem dX5_load_5 : decode cX5_load 5 = .ok (.ifCond .eq 7, 3) := by decide +kernel
theorem dX5_load_8 : decode cX5_load 8 = .ok (.iconst 0, 1) := by decide +kernel
theorem dX5_load_9 : decode cX5_load 9 = .ok (.goto 4, 3) := by decide +kernel
theorem dX5_load_12 : decode cX5_load 12 = .ok (.iconst 1, 1) := by decide +kernel
theorem dX5_load_13 : decode cX5_load 13 = .ok (.putfield 22, 3) := by decide +kernel
theorem dX5_load_16 : decode cX5_load 16 = .ok (.iconst 0, 1) := by decide +kernel
theorem dX5_load_17 : decode cX5_load 17 = .ok (.istore 7, 2) := by decide +kernel
theorem dX5_load_19 : decode cX5_load 19 = .ok (.iconst 0, 1) := by decide +kernel
theorem dX5_load_20 : decode cX5_load 20 = .ok (.istore 8, 2) := by decide +kernel
theorem dX5_load_22 : decode cX5_load 22 = .ok (.iload 8, 2) := by decide +kernel
theorem dX5_load_24 : decode cX5_load 24 = .ok (.bipush 10, 2) := by decide +kernel
theorem dX5_load_26 : decode cX5_load 26 = .ok (.if_icmp .ge 109, 3) := by decide +kernel
theorem dX5_load_29 : decode cX5_load 29 = .ok (.aload_n 0, 1) := by decide +kernel
theorem dX5_load_30 : decode cX5_load 30 = .ok (.getfield 22, 3) := by decide +kernel
theorem dX5_load_33 : decode cX5_load 33 = .ok (.ifCond .ne 102, 3) := by decide +kernel
theorem dX5_load_36 : decode cX5_load 36 = .ok (.iload 8, 2) := by decide +kernel
theorem dX5_load_38 : decode cX5_load 38 = .ok (.iconst 2, 1) := by decide +kernel
theorem dX5_load_39 : decode cX5_load 39 = .ok (.if_icmp .ge 7, 3) := by decide +kernel
theorem dX5_load_42 : decode cX5_load 42 = .ok (.iload_n 2, 1) := by decide +kernel
theorem dX5_load_43 : decode cX5_load 43 = .ok (.goto 39, 3) := by decide +kernel
theorem dX5_load_46 : decode cX5_load 46 = .ok (.iload 8, 2) := by decide +kernel
theorem dX5_load_48 : decode cX5_load 48 = .ok (.iconst 4, 1) := by decide +kernel
theorem dX5_load_49 : decode cX5_load 49 = .ok (.if_icmp .ge 7, 3) := by decide +kernel
theorem dX5_load_52 : decode cX5_load 52 = .ok (.iload_n 3, 1) := by decide +kernel
theorem dX5_load_53 : decode cX5_load 53 = .ok (.goto 29, 3) := by decide +kernel
theorem dX5_load_56 : decode cX5_load 56 = .ok (.iload 8, 2) := by decide +kernel
theorem dX5_load_58 : decode cX5_load 58 = .ok (.bipush 6, 2) := by decide +kernel
theorem dX5_load_60 : decode cX5_load 60 = .ok (.if_icmp .ge 8, 3) := by decide +kernel
theorem dX5_load_63 : decode cX5_load 63 = .ok (.iload 4, 2) := by decide +kernel
theorem dX5_load_65 : decode cX5_load 65 = .ok (.goto 17, 3) := by decide +kernel
theorem dX5_load_68 : decode cX5_load 68 = .ok (.iload 8, 2) := by decide +kernel
theorem dX5_load_70 : decode cX5_load 70 = .ok (.bipush 8, 2) := by decide +kernel
theorem dX5_load_72 : decode cX5_load 72 = .ok (.if_icmp .ge 8, 3) := by decide +kernel
theorem dX5_load_75 : decode cX5_load 75 = .ok (.iload 5, 2) := by decide +kernel
theorem dX5_load_77 : decode cX5_load 77 = .ok (.goto 5, 3) := by decide +kernel
theorem dX5_load_80 : decode cX5_load 80 = .ok (.iload 6, 2) := by decide +kernel
theorem dX5_load_82 : decode cX5_load 82 = .ok (.istore 9, 2) := by decide +kernel
theorem dX5_load_84 : decode cX5_load 84 = .ok (.iload_n 1, 1) := by decide +kernel
theorem dX5_load_85 : decode cX5_load 85 = .ok (.iconst 2, 1) := by decide +kernel
theorem dX5_load_86 : decode cX5_load 86 = .ok (.iload 8, 2) := by decide +kernel
theorem dX5_load_88 : decode cX5_load 88 = .ok (.imul, 1) := by decide +kernel
theorem dX5_load_89 : decode cX5_load 89 = .ok (.iadd, 1) := by decide +kernel
theorem dX5_load_90 : decode cX5_load 90 = .ok (.sipush 4096, 3) := by decide +kernel
theorem dX5_load_93 : decode cX5_load 93 = .ok (.if_icmp .ge 36, 3) := by decide +kernel
theorem dX5_load_96 : decode cX5_load 96 = .ok (.aload_n 0, 1) := by decide +kernel
theorem dX5_load_97 : decode cX5_load 97 = .ok (.iload_n 1, 1) := by decide +kernel
theorem dX5_load_98 : decode cX5_load 98 = .ok (.iconst 2, 1) := by decide +kernel
theorem dX5_load_99 : decode cX5_load 99 = .ok (.iload 8, 2) := by decide +kernel
theorem dX5_load_101 : decode cX5_load 101 = .ok (.imul, 1) := by decide +kernel
theorem dX5_load_102 : decode cX5_load 102 = .ok (.iadd, 1) := by decide +kernel
theorem dX5_load_103 : decode cX5_load 103 = .ok (.iload 8, 2) := by decide +kernel
theorem dX5_load_105 : decode cX5_load 105 = .ok (.iconst 2, 1) := by decide +kernel
theorem dX5_load_106 : decode cX5_load 106 = .ok (.irem, 1) := by decide +kernel
theorem dX5_load_107 : decode cX5_load 107 = .ok (.ifCond .ne 11, 3) := by decide +kernel
theorem dX5_load_110 : decode cX5_load 110 = .ok (.iload 9, 2) := by decide +kernel
theorem dX5_load_112 : decode cX5_load 112 = .ok (.bipush 16, 2) := by decide +kernel
theorem dX5_load_114 : decode cX5_load 114 = .ok (.iushr, 1) := by decide +kernel
theorem dX5_load_115 : decode cX5_load 115 = .ok (.goto 8, 3) := by decide +kernel
theorem dX5_load_118 : decode cX5_load 118 = .ok (.iload 9, 2) := by decide +kernel
theorem dX5_load_120 : decode cX5_load 120 = .ok (.ldc 30, 2) := by decide +kernel
theorem dX5_load_122 : decode cX5_load 122 = .ok (.iand, 1) := by decide +kernel
theorem dX5_load_123 : decode cX5_load 123 = .ok (.invokevirtual 31, 3) := by decide +kernel
theorem dX5_load_126 : decode cX5_load 126 = .ok (.iinc 7 1, 3) := by decide +kernel
theorem dX5_load_129 : decode cX5_load 129 = .ok (.iinc 8 1, 3) := by decide +kernel
theorem dX5_load_132 : decode cX5_load 132 = .ok (.goto (-110), 3) := by decide +kernel
theorem dX5_load_135 : decode cX5_load 135 = .ok (.iload 7, 2) := by decide +kernel
theorem dX5_load_137 : decode cX5_load 137 = .ok (.ireturn, 1) := by decide +kernel
theorem dX5_word_0 : decode cX5_word 0 = .ok (.aload_n 0, 1) := by decide +kernel
theorem dX5_word_1 : decode cX5_word 1 = .ok (.iload_n 1, 1) := by decide +kernel
theorem dX5_word_2 : decode cX5_word 2 = .ok (.invokestatic 26, 3) := by decide +kernel
theorem dX5_word_5 : decode cX5_word 5 = .ok (.ifCond .eq 7, 3) := by decide +kernel
theorem dX5_word_8 : decode cX5_word 8 = .ok (.iconst 0, 1) := by decide +kernel
theorem dX5_word_9 : decode cX5_word 9 = .ok (.goto 4, 3) := by decide +kernel
theorem dX5_word_12 : decode cX5_word 12 = .ok (.iconst 1, 1) := by decide +kernel
theorem dX5_word_13 : decode cX5_word 13 = .ok (.putfield 22, 3) := by decide +kernel
theorem dX5_word_16 : decode cX5_word 16 = .ok (.aload_n 0, 1) := by decide +kernel
theorem dX5_word_17 : decode cX5_word 17 = .ok (.getfield 22, 3) := by decide +kernel
theorem dX5_word_20 : decode cX5_word 20 = .ok (.ifCond .le 7, 3) := by decide +kernel
theorem dX5_word_23 : decode cX5_word 23 = .ok (.iconst 0, 1) := by decide +kernel
theorem dX5_word_24 : decode cX5_word 24 = .ok (.goto 8, 3) := by decide +kernel
theorem dX5_word_27 : decode cX5_word 27 = .ok (.aload_n 0, 1) := by decide +kernel
theorem dX5_word_28 : decode cX5_word 28 = .ok (.iload_n 1, 1) := by decide +kernel
theorem dX5_word_29 : decode cX5_word 29 = .ok (.invokevirtual 35, 3) := by decide +kernel
theorem dX5_word_32 : decode cX5_word 32 = .ok (.ireturn, 1) := by decide +kernel
theorem dX5_poke_0 : decode cX5_poke 0 = .ok (.aload_n 0, 1) := by decide +kernel
theorem dX5_poke_1 : decode cX5_poke 1 = .ok (.iload_n 1, 1) := by decide +kernel
theorem dX5_poke_2 : decode cX5_poke 2 = .ok (.invokestatic 26, 3) := by decide +kernel
theorem dX5_poke_5 : decode cX5_poke 5 = .ok (.ifCond .eq 7, 3) := by decide +kernel
theorem dX5_poke_8 : decode cX5_poke 8 = .ok (.iconst 0, 1) := by decide +kernel
theorem dX5_poke_9 : decode cX5_poke 9 = .ok (.goto 4, 3) := by decide +kernel
theorem dX5_poke_12 : decode cX5_poke 12 = .ok (.iconst 1, 1) := by decide +kernel
theorem dX5_poke_13 : decode cX5_poke 13 = .ok (.putfield 22, 3) := by decide +kernel
theorem dX5_poke_16 : decode cX5_poke 16 = .ok (.aload_n 0, 1) := by decide +kernel
theorem dX5_poke_17 : decode cX5_poke 17 = .ok (.getfield 22, 3) := by decide +kernel
theorem dX5_poke_20 : decode cX5_poke 20 = .ok (.ifCond .le 5, 3) := by decide +kernel
theorem dX5_poke_23 : decode cX5_poke 23 = .ok (.iconst 0, 1) := by decide +kernel
theorem dX5_poke_24 : decode cX5_poke 24 = .ok (.ireturn, 1) := by decide +kernel
theorem dX5_poke_25 : decode cX5_poke 25 = .ok (.aload_n 0, 1) := by decide +kernel
theorem dX5_poke_26 : decode cX5_poke 26 = .ok (.iload_n 1, 1) := by decide +kernel
theorem dX5_poke_27 : decode cX5_poke 27 = .ok (.invokevirtual 35, 3) := by decide +kernel
theorem dX5_poke_30 : decode cX5_poke 30 = .ok (.iload_n 2, 1) := by decide +kernel
theorem dX5_poke_31 : decode cX5_poke 31 = .ok (.ldc 30, 2) := by decide +kernel
theorem dX5_poke_33 : decode cX5_poke 33 = .ok (.iand, 1) := by decide +kernel
theorem dX5_poke_34 : decode cX5_poke 34 = .ok (.if_icmp .eq 7, 3) := by decide +kernel
theorem dX5_poke_37 : decode cX5_poke 37 = .ok (.iconst 1, 1) := by decide +kernel
theorem dX5_poke_38 : decode cX5_poke 38 = .ok (.goto 4, 3) := by decide +kernel
theorem dX5_poke_41 : decode cX5_poke 41 = .ok (.iconst 0, 1) := by decide +kernel
theorem dX5_poke_42 : decode cX5_poke 42 = .ok (.istore_n 3, 1) := by decide +kernel
theorem dX5_poke_43 : decode cX5_poke 43 = .ok (.aload_n 0, 1) := by decide +kernel
theorem dX5_poke_44 : decode cX5_poke 44 = .ok (.iload_n 1, 1) := by decide +kernel
theorem dX5_poke_45 : decode cX5_poke 45 = .ok (.iload_n 2, 1) := by decide +kernel
theorem dX5_poke_46 : decode cX5_poke 46 = .ok (.invokevirtual 31, 3) := by decide +kernel
theorem dX5_poke_49 : decode cX5_poke 49 = .ok (.iload_n 3, 1) := by decide +kernel
theorem dX5_poke_50 : decode cX5_poke 50 = .ok (.ireturn, 1) := by decide +kernel
theorem dX5_register_0 : decode cX5_register 0 = .ok (.aload_n 0, 1) := by decide +kernel
theorem dX5_register_1 : decode cX5_register 1 = .ok (.iload_n 1, 1) := by decide +kernel
theorem dX5_register_2 : decode cX5_register 2 = .ok (.ifCond .lt 13, 3) := by decide +kernel
theorem dX5_register_5 : decode cX5_register 5 = .ok (.iload_n 1, 1) := by decide +kernel
theorem dX5_register_6 : decode cX5_register 6 = .ok (.bipush 8, 2) := by decide +kernel
theorem dX5_register_8 : decode cX5_register 8 = .ok (.if_icmp .ge 7, 3) := by decide +kernel
theorem dX5_register_11 : decode cX5_register 11 = .ok (.iconst 0, 1) := by decide +kernel
theorem dX5_register_12 : decode cX5_register 12 = .ok (.goto 4, 3) := by decide +kernel
theorem dX5_register_15 : decode cX5_register 15 = .ok (.iconst 1, 1) := by decide +kernel
theorem dX5_register_16 : decode cX5_register 16 = .ok (.putfield 22, 3) := by decide +kernel
theorem dX5_register_19 : decode cX5_register 19 = .ok (.aload_n 0, 1) := by decide +kernel
theorem dX5_register_20 : decode cX5_register 20 = .ok (.getfield 22, 3) := by decide +kernel
theorem dX5_register_23 : decode cX5_register 23 = .ok (.ifCond .le 7, 3) := by decide +kernel
theorem dX5_register_26 : decode cX5_register 26 = .ok (.iconst 0, 1) := by decide +kernel
theorem dX5_register_27 : decode cX5_register 27 = .ok (.goto 9, 3) := by decide +kernel
theorem dX5_register_30 : decode cX5_register 30 = .ok (.aload_n 0, 1) := by decide +kernel
theorem dX5_register_31 : decode cX5_register 31 = .ok (.getfield 13, 3) := by decide +kernel
theorem dX5_register_34 : decode cX5_register 34 = .ok (.iload_n 1, 1) := by decide +kernel
theorem dX5_register_35 : decode cX5_register 35 = .ok (.iaload, 1) := by decide +kernel
theorem dX5_register_36 : decode cX5_register 36 = .ok (.ireturn, 1) := by decide +kernel
theorem dX5_put_0 : decode cX5_put 0 = .ok (.aload_n 0, 1) := by decide +kernel
theorem dX5_put_1 : decode cX5_put 1 = .ok (.iload_n 1, 1) := by decide +kernel
theorem dX5_put_2 : decode cX5_put 2 = .ok (.ifCond .lt 13, 3) := by decide +kernel
theorem dX5_put_5 : decode cX5_put 5 = .ok (.iload_n 1, 1) := by decide +kernel
theorem dX5_put_6 : decode cX5_put 6 = .ok (.bipush 8, 2) := by decide +kernel
theorem dX5_put_8 : decode cX5_put 8 = .ok (.if_icmp .ge 7, 3) := by decide +kernel
theorem dX5_put_11 : decode cX5_put 11 = .ok (.iconst 0, 1) := by decide +kernel
theorem dX5_put_12 : decode cX5_put 12 = .ok (.goto 4, 3) := by decide +kernel
theorem dX5_put_15 : decode cX5_put 15 = .ok (.iconst 1, 1) := by decide +kernel
theorem dX5_put_16 : decode cX5_put 16 = .ok (.putfield 22, 3) := by decide +kernel
theorem dX5_put_19 : decode cX5_put 19 = .ok (.aload_n 0, 1) := by decide +kernel
theorem dX5_put_20 : decode cX5_put 20 = .ok (.getfield 22, 3) := by decide +kernel
theorem dX5_put_23 : decode cX5_put 23 = .ok (.ifCond .ne 13, 3) := by decide +kernel
theorem dX5_put_26 : decode cX5_put 26 = .ok (.aload_n 0, 1) := by decide +kernel
theorem dX5_put_27 : decode cX5_put 27 = .ok (.getfield 13, 3) := by decide +kernel
theorem dX5_put_30 : decode cX5_put 30 = .ok (.iload_n 1, 1) := by decide +kernel
theorem dX5_put_31 : decode cX5_put 31 = .ok (.iload_n 2, 1) := by decide +kernel
theorem dX5_put_32 : decode cX5_put 32 = .ok (.ldc 30, 2) := by decide +kernel
theorem dX5_put_34 : decode cX5_put 34 = .ok (.iand, 1) := by decide +kernel
theorem dX5_put_35 : decode cX5_put 35 = .ok (.iastore, 1) := by decide +kernel
theorem dX5_put_36 : decode cX5_put 36 = .ok (.return_, 1) := by decide +kernel
theorem dX5_flags_0 : decode cX5_flags 0 = .ok (.aload_n 0, 1) := by decide +kernel
theorem dX5_flags_1 : decode cX5_flags 1 = .ok (.iconst 0, 1) := by decide +kernel
theorem dX5_flags_2 : decode cX5_flags 2 = .ok (.putfield 22, 3) := by decide +kernel
theorem dX5_flags_5 : decode cX5_flags 5 = .ok (.aload_n 0, 1) := by decide +kernel
theorem dX5_flags_6 : decode cX5_flags 6 = .ok (.getfield 39, 3) := by decide +kernel
theorem dX5_flags_9 : decode cX5_flags 9 = .ok (.ireturn, 1) := by decide +kernel
theorem dX5_flag_0 : decode cX5_flag 0 = .ok (.aload_n 0, 1) := by decide +kernel
theorem dX5_flag_1 : decode cX5_flag 1 = .ok (.iconst 0, 1) := by decide +kernel
theorem dX5_flag_2 : decode cX5_flag 2 = .ok (.putfield 22, 3) := by decide +kernel
theorem dX5_flag_5 : decode cX5_flag 5 = .ok (.aload_n 0, 1) := by decide +kernel
theorem dX5_flag_6 : decode cX5_flag 6 = .ok (.iload_n 1, 1) := by decide +kernel
theorem dX5_flag_7 : decode cX5_flag 7 = .ok (.bipush 15, 2) := by decide +kernel
theorem dX5_flag_9 : decode cX5_flag 9 = .ok (.iand, 1) := by decide +kernel
theorem dX5_flag_10 : decode cX5_flag 10 = .ok (.putfield 39, 3) := by decide +kernel
theorem dX5_flag_13 : decode cX5_flag 13 = .ok (.return_, 1) := by decide +kernel
theorem dX5_steps_0 : decode cX5_steps 0 = .ok (.aload_n 0, 1) := by decide +kernel
theorem dX5_steps_1 : decode cX5_steps 1 = .ok (.iconst 0, 1) := by decide +kernel
theorem dX5_steps_2 : decode cX5_steps 2 = .ok (.putfield 22, 3) := by decide +kernel
theorem dX5_steps_5 : decode cX5_steps 5 = .ok (.aload_n 0, 1) := by decide +kernel
theorem dX5_steps_6 : decode cX5_steps 6 = .ok (.getfield 42, 3) := by decide +kernel
end
section
theorem dX5_steps_9 : decode cX5_steps 9 = .ok (.ireturn, 1) := by decide +kernel
theorem dX5_output_0 : decode cX5_output 0 = .ok (.aload_n 0, 1) := by decide +kernel
theorem dX5_output_1 : decode cX5_output 1 = .ok (.iload_n 1, 1) := by decide +kernel
theorem dX5_output_2 : decode cX5_output 2 = .ok (.ifCond .lt 15, 3) := by decide +kernel
theorem dX5_output_5 : decode cX5_output 5 = .ok (.iload_n 1, 1) := by decide +kernel
theorem dX5_output_6 : decode cX5_output 6 = .ok (.aload_n 0, 1) := by decide +kernel
theorem dX5_output_7 : decode cX5_output 7 = .ok (.getfield 45, 3) := by decide +kernel
theorem dX5_output_10 : decode cX5_output 10 = .ok (.if_icmp .ge 7, 3) := by decide +kernel
theorem dX5_output_13 : decode cX5_output 13 = .ok (.iconst 0, 1) := by decide +kernel
theorem dX5_output_14 : decode cX5_output 14 = .ok (.goto 4, 3) := by decide +kernel
theorem dX5_output_17 : decode cX5_output 17 = .ok (.iconst 1, 1) := by decide +kernel
theorem dX5_output_18 : decode cX5_output 18 = .ok (.putfield 22, 3) := by decide +kernel
theorem dX5_output_21 : decode cX5_output 21 = .ok (.aload_n 0, 1) := by decide +kernel
theorem dX5_output_22 : decode cX5_output 22 = .ok (.getfield 22, 3) := by decide +kernel
theorem dX5_output_25 : decode cX5_output 25 = .ok (.ifCond .le 7, 3) := by decide +kernel
theorem dX5_output_28 : decode cX5_output 28 = .ok (.iconst 0, 1) := by decide +kernel
theorem dX5_output_29 : decode cX5_output 29 = .ok (.goto 9, 3) := by decide +kernel
theorem dX5_output_32 : decode cX5_output 32 = .ok (.aload_n 0, 1) := by decide +kernel
theorem dX5_output_33 : decode cX5_output 33 = .ok (.getfield 16, 3) := by decide +kernel
theorem dX5_output_36 : decode cX5_output 36 = .ok (.iload_n 1, 1) := by decide +kernel
theorem dX5_output_37 : decode cX5_output 37 = .ok (.iaload, 1) := by decide +kernel
theorem dX5_output_38 : decode cX5_output 38 = .ok (.ireturn, 1) := by decide +kernel
theorem dX5_outputs_0 : decode cX5_outputs 0 = .ok (.aload_n 0, 1) := by decide +kernel
theorem dX5_outputs_1 : decode cX5_outputs 1 = .ok (.iconst 0, 1) := by decide +kernel
theorem dX5_outputs_2 : decode cX5_outputs 2 = .ok (.putfield 22, 3) := by decide +kernel
theorem dX5_outputs_5 : decode cX5_outputs 5 = .ok (.aload_n 0, 1) := by decide +kernel
theorem dX5_outputs_6 : decode cX5_outputs 6 = .ok (.getfield 45, 3) := by decide +kernel
theorem dX5_outputs_9 : decode cX5_outputs 9 = .ok (.ireturn, 1) := by decide +kernel
theorem dX5_clear_0 : decode cX5_clear 0 = .ok (.aload_n 0, 1) := by decide +kernel
theorem dX5_clear_1 : decode cX5_clear 1 = .ok (.iconst 0, 1) := by decide +kernel
theorem dX5_clear_2 : decode cX5_clear 2 = .ok (.putfield 22, 3) := by decide +kernel
theorem dX5_clear_5 : decode cX5_clear 5 = .ok (.iconst 0, 1) := by decide +kernel
theorem dX5_clear_6 : decode cX5_clear 6 = .ok (.istore_n 1, 1) := by decide +kernel
theorem dX5_clear_7 : decode cX5_clear 7 = .ok (.iload_n 1, 1) := by decide +kernel
theorem dX5_clear_8 : decode cX5_clear 8 = .ok (.sipush 4096, 3) := by decide +kernel
theorem dX5_clear_11 : decode cX5_clear 11 = .ok (.if_icmp .ge 16, 3) := by decide +kernel
theorem dX5_clear_14 : decode cX5_clear 14 = .ok (.aload_n 0, 1) := by decide +kernel
theorem dX5_clear_15 : decode cX5_clear 15 = .ok (.getfield 7, 3) := by decide +kernel
theorem dX5_clear_18 : decode cX5_clear 18 = .ok (.iload_n 1, 1) := by decide +kernel
theorem dX5_clear_19 : decode cX5_clear 19 = .ok (.iconst 0, 1) := by decide +kernel
theorem dX5_clear_20 : decode cX5_clear 20 = .ok (.iastore, 1) := by decide +kernel
theorem dX5_clear_21 : decode cX5_clear 21 = .ok (.iinc 1 1, 3) := by decide +kernel
theorem dX5_clear_24 : decode cX5_clear 24 = .ok (.goto (-17), 3) := by decide +kernel
theorem dX5_clear_27 : decode cX5_clear 27 = .ok (.iconst 0, 1) := by decide +kernel
theorem dX5_clear_28 : decode cX5_clear 28 = .ok (.istore_n 1, 1) := by decide +kernel
theorem dX5_clear_29 : decode cX5_clear 29 = .ok (.iload_n 1, 1) := by decide +kernel
theorem dX5_clear_30 : decode cX5_clear 30 = .ok (.bipush 8, 2) := by decide +kernel
theorem dX5_clear_32 : decode cX5_clear 32 = .ok (.if_icmp .ge 16, 3) := by decide +kernel
theorem dX5_clear_35 : decode cX5_clear 35 = .ok (.aload_n 0, 1) := by decide +kernel
theorem dX5_clear_36 : decode cX5_clear 36 = .ok (.getfield 13, 3) := by decide +kernel
theorem dX5_clear_39 : decode cX5_clear 39 = .ok (.iload_n 1, 1) := by decide +kernel
theorem dX5_clear_40 : decode cX5_clear 40 = .ok (.iconst 0, 1) := by decide +kernel
theorem dX5_clear_41 : decode cX5_clear 41 = .ok (.iastore, 1) := by decide +kernel
theorem dX5_clear_42 : decode cX5_clear 42 = .ok (.iinc 1 1, 3) := by decide +kernel
theorem dX5_clear_45 : decode cX5_clear 45 = .ok (.goto (-16), 3) := by decide +kernel
theorem dX5_clear_48 : decode cX5_clear 48 = .ok (.aload_n 0, 1) := by decide +kernel
theorem dX5_clear_49 : decode cX5_clear 49 = .ok (.iconst 0, 1) := by decide +kernel
theorem dX5_clear_50 : decode cX5_clear 50 = .ok (.putfield 39, 3) := by decide +kernel
theorem dX5_clear_53 : decode cX5_clear 53 = .ok (.aload_n 0, 1) := by decide +kernel
theorem dX5_clear_54 : decode cX5_clear 54 = .ok (.iconst 0, 1) := by decide +kernel
theorem dX5_clear_55 : decode cX5_clear 55 = .ok (.putfield 45, 3) := by decide +kernel
theorem dX5_clear_58 : decode cX5_clear 58 = .ok (.aload_n 0, 1) := by decide +kernel
theorem dX5_clear_59 : decode cX5_clear 59 = .ok (.iconst 0, 1) := by decide +kernel
theorem dX5_clear_60 : decode cX5_clear 60 = .ok (.putfield 42, 3) := by decide +kernel
theorem dX5_clear_63 : decode cX5_clear 63 = .ok (.return_, 1) := by decide +kernel
theorem dX5_read_0 : decode cX5_read 0 = .ok (.iload_n 2, 1) := by decide +kernel
theorem dX5_read_1 : decode cX5_read 1 = .ok (.ifCond .ne 18, 3) := by decide +kernel
theorem dX5_read_4 : decode cX5_read 4 = .ok (.iload_n 1, 1) := by decide +kernel
theorem dX5_read_5 : decode cX5_read 5 = .ok (.iconst 2, 1) := by decide +kernel
theorem dX5_read_6 : decode cX5_read 6 = .ok (.irem, 1) := by decide +kernel
theorem dX5_read_7 : decode cX5_read 7 = .ok (.iconst 1, 1) := by decide +kernel
theorem dX5_read_8 : decode cX5_read 8 = .ok (.if_icmp .ne 11, 3) := by decide +kernel
theorem dX5_read_11 : decode cX5_read 11 = .ok (.aload_n 0, 1) := by decide +kernel
theorem dX5_read_12 : decode cX5_read 12 = .ok (.iconst 2, 1) := by decide +kernel
theorem dX5_read_13 : decode cX5_read 13 = .ok (.invokevirtual 51, 3) := by decide +kernel
theorem dX5_read_16 : decode cX5_read 16 = .ok (.goto 15, 3) := by decide +kernel
theorem dX5_read_19 : decode cX5_read 19 = .ok (.iload_n 1, 1) := by decide +kernel
theorem dX5_read_20 : decode cX5_read 20 = .ok (.sipush 4096, 3) := by decide +kernel
theorem dX5_read_23 : decode cX5_read 23 = .ok (.if_icmp .lt 8, 3) := by decide +kernel
theorem dX5_read_26 : decode cX5_read 26 = .ok (.aload_n 0, 1) := by decide +kernel
theorem dX5_read_27 : decode cX5_read 27 = .ok (.iconst 3, 1) := by decide +kernel
theorem dX5_read_28 : decode cX5_read 28 = .ok (.invokevirtual 51, 3) := by decide +kernel
theorem dX5_read_31 : decode cX5_read 31 = .ok (.aload_n 0, 1) := by decide +kernel
theorem dX5_read_32 : decode cX5_read 32 = .ok (.getfield 48, 3) := by decide +kernel
theorem dX5_read_35 : decode cX5_read 35 = .ok (.ifCond .le 7, 3) := by decide +kernel
theorem dX5_read_38 : decode cX5_read 38 = .ok (.iconst 0, 1) := by decide +kernel
theorem dX5_read_39 : decode cX5_read 39 = .ok (.goto 21, 3) := by decide +kernel
theorem dX5_read_42 : decode cX5_read 42 = .ok (.iload_n 2, 1) := by decide +kernel
theorem dX5_read_43 : decode cX5_read 43 = .ok (.ifCond .eq 12, 3) := by decide +kernel
theorem dX5_read_46 : decode cX5_read 46 = .ok (.aload_n 0, 1) := by decide +kernel
theorem dX5_read_47 : decode cX5_read 47 = .ok (.getfield 7, 3) := by decide +kernel
theorem dX5_read_50 : decode cX5_read 50 = .ok (.iload_n 1, 1) := by decide +kernel
theorem dX5_read_51 : decode cX5_read 51 = .ok (.iaload, 1) := by decide +kernel
theorem dX5_read_52 : decode cX5_read 52 = .ok (.goto 8, 3) := by decide +kernel
theorem dX5_read_55 : decode cX5_read 55 = .ok (.aload_n 0, 1) := by decide +kernel
theorem dX5_read_56 : decode cX5_read 56 = .ok (.iload_n 1, 1) := by decide +kernel
theorem dX5_read_57 : decode cX5_read 57 = .ok (.invokevirtual 35, 3) := by decide +kernel
theorem dX5_read_60 : decode cX5_read 60 = .ok (.ireturn, 1) := by decide +kernel
theorem dX5_fetch_0 : decode cX5_fetch 0 = .ok (.aload_n 0, 1) := by decide +kernel
theorem dX5_fetch_1 : decode cX5_fetch 1 = .ok (.aload_n 0, 1) := by decide +kernel
theorem dX5_fetch_2 : decode cX5_fetch 2 = .ok (.getfield 19, 3) := by decide +kernel
theorem dX5_fetch_5 : decode cX5_fetch 5 = .ok (.bipush 7, 2) := by decide +kernel
theorem dX5_fetch_7 : decode cX5_fetch 7 = .ok (.iaload, 1) := by decide +kernel
theorem dX5_fetch_8 : decode cX5_fetch 8 = .ok (.iconst 0, 1) := by decide +kernel
theorem dX5_fetch_9 : decode cX5_fetch 9 = .ok (.invokevirtual 55, 3) := by decide +kernel
theorem dX5_fetch_12 : decode cX5_fetch 12 = .ok (.istore_n 1, 1) := by decide +kernel
theorem dX5_fetch_13 : decode cX5_fetch 13 = .ok (.aload_n 0, 1) := by decide +kernel
theorem dX5_fetch_14 : decode cX5_fetch 14 = .ok (.getfield 19, 3) := by decide +kernel
theorem dX5_fetch_17 : decode cX5_fetch 17 = .ok (.bipush 7, 2) := by decide +kernel
theorem dX5_fetch_19 : decode cX5_fetch 19 = .ok (.aload_n 0, 1) := by decide +kernel
theorem dX5_fetch_20 : decode cX5_fetch 20 = .ok (.getfield 19, 3) := by decide +kernel
theorem dX5_fetch_23 : decode cX5_fetch 23 = .ok (.bipush 7, 2) := by decide +kernel
theorem dX5_fetch_25 : decode cX5_fetch 25 = .ok (.iaload, 1) := by decide +kernel
theorem dX5_fetch_26 : decode cX5_fetch 26 = .ok (.iconst 2, 1) := by decide +kernel
theorem dX5_fetch_27 : decode cX5_fetch 27 = .ok (.iadd, 1) := by decide +kernel
theorem dX5_fetch_28 : decode cX5_fetch 28 = .ok (.ldc 30, 2) := by decide +kernel
theorem dX5_fetch_30 : decode cX5_fetch 30 = .ok (.iand, 1) := by decide +kernel
theorem dX5_fetch_31 : decode cX5_fetch 31 = .ok (.iastore, 1) := by decide +kernel
theorem dX5_fetch_32 : decode cX5_fetch 32 = .ok (.iload_n 1, 1) := by decide +kernel
theorem dX5_fetch_33 : decode cX5_fetch 33 = .ok (.ireturn, 1) := by decide +kernel
theorem dX5_does_0 : decode cX5_does 0 = .ok (.iload_n 1, 1) := by decide +kernel
theorem dX5_does_1 : decode cX5_does 1 = .ok (.bipush 8, 2) := by decide +kernel
theorem dX5_does_3 : decode cX5_does 3 = .ok (.ishr, 1) := by decide +kernel
theorem dX5_does_4 : decode cX5_does 4 = .ok (.istore_n 2, 1) := by decide +kernel
theorem dX5_does_5 : decode cX5_does 5 = .ok (.iload_n 1, 1) := by decide +kernel
theorem dX5_does_6 : decode cX5_does 6 = .ok (.bipush 12, 2) := by decide +kernel
theorem dX5_does_8 : decode cX5_does 8 = .ok (.ishr, 1) := by decide +kernel
theorem dX5_does_9 : decode cX5_does 9 = .ok (.bipush 7, 2) := by decide +kernel
theorem dX5_does_11 : decode cX5_does 11 = .ok (.iand, 1) := by decide +kernel
theorem dX5_does_12 : decode cX5_does 12 = .ok (.istore_n 3, 1) := by decide +kernel
theorem dX5_does_13 : decode cX5_does 13 = .ok (.aload_n 0, 1) := by decide +kernel
theorem dX5_does_14 : decode cX5_does 14 = .ok (.iload_n 1, 1) := by decide +kernel
theorem dX5_does_15 : decode cX5_does 15 = .ok (.sipush 32767, 3) := by decide +kernel
theorem dX5_does_18 : decode cX5_does 18 = .ok (.if_icmp .le 7, 3) := by decide +kernel
theorem dX5_does_21 : decode cX5_does 21 = .ok (.iconst 1, 1) := by decide +kernel
theorem dX5_does_22 : decode cX5_does 22 = .ok (.goto 4, 3) := by decide +kernel
theorem dX5_does_25 : decode cX5_does 25 = .ok (.iconst 0, 1) := by decide +kernel
theorem dX5_does_26 : decode cX5_does 26 = .ok (.putfield 59, 3) := by decide +kernel
theorem dX5_does_29 : decode cX5_does 29 = .ok (.iload_n 3, 1) := by decide +kernel
theorem dX5_does_30 : decode cX5_does 30 = .ok (.ifCond .le 18, 3) := by decide +kernel
theorem dX5_does_33 : decode cX5_does 33 = .ok (.iload_n 3, 1) := by decide +kernel
theorem dX5_does_34 : decode cX5_does 34 = .ok (.bipush 6, 2) := by decide +kernel
theorem dX5_does_36 : decode cX5_does 36 = .ok (.if_icmp .ge 12, 3) := by decide +kernel
theorem dX5_does_39 : decode cX5_does 39 = .ok (.aload_n 0, 1) := by decide +kernel
theorem dX5_does_40 : decode cX5_does 40 = .ok (.iload_n 3, 1) := by decide +kernel
theorem dX5_does_41 : decode cX5_does 41 = .ok (.iload_n 1, 1) := by decide +kernel
theorem dX5_does_42 : decode cX5_does 42 = .ok (.invokevirtual 127, 3) := by decide +kernel
theorem dX5_does_45 : decode cX5_does 45 = .ok (.goto 148, 3) := by decide +kernel
theorem dX5_does_48 : decode cX5_does 48 = .ok (.iload_n 3, 1) := by decide +kernel
theorem dX5_does_49 : decode cX5_does 49 = .ok (.bipush 6, 2) := by decide +kernel
theorem dX5_does_51 : decode cX5_does 51 = .ok (.if_icmp .ne 28, 3) := by decide +kernel
theorem dX5_does_54 : decode cX5_does 54 = .ok (.aload_n 0, 1) := by decide +kernel
theorem dX5_does_55 : decode cX5_does 55 = .ok (.iconst 0, 1) := by decide +kernel
theorem dX5_does_56 : decode cX5_does 56 = .ok (.putfield 59, 3) := by decide +kernel
theorem dX5_does_59 : decode cX5_does 59 = .ok (.aload_n 0, 1) := by decide +kernel
theorem dX5_does_60 : decode cX5_does 60 = .ok (.iload_n 1, 1) := by decide +kernel
theorem dX5_does_61 : decode cX5_does 61 = .ok (.iload_n 1, 1) := by decide +kernel
theorem dX5_does_62 : decode cX5_does 62 = .ok (.sipush 32767, 3) := by decide +kernel
theorem dX5_does_65 : decode cX5_does 65 = .ok (.if_icmp .le 7, 3) := by decide +kernel
theorem dX5_does_68 : decode cX5_does 68 = .ok (.iconst 1, 1) := by decide +kernel
theorem dX5_does_69 : decode cX5_does 69 = .ok (.goto 4, 3) := by decide +kernel
theorem dX5_does_72 : decode cX5_does 72 = .ok (.iconst 0, 1) := by decide +kernel
theorem dX5_does_73 : decode cX5_does 73 = .ok (.invokevirtual 130, 3) := by decide +kernel
theorem dX5_does_76 : decode cX5_does 76 = .ok (.goto 117, 3) := by decide +kernel
theorem dX5_does_79 : decode cX5_does 79 = .ok (.iload_n 2, 1) := by decide +kernel
theorem dX5_does_80 : decode cX5_does 80 = .ok (.ifCond .le 9, 3) := by decide +kernel
theorem dX5_does_83 : decode cX5_does 83 = .ok (.iload_n 2, 1) := by decide +kernel
theorem dX5_does_84 : decode cX5_does 84 = .ok (.bipush 8, 2) := by decide +kernel
theorem dX5_does_86 : decode cX5_does 86 = .ok (.if_icmp .lt 16, 3) := by decide +kernel
theorem dX5_does_89 : decode cX5_does 89 = .ok (.iload_n 2, 1) := by decide +kernel
theorem dX5_does_90 : decode cX5_does 90 = .ok (.bipush 127, 2) := by decide +kernel
theorem dX5_does_92 : decode cX5_does 92 = .ok (.if_icmp .le 36, 3) := by decide +kernel
theorem dX5_does_95 : decode cX5_does 95 = .ok (.iload_n 2, 1) := by decide +kernel
theorem dX5_does_96 : decode cX5_does 96 = .ok (.sipush 136, 3) := by decide +kernel
theorem dX5_does_99 : decode cX5_does 99 = .ok (.if_icmp .ge 29, 3) := by decide +kernel
theorem dX5_does_102 : decode cX5_does 102 = .ok (.aload_n 0, 1) := by decide +kernel
theorem dX5_does_103 : decode cX5_does 103 = .ok (.iconst 0, 1) := by decide +kernel
theorem dX5_does_104 : decode cX5_does 104 = .ok (.putfield 59, 3) := by decide +kernel
theorem dX5_does_107 : decode cX5_does 107 = .ok (.aload_n 0, 1) := by decide +kernel
theorem dX5_does_108 : decode cX5_does 108 = .ok (.iload_n 2, 1) := by decide +kernel
theorem dX5_does_109 : decode cX5_does 109 = .ok (.invokevirtual 134, 3) := by decide +kernel
theorem dX5_does_112 : decode cX5_does 112 = .ok (.ifCond .eq 81, 3) := by decide +kernel
theorem dX5_does_115 : decode cX5_does 115 = .ok (.aload_n 0, 1) := by decide +kernel
theorem dX5_does_116 : decode cX5_does 116 = .ok (.bipush 7, 2) := by decide +kernel
theorem dX5_does_118 : decode cX5_does 118 = .ok (.iconst 2, 1) := by decide +kernel
theorem dX5_does_119 : decode cX5_does 119 = .ok (.iload_n 1, 1) := by decide +kernel
theorem dX5_does_120 : decode cX5_does 120 = .ok (.i2b, 1) := by decide +kernel
theorem dX5_does_121 : decode cX5_does 121 = .ok (.imul, 1) := by decide +kernel
theorem dX5_does_122 : decode cX5_does 122 = .ok (.invokevirtual 69, 3) := by decide +kernel
theorem dX5_does_125 : decode cX5_does 125 = .ok (.goto 68, 3) := by decide +kernel
theorem dX5_does_128 : decode cX5_does 128 = .ok (.iload_n 1, 1) := by decide +kernel
theorem dX5_does_129 : decode cX5_does 129 = .ok (.bipush 6, 2) := by decide +kernel
theorem dX5_does_131 : decode cX5_does 131 = .ok (.ishr, 1) := by decide +kernel
theorem dX5_does_132 : decode cX5_does 132 = .ok (.sipush 511, 3) := by decide +kernel
theorem dX5_does_135 : decode cX5_does 135 = .ok (.iand, 1) := by decide +kernel
theorem dX5_does_136 : decode cX5_does 136 = .ok (.bipush 40, 2) := by decide +kernel
theorem dX5_does_138 : decode cX5_does 138 = .ok (.if_icmp .lt 35, 3) := by decide +kernel
theorem dX5_does_141 : decode cX5_does 141 = .ok (.iload_n 1, 1) := by decide +kernel
theorem dX5_does_142 : decode cX5_does 142 = .ok (.bipush 6, 2) := by decide +kernel
theorem dX5_does_144 : decode cX5_does 144 = .ok (.ishr, 1) := by decide +kernel
theorem dX5_does_145 : decode cX5_does 145 = .ok (.sipush 511, 3) := by decide +kernel
theorem dX5_does_148 : decode cX5_does 148 = .ok (.iand, 1) := by decide +kernel
theorem dX5_does_149 : decode cX5_does 149 = .ok (.bipush 51, 2) := by decide +kernel
theorem dX5_does_151 : decode cX5_does 151 = .ok (.if_icmp .gt 22, 3) := by decide +kernel
theorem dX5_does_154 : decode cX5_does 154 = .ok (.aload_n 0, 1) := by decide +kernel
theorem dX5_does_155 : decode cX5_does 155 = .ok (.iload_n 1, 1) := by decide +kernel
theorem dX5_does_156 : decode cX5_does 156 = .ok (.bipush 6, 2) := by decide +kernel
theorem dX5_does_158 : decode cX5_does 158 = .ok (.ishr, 1) := by decide +kernel
theorem dX5_does_159 : decode cX5_does 159 = .ok (.sipush 511, 3) := by decide +kernel
theorem dX5_does_162 : decode cX5_does 162 = .ok (.iand, 1) := by decide +kernel
theorem dX5_does_163 : decode cX5_does 163 = .ok (.bipush 8, 2) := by decide +kernel
theorem dX5_does_165 : decode cX5_does 165 = .ok (.isub, 1) := by decide +kernel
theorem dX5_does_166 : decode cX5_does 166 = .ok (.iload_n 1, 1) := by decide +kernel
theorem dX5_does_167 : decode cX5_does 167 = .ok (.invokevirtual 137, 3) := by decide +kernel
theorem dX5_does_170 : decode cX5_does 170 = .ok (.goto 23, 3) := by decide +kernel
theorem dX5_does_173 : decode cX5_does 173 = .ok (.aload_n 0, 1) := by decide +kernel
theorem dX5_does_174 : decode cX5_does 174 = .ok (.getfield 59, 3) := by decide +kernel
theorem dX5_does_177 : decode cX5_does 177 = .ok (.ifCond .eq 11, 3) := by decide +kernel
theorem dX5_does_180 : decode cX5_does 180 = .ok (.aload_n 0, 1) := by decide +kernel
theorem dX5_does_181 : decode cX5_does 181 = .ok (.iconst 4, 1) := by decide +kernel
theorem dX5_does_182 : decode cX5_does 182 = .ok (.invokevirtual 51, 3) := by decide +kernel
theorem dX5_does_185 : decode cX5_does 185 = .ok (.goto 8, 3) := by decide +kernel
theorem dX5_does_188 : decode cX5_does 188 = .ok (.aload_n 0, 1) := by decide +kernel
theorem dX5_does_189 : decode cX5_does 189 = .ok (.iload_n 1, 1) := by decide +kernel
theorem dX5_does_190 : decode cX5_does 190 = .ok (.invokevirtual 140, 3) := by decide +kernel
theorem dX5_does_193 : decode cX5_does 193 = .ok (.return_, 1) := by decide +kernel
theorem dX5_others_0 : decode cX5_others 0 = .ok (.iload_n 1, 1) := by decide +kernel
theorem dX5_others_1 : decode cX5_others 1 = .ok (.bipush 6, 2) := by decide +kernel
theorem dX5_others_3 : decode cX5_others 3 = .ok (.ishr, 1) := by decide +kernel
theorem dX5_others_4 : decode cX5_others 4 = .ok (.bipush 7, 2) := by decide +kernel
theorem dX5_others_6 : decode cX5_others 6 = .ok (.iand, 1) := by decide +kernel
theorem dX5_others_7 : decode cX5_others 7 = .ok (.istore_n 2, 1) := by decide +kernel
theorem dX5_others_8 : decode cX5_others 8 = .ok (.iload_n 1, 1) := by decide +kernel
theorem dX5_others_9 : decode cX5_others 9 = .ok (.bipush 9, 2) := by decide +kernel
theorem dX5_others_11 : decode cX5_others 11 = .ok (.ishr, 1) := by decide +kernel
theorem dX5_others_12 : decode cX5_others 12 = .ok (.istore_n 3, 1) := by decide +kernel
theorem dX5_others_13 : decode cX5_others 13 = .ok (.iload_n 1, 1) := by decide +kernel
theorem dX5_others_14 : decode cX5_others 14 = .ok (.ifCond .ne 11, 3) := by decide +kernel
theorem dX5_others_17 : decode cX5_others 17 = .ok (.aload_n 0, 1) := by decide +kernel
theorem dX5_others_18 : decode cX5_others 18 = .ok (.iconst 1, 1) := by decide +kernel
theorem dX5_others_19 : decode cX5_others 19 = .ok (.putfield 143, 3) := by decide +kernel
theorem dX5_others_22 : decode cX5_others 22 = .ok (.goto 241, 3) := by decide +kernel
theorem dX5_others_25 : decode cX5_others 25 = .ok (.iload_n 1, 1) := by decide +kernel
theorem dX5_others_26 : decode cX5_others 26 = .ok (.bipush 6, 2) := by decide +kernel
theorem dX5_others_28 : decode cX5_others 28 = .ok (.ishr, 1) := by decide +kernel
theorem dX5_others_29 : decode cX5_others 29 = .ok (.iconst 1, 1) := by decide +kernel
theorem dX5_others_30 : decode cX5_others 30 = .ok (.if_icmp .ne 13, 3) := by decide +kernel
theorem dX5_others_33 : decode cX5_others 33 = .ok (.aload_n 0, 1) := by decide +kernel
theorem dX5_others_34 : decode cX5_others 34 = .ok (.iconst 0, 1) := by decide +kernel
theorem dX5_others_35 : decode cX5_others 35 = .ok (.iload_n 1, 1) := by decide +kernel
theorem dX5_others_36 : decode cX5_others 36 = .ok (.iconst 0, 1) := by decide +kernel
theorem dX5_others_37 : decode cX5_others 37 = .ok (.invokevirtual 146, 3) := by decide +kernel
theorem dX5_others_40 : decode cX5_others 40 = .ok (.goto 223, 3) := by decide +kernel
theorem dX5_others_43 : decode cX5_others 43 = .ok (.iload_n 1, 1) := by decide +kernel
theorem dX5_others_44 : decode cX5_others 44 = .ok (.bipush 6, 2) := by decide +kernel
theorem dX5_others_46 : decode cX5_others 46 = .ok (.ishr, 1) := by decide +kernel
theorem dX5_others_47 : decode cX5_others 47 = .ok (.iconst 3, 1) := by decide +kernel
theorem dX5_others_48 : decode cX5_others 48 = .ok (.if_icmp .ne 11, 3) := by decide +kernel
theorem dX5_others_51 : decode cX5_others 51 = .ok (.aload_n 0, 1) := by decide +kernel
theorem dX5_others_52 : decode cX5_others 52 = .ok (.iload_n 1, 1) := by decide +kernel
theorem dX5_others_53 : decode cX5_others 53 = .ok (.invokevirtual 150, 3) := by decide +kernel
theorem dX5_others_56 : decode cX5_others 56 = .ok (.goto 207, 3) := by decide +kernel
theorem dX5_others_59 : decode cX5_others 59 = .ok (.iload_n 1, 1) := by decide +kernel
theorem dX5_others_60 : decode cX5_others 60 = .ok (.bipush 6, 2) := by decide +kernel
theorem dX5_others_62 : decode cX5_others 62 = .ok (.ishr, 1) := by decide +kernel
theorem dX5_others_63 : decode cX5_others 63 = .ok (.bipush 55, 2) := by decide +kernel
theorem dX5_others_65 : decode cX5_others 65 = .ok (.if_icmp .ne 11, 3) := by decide +kernel
theorem dX5_others_68 : decode cX5_others 68 = .ok (.aload_n 0, 1) := by decide +kernel
theorem dX5_others_69 : decode cX5_others 69 = .ok (.iload_n 1, 1) := by decide +kernel
theorem dX5_others_70 : decode cX5_others 70 = .ok (.invokevirtual 153, 3) := by decide +kernel
theorem dX5_others_73 : decode cX5_others 73 = .ok (.goto 190, 3) := by decide +kernel
theorem dX5_others_76 : decode cX5_others 76 = .ok (.iload_n 3, 1) := by decide +kernel
theorem dX5_others_77 : decode cX5_others 77 = .ok (.iconst 4, 1) := by decide +kernel
theorem dX5_others_78 : decode cX5_others 78 = .ok (.if_icmp .ne 13, 3) := by decide +kernel
theorem dX5_others_81 : decode cX5_others 81 = .ok (.aload_n 0, 1) := by decide +kernel
theorem dX5_others_82 : decode cX5_others 82 = .ok (.iload_n 2, 1) := by decide +kernel
theorem dX5_others_83 : decode cX5_others 83 = .ok (.iload_n 1, 1) := by decide +kernel
theorem dX5_others_84 : decode cX5_others 84 = .ok (.iconst 1, 1) := by decide +kernel
theorem dX5_others_85 : decode cX5_others 85 = .ok (.invokevirtual 146, 3) := by decide +kernel
theorem dX5_others_88 : decode cX5_others 88 = .ok (.goto 175, 3) := by decide +kernel
theorem dX5_others_91 : decode cX5_others 91 = .ok (.iload_n 3, 1) := by decide +kernel
theorem dX5_others_92 : decode cX5_others 92 = .ok (.bipush 56, 2) := by decide +kernel
theorem dX5_others_94 : decode cX5_others 94 = .ok (.if_icmp .ne 12, 3) := by decide +kernel
theorem dX5_others_97 : decode cX5_others 97 = .ok (.aload_n 0, 1) := by decide +kernel
theorem dX5_others_98 : decode cX5_others 98 = .ok (.iload_n 2, 1) := by decide +kernel
theorem dX5_others_99 : decode cX5_others 99 = .ok (.iload_n 1, 1) := by decide +kernel
theorem dX5_others_100 : decode cX5_others 100 = .ok (.invokevirtual 156, 3) := by decide +kernel
theorem dX5_others_103 : decode cX5_others 103 = .ok (.goto 160, 3) := by decide +kernel
theorem dX5_others_106 : decode cX5_others 106 = .ok (.iload_n 3, 1) := by decide +kernel
theorem dX5_others_107 : decode cX5_others 107 = .ok (.bipush 57, 2) := by decide +kernel
theorem dX5_others_109 : decode cX5_others 109 = .ok (.if_icmp .ne 12, 3) := by decide +kernel
theorem dX5_others_112 : decode cX5_others 112 = .ok (.aload_n 0, 1) := by decide +kernel
theorem dX5_others_113 : decode cX5_others 113 = .ok (.iload_n 2, 1) := by decide +kernel
theorem dX5_others_114 : decode cX5_others 114 = .ok (.iload_n 1, 1) := by decide +kernel
theorem dX5_others_115 : decode cX5_others 115 = .ok (.invokevirtual 159, 3) := by decide +kernel
theorem dX5_others_118 : decode cX5_others 118 = .ok (.goto 145, 3) := by decide +kernel
theorem dX5_others_121 : decode cX5_others 121 = .ok (.iload_n 3, 1) := by decide +kernel
theorem dX5_others_122 : decode cX5_others 122 = .ok (.bipush 58, 2) := by decide +kernel
theorem dX5_others_124 : decode cX5_others 124 = .ok (.if_icmp .ne 12, 3) := by decide +kernel
theorem dX5_others_127 : decode cX5_others 127 = .ok (.aload_n 0, 1) := by decide +kernel
theorem dX5_others_128 : decode cX5_others 128 = .ok (.iload_n 2, 1) := by decide +kernel
theorem dX5_others_129 : decode cX5_others 129 = .ok (.iload_n 1, 1) := by decide +kernel
theorem dX5_others_130 : decode cX5_others 130 = .ok (.invokevirtual 162, 3) := by decide +kernel
theorem dX5_others_133 : decode cX5_others 133 = .ok (.goto 130, 3) := by decide +kernel
theorem dX5_others_136 : decode cX5_others 136 = .ok (.iload_n 3, 1) := by decide +kernel
theorem dX5_others_137 : decode cX5_others 137 = .ok (.bipush 60, 2) := by decide +kernel
theorem dX5_others_139 : decode cX5_others 139 = .ok (.if_icmp .ne 12, 3) := by decide +kernel
theorem dX5_others_142 : decode cX5_others 142 = .ok (.aload_n 0, 1) := by decide +kernel
theorem dX5_others_143 : decode cX5_others 143 = .ok (.iload_n 2, 1) := by decide +kernel
theorem dX5_others_144 : decode cX5_others 144 = .ok (.iload_n 1, 1) := by decide +kernel
theorem dX5_others_145 : decode cX5_others 145 = .ok (.invokevirtual 165, 3) := by decide +kernel
theorem dX5_others_148 : decode cX5_others 148 = .ok (.goto 115, 3) := by decide +kernel
theorem dX5_others_151 : decode cX5_others 151 = .ok (.iload_n 3, 1) := by decide +kernel
theorem dX5_others_152 : decode cX5_others 152 = .ok (.bipush 63, 2) := by decide +kernel
theorem dX5_others_154 : decode cX5_others 154 = .ok (.if_icmp .ne 34, 3) := by decide +kernel
theorem dX5_others_157 : decode cX5_others 157 = .ok (.aload_n 0, 1) := by decide +kernel
theorem dX5_others_158 : decode cX5_others 158 = .ok (.iload_n 2, 1) := by decide +kernel
theorem dX5_others_159 : decode cX5_others 159 = .ok (.iconst (-1), 1) := by decide +kernel
theorem dX5_others_160 : decode cX5_others 160 = .ok (.invokevirtual 69, 3) := by decide +kernel
theorem dX5_others_163 : decode cX5_others 163 = .ok (.aload_n 0, 1) := by decide +kernel
theorem dX5_others_164 : decode cX5_others 164 = .ok (.getfield 19, 3) := by decide +kernel
theorem dX5_others_167 : decode cX5_others 167 = .ok (.iload_n 2, 1) := by decide +kernel
theorem dX5_others_168 : decode cX5_others 168 = .ok (.iaload, 1) := by decide +kernel
theorem dX5_others_169 : decode cX5_others 169 = .ok (.ifCond .eq 94, 3) := by decide +kernel
theorem dX5_others_172 : decode cX5_others 172 = .ok (.aload_n 0, 1) := by decide +kernel
theorem dX5_others_173 : decode cX5_others 173 = .ok (.bipush 7, 2) := by decide +kernel
theorem dX5_others_175 : decode cX5_others 175 = .ok (.bipush (-2), 2) := by decide +kernel
theorem dX5_others_177 : decode cX5_others 177 = .ok (.iload_n 1, 1) := by decide +kernel
theorem dX5_others_178 : decode cX5_others 178 = .ok (.bipush 63, 2) := by decide +kernel
theorem dX5_others_180 : decode cX5_others 180 = .ok (.iand, 1) := by decide +kernel
theorem dX5_others_181 : decode cX5_others 181 = .ok (.imul, 1) := by decide +kernel
theorem dX5_others_182 : decode cX5_others 182 = .ok (.invokevirtual 69, 3) := by decide +kernel
theorem dX5_others_185 : decode cX5_others 185 = .ok (.goto 78, 3) := by decide +kernel
theorem dX5_others_188 : decode cX5_others 188 = .ok (.iload_n 1, 1) := by decide +kernel
theorem dX5_others_189 : decode cX5_others 189 = .ok (.iconst 3, 1) := by decide +kernel
theorem dX5_others_190 : decode cX5_others 190 = .ok (.ishr, 1) := by decide +kernel
theorem dX5_others_191 : decode cX5_others 191 = .ok (.bipush 16, 2) := by decide +kernel
theorem dX5_others_193 : decode cX5_others 193 = .ok (.if_icmp .ne 14, 3) := by decide +kernel
theorem dX5_others_196 : decode cX5_others 196 = .ok (.aload_n 0, 1) := by decide +kernel
theorem dX5_others_197 : decode cX5_others 197 = .ok (.iload_n 1, 1) := by decide +kernel
theorem dX5_others_198 : decode cX5_others 198 = .ok (.bipush 7, 2) := by decide +kernel
theorem dX5_others_200 : decode cX5_others 200 = .ok (.iand, 1) := by decide +kernel
theorem dX5_others_201 : decode cX5_others 201 = .ok (.invokevirtual 168, 3) := by decide +kernel
theorem dX5_others_204 : decode cX5_others 204 = .ok (.goto 59, 3) := by decide +kernel
theorem dX5_others_207 : decode cX5_others 207 = .ok (.iload_n 1, 1) := by decide +kernel
theorem dX5_others_208 : decode cX5_others 208 = .ok (.sipush 160, 3) := by decide +kernel
theorem dX5_others_211 : decode cX5_others 211 = .ok (.if_icmp .lt 47, 3) := by decide +kernel
theorem dX5_others_214 : decode cX5_others 214 = .ok (.iload_n 1, 1) := by decide +kernel
theorem dX5_others_215 : decode cX5_others 215 = .ok (.sipush 192, 3) := by decide +kernel
theorem dX5_others_218 : decode cX5_others 218 = .ok (.if_icmp .ge 40, 3) := by decide +kernel
theorem dX5_others_221 : decode cX5_others 221 = .ok (.aload_n 0, 1) := by decide +kernel
theorem dX5_others_222 : decode cX5_others 222 = .ok (.iload_n 1, 1) := by decide +kernel
theorem dX5_others_223 : decode cX5_others 223 = .ok (.sipush 176, 3) := by decide +kernel
theorem dX5_others_226 : decode cX5_others 226 = .ok (.if_icmp .ge 17, 3) := by decide +kernel
theorem dX5_others_229 : decode cX5_others 229 = .ok (.aload_n 0, 1) := by decide +kernel
theorem dX5_others_230 : decode cX5_others 230 = .ok (.getfield 90, 3) := by decide +kernel
theorem dX5_others_233 : decode cX5_others 233 = .ok (.iload_n 1, 1) := by decide +kernel
theorem dX5_others_234 : decode cX5_others 234 = .ok (.bipush 15, 2) := by decide +kernel
theorem dX5_others_236 : decode cX5_others 236 = .ok (.iand, 1) := by decide +kernel
theorem dX5_others_237 : decode cX5_others 237 = .ok (.iconst (-1), 1) := by decide +kernel
theorem dX5_others_238 : decode cX5_others 238 = .ok (.ixor, 1) := by decide +kernel
theorem dX5_others_239 : decode cX5_others 239 = .ok (.iand, 1) := by decide +kernel
theorem dX5_others_240 : decode cX5_others 240 = .ok (.goto 12, 3) := by decide +kernel
theorem dX5_others_243 : decode cX5_others 243 = .ok (.aload_n 0, 1) := by decide +kernel
theorem dX5_others_244 : decode cX5_others 244 = .ok (.getfield 90, 3) := by decide +kernel
theorem dX5_others_247 : decode cX5_others 247 = .ok (.iload_n 1, 1) := by decide +kernel
theorem dX5_others_248 : decode cX5_others 248 = .ok (.bipush 15, 2) := by decide +kernel
theorem dX5_others_250 : decode cX5_others 250 = .ok (.iand, 1) := by decide +kernel
theorem dX5_others_251 : decode cX5_others 251 = .ok (.ior, 1) := by decide +kernel
theorem dX5_others_252 : decode cX5_others 252 = .ok (.putfield 90, 3) := by decide +kernel
theorem dX5_others_255 : decode cX5_others 255 = .ok (.goto 8, 3) := by decide +kernel
theorem dX5_others_258 : decode cX5_others 258 = .ok (.aload_n 0, 1) := by decide +kernel
theorem dX5_others_259 : decode cX5_others 259 = .ok (.iconst 4, 1) := by decide +kernel
theorem dX5_others_260 : decode cX5_others 260 = .ok (.invokevirtual 51, 3) := by decide +kernel
theorem dX5_others_263 : decode cX5_others 263 = .ok (.return_, 1) := by decide +kernel
theorem dX5_step_0 : decode cX5_step 0 = .ok (.iconst 0, 1) := by decide +kernel
theorem dX5_step_1 : decode cX5_step 1 = .ok (.istore_n 1, 1) := by decide +kernel
theorem dX5_step_2 : decode cX5_step 2 = .ok (.iload_n 1, 1) := by decide +kernel
theorem dX5_step_3 : decode cX5_step 3 = .ok (.bipush 8, 2) := by decide +kernel
theorem dX5_step_5 : decode cX5_step 5 = .ok (.if_icmp .ge 21, 3) := by decide +kernel
theorem dX5_step_8 : decode cX5_step 8 = .ok (.aload_n 0, 1) := by decide +kernel
theorem dX5_step_9 : decode cX5_step 9 = .ok (.getfield 19, 3) := by decide +kernel
theorem dX5_step_12 : decode cX5_step 12 = .ok (.iload_n 1, 1) := by decide +kernel
theorem dX5_step_13 : decode cX5_step 13 = .ok (.aload_n 0, 1) := by decide +kernel
theorem dX5_step_14 : decode cX5_step 14 = .ok (.getfield 13, 3) := by decide +kernel
theorem dX5_step_17 : decode cX5_step 17 = .ok (.iload_n 1, 1) := by decide +kernel
theorem dX5_step_18 : decode cX5_step 18 = .ok (.iaload, 1) := by decide +kernel
theorem dX5_step_19 : decode cX5_step 19 = .ok (.iastore, 1) := by decide +kernel
theorem dX5_step_20 : decode cX5_step 20 = .ok (.iinc 1 1, 3) := by decide +kernel
theorem dX5_step_23 : decode cX5_step 23 = .ok (.goto (-21), 3) := by decide +kernel
theorem dX5_step_26 : decode cX5_step 26 = .ok (.aload_n 0, 1) := by decide +kernel
theorem dX5_step_27 : decode cX5_step 27 = .ok (.aload_n 0, 1) := by decide +kernel
theorem dX5_step_28 : decode cX5_step 28 = .ok (.getfield 39, 3) := by decide +kernel
theorem dX5_step_31 : decode cX5_step 31 = .ok (.putfield 90, 3) := by decide +kernel
theorem dX5_step_34 : decode cX5_step 34 = .ok (.aload_n 0, 1) := by decide +kernel
theorem dX5_step_35 : decode cX5_step 35 = .ok (.iconst 0, 1) := by decide +kernel
theorem dX5_step_36 : decode cX5_step 36 = .ok (.putfield 48, 3) := by decide +kernel
theorem dX5_step_39 : decode cX5_step 39 = .ok (.aload_n 0, 1) := by decide +kernel
theorem dX5_step_40 : decode cX5_step 40 = .ok (.iconst 0, 1) := by decide +kernel
theorem dX5_step_41 : decode cX5_step 41 = .ok (.putfield 80, 3) := by decide +kernel
end
section
theorem dX5_step_44 : decode cX5_step 44 = .ok (.aload_n 0, 1) := by decide +kernel
theorem dX5_step_45 : decode cX5_step 45 = .ok (.iconst 0, 1) := by decide +kernel
theorem dX5_step_46 : decode cX5_step 46 = .ok (.putfield 143, 3) := by decide +kernel
theorem dX5_step_49 : decode cX5_step 49 = .ok (.aload_n 0, 1) := by decide +kernel
theorem dX5_step_50 : decode cX5_step 50 = .ok (.iconst 0, 1) := by decide +kernel
theorem dX5_step_51 : decode cX5_step 51 = .ok (.putfield 59, 3) := by decide +kernel
theorem dX5_step_54 : decode cX5_step 54 = .ok (.aload_n 0, 1) := by decide +kernel
theorem dX5_step_55 : decode cX5_step 55 = .ok (.invokevirtual 72, 3) := by decide +kernel
theorem dX5_step_58 : decode cX5_step 58 = .ok (.istore_n 1, 1) := by decide +kernel
theorem dX5_step_59 : decode cX5_step 59 = .ok (.aload_n 0, 1) := by decide +kernel
theorem dX5_step_60 : decode cX5_step 60 = .ok (.getfield 48, 3) := by decide +kernel
theorem dX5_step_63 : decode cX5_step 63 = .ok (.ifCond .ne 8, 3) := by decide +kernel
theorem dX5_step_66 : decode cX5_step 66 = .ok (.aload_n 0, 1) := by decide +kernel
theorem dX5_step_67 : decode cX5_step 67 = .ok (.iload_n 1, 1) := by decide +kernel
theorem dX5_step_68 : decode cX5_step 68 = .ok (.invokevirtual 171, 3) := by decide +kernel
theorem dX5_step_71 : decode cX5_step 71 = .ok (.aload_n 0, 1) := by decide +kernel
theorem dX5_step_72 : decode cX5_step 72 = .ok (.getfield 48, 3) := by decide +kernel
theorem dX5_step_75 : decode cX5_step 75 = .ok (.ifCond .le 4, 3) := by decide +kernel
theorem dX5_step_78 : decode cX5_step 78 = .ok (.return_, 1) := by decide +kernel
theorem dX5_step_79 : decode cX5_step 79 = .ok (.iconst 0, 1) := by decide +kernel
theorem dX5_step_80 : decode cX5_step 80 = .ok (.istore_n 2, 1) := by decide +kernel
theorem dX5_step_81 : decode cX5_step 81 = .ok (.iload_n 2, 1) := by decide +kernel
theorem dX5_step_82 : decode cX5_step 82 = .ok (.bipush 8, 2) := by decide +kernel
theorem dX5_step_84 : decode cX5_step 84 = .ok (.if_icmp .ge 21, 3) := by decide +kernel
theorem dX5_step_87 : decode cX5_step 87 = .ok (.aload_n 0, 1) := by decide +kernel
theorem dX5_step_88 : decode cX5_step 88 = .ok (.getfield 13, 3) := by decide +kernel
theorem dX5_step_91 : decode cX5_step 91 = .ok (.iload_n 2, 1) := by decide +kernel
theorem dX5_step_92 : decode cX5_step 92 = .ok (.aload_n 0, 1) := by decide +kernel
theorem dX5_step_93 : decode cX5_step 93 = .ok (.getfield 19, 3) := by decide +kernel
theorem dX5_step_96 : decode cX5_step 96 = .ok (.iload_n 2, 1) := by decide +kernel
theorem dX5_step_97 : decode cX5_step 97 = .ok (.iaload, 1) := by decide +kernel
theorem dX5_step_98 : decode cX5_step 98 = .ok (.iastore, 1) := by decide +kernel
theorem dX5_step_99 : decode cX5_step 99 = .ok (.iinc 2 1, 3) := by decide +kernel
theorem dX5_step_102 : decode cX5_step 102 = .ok (.goto (-21), 3) := by decide +kernel
theorem dX5_step_105 : decode cX5_step 105 = .ok (.aload_n 0, 1) := by decide +kernel
theorem dX5_step_106 : decode cX5_step 106 = .ok (.aload_n 0, 1) := by decide +kernel
theorem dX5_step_107 : decode cX5_step 107 = .ok (.getfield 90, 3) := by decide +kernel
theorem dX5_step_110 : decode cX5_step 110 = .ok (.putfield 39, 3) := by decide +kernel
theorem dX5_step_113 : decode cX5_step 113 = .ok (.aload_n 0, 1) := by decide +kernel
theorem dX5_step_114 : decode cX5_step 114 = .ok (.getfield 80, 3) := by decide +kernel
theorem dX5_step_117 : decode cX5_step 117 = .ok (.iconst 1, 1) := by decide +kernel
theorem dX5_step_118 : decode cX5_step 118 = .ok (.if_icmp .ne 23, 3) := by decide +kernel
theorem dX5_step_121 : decode cX5_step 121 = .ok (.aload_n 0, 1) := by decide +kernel
theorem dX5_step_122 : decode cX5_step 122 = .ok (.getfield 7, 3) := by decide +kernel
theorem dX5_step_125 : decode cX5_step 125 = .ok (.aload_n 0, 1) := by decide +kernel
theorem dX5_step_126 : decode cX5_step 126 = .ok (.getfield 77, 3) := by decide +kernel
theorem dX5_step_129 : decode cX5_step 129 = .ok (.aload_n 0, 1) := by decide +kernel
theorem dX5_step_130 : decode cX5_step 130 = .ok (.getfield 83, 3) := by decide +kernel
theorem dX5_step_133 : decode cX5_step 133 = .ok (.sipush 255, 3) := by decide +kernel
theorem dX5_step_136 : decode cX5_step 136 = .ok (.iand, 1) := by decide +kernel
theorem dX5_step_137 : decode cX5_step 137 = .ok (.iastore, 1) := by decide +kernel
theorem dX5_step_138 : decode cX5_step 138 = .ok (.goto 23, 3) := by decide +kernel
theorem dX5_step_141 : decode cX5_step 141 = .ok (.aload_n 0, 1) := by decide +kernel
theorem dX5_step_142 : decode cX5_step 142 = .ok (.getfield 80, 3) := by decide +kernel
theorem dX5_step_145 : decode cX5_step 145 = .ok (.iconst 2, 1) := by decide +kernel
theorem dX5_step_146 : decode cX5_step 146 = .ok (.if_icmp .ne 15, 3) := by decide +kernel
theorem dX5_step_149 : decode cX5_step 149 = .ok (.aload_n 0, 1) := by decide +kernel
theorem dX5_step_150 : decode cX5_step 150 = .ok (.aload_n 0, 1) := by decide +kernel
theorem dX5_step_151 : decode cX5_step 151 = .ok (.getfield 77, 3) := by decide +kernel
theorem dX5_step_154 : decode cX5_step 154 = .ok (.aload_n 0, 1) := by decide +kernel
theorem dX5_step_155 : decode cX5_step 155 = .ok (.getfield 83, 3) := by decide +kernel
theorem dX5_step_158 : decode cX5_step 158 = .ok (.invokevirtual 31, 3) := by decide +kernel
theorem dX5_step_161 : decode cX5_step 161 = .ok (.aload_n 0, 1) := by decide +kernel
theorem dX5_step_162 : decode cX5_step 162 = .ok (.getfield 80, 3) := by decide +kernel
theorem dX5_step_165 : decode cX5_step 165 = .ok (.ifCond .le 68, 3) := by decide +kernel
theorem dX5_step_168 : decode cX5_step 168 = .ok (.aload_n 0, 1) := by decide +kernel
theorem dX5_step_169 : decode cX5_step 169 = .ok (.getfield 77, 3) := by decide +kernel
theorem dX5_step_172 : decode cX5_step 172 = .ok (.sipush 4094, 3) := by decide +kernel
theorem dX5_step_175 : decode cX5_step 175 = .ok (.if_icmp .ne 58, 3) := by decide +kernel
theorem dX5_step_178 : decode cX5_step 178 = .ok (.aload_n 0, 1) := by decide +kernel
theorem dX5_step_179 : decode cX5_step 179 = .ok (.getfield 45, 3) := by decide +kernel
theorem dX5_step_182 : decode cX5_step 182 = .ok (.sipush 400, 3) := by decide +kernel
theorem dX5_step_185 : decode cX5_step 185 = .ok (.if_icmp .ge 48, 3) := by decide +kernel
theorem dX5_step_188 : decode cX5_step 188 = .ok (.aload_n 0, 1) := by decide +kernel
theorem dX5_step_189 : decode cX5_step 189 = .ok (.getfield 16, 3) := by decide +kernel
theorem dX5_step_192 : decode cX5_step 192 = .ok (.aload_n 0, 1) := by decide +kernel
theorem dX5_step_193 : decode cX5_step 193 = .ok (.getfield 45, 3) := by decide +kernel
theorem dX5_step_196 : decode cX5_step 196 = .ok (.aload_n 0, 1) := by decide +kernel
theorem dX5_step_197 : decode cX5_step 197 = .ok (.getfield 80, 3) := by decide +kernel
theorem dX5_step_200 : decode cX5_step 200 = .ok (.iconst 1, 1) := by decide +kernel
theorem dX5_step_201 : decode cX5_step 201 = .ok (.if_icmp .ne 14, 3) := by decide +kernel
theorem dX5_step_204 : decode cX5_step 204 = .ok (.aload_n 0, 1) := by decide +kernel
theorem dX5_step_205 : decode cX5_step 205 = .ok (.getfield 83, 3) := by decide +kernel
theorem dX5_step_208 : decode cX5_step 208 = .ok (.sipush 255, 3) := by decide +kernel
theorem dX5_step_211 : decode cX5_step 211 = .ok (.iand, 1) := by decide +kernel
theorem dX5_step_212 : decode cX5_step 212 = .ok (.goto 10, 3) := by decide +kernel
theorem dX5_step_215 : decode cX5_step 215 = .ok (.aload_n 0, 1) := by decide +kernel
theorem dX5_step_216 : decode cX5_step 216 = .ok (.getfield 83, 3) := by decide +kernel
theorem dX5_step_219 : decode cX5_step 219 = .ok (.ldc 30, 2) := by decide +kernel
theorem dX5_step_221 : decode cX5_step 221 = .ok (.iand, 1) := by decide +kernel
theorem dX5_step_222 : decode cX5_step 222 = .ok (.iastore, 1) := by decide +kernel
theorem dX5_step_223 : decode cX5_step 223 = .ok (.aload_n 0, 1) := by decide +kernel
theorem dX5_step_224 : decode cX5_step 224 = .ok (.dup, 1) := by decide +kernel
theorem dX5_step_225 : decode cX5_step 225 = .ok (.getfield 45, 3) := by decide +kernel
theorem dX5_step_228 : decode cX5_step 228 = .ok (.iconst 1, 1) := by decide +kernel
theorem dX5_step_229 : decode cX5_step 229 = .ok (.iadd, 1) := by decide +kernel
theorem dX5_step_230 : decode cX5_step 230 = .ok (.putfield 45, 3) := by decide +kernel
theorem dX5_step_233 : decode cX5_step 233 = .ok (.aload_n 0, 1) := by decide +kernel
theorem dX5_step_234 : decode cX5_step 234 = .ok (.dup, 1) := by decide +kernel
theorem dX5_step_235 : decode cX5_step 235 = .ok (.getfield 42, 3) := by decide +kernel
theorem dX5_step_238 : decode cX5_step 238 = .ok (.iconst 1, 1) := by decide +kernel
theorem dX5_step_239 : decode cX5_step 239 = .ok (.iadd, 1) := by decide +kernel
theorem dX5_step_240 : decode cX5_step 240 = .ok (.putfield 42, 3) := by decide +kernel
theorem dX5_step_243 : decode cX5_step 243 = .ok (.return_, 1) := by decide +kernel
theorem dX5_run_0 : decode cX5_run 0 = .ok (.aload_n 0, 1) := by decide +kernel
theorem dX5_run_1 : decode cX5_run 1 = .ok (.iload_n 1, 1) := by decide +kernel
theorem dX5_run_2 : decode cX5_run 2 = .ok (.ifCond .lt 10, 3) := by decide +kernel
theorem dX5_run_5 : decode cX5_run 5 = .ok (.iload_n 1, 1) := by decide +kernel
theorem dX5_run_6 : decode cX5_run 6 = .ok (.sipush 5000, 3) := by decide +kernel
theorem dX5_run_9 : decode cX5_run 9 = .ok (.if_icmp .le 7, 3) := by decide +kernel
theorem dX5_run_12 : decode cX5_run 12 = .ok (.iconst 1, 1) := by decide +kernel
theorem dX5_run_13 : decode cX5_run 13 = .ok (.goto 4, 3) := by decide +kernel
theorem dX5_run_16 : decode cX5_run 16 = .ok (.iconst 0, 1) := by decide +kernel
theorem dX5_run_17 : decode cX5_run 17 = .ok (.putfield 22, 3) := by decide +kernel
theorem dX5_run_20 : decode cX5_run 20 = .ok (.aload_n 0, 1) := by decide +kernel
theorem dX5_run_21 : decode cX5_run 21 = .ok (.getfield 22, 3) := by decide +kernel
theorem dX5_run_24 : decode cX5_run 24 = .ok (.ifCond .le 5, 3) := by decide +kernel
theorem dX5_run_27 : decode cX5_run 27 = .ok (.iconst 0, 1) := by decide +kernel
theorem dX5_run_28 : decode cX5_run 28 = .ok (.ireturn, 1) := by decide +kernel
theorem dX5_run_29 : decode cX5_run 29 = .ok (.aload_n 0, 1) := by decide +kernel
theorem dX5_run_30 : decode cX5_run 30 = .ok (.iconst 0, 1) := by decide +kernel
theorem dX5_run_31 : decode cX5_run 31 = .ok (.putfield 42, 3) := by decide +kernel
theorem dX5_run_34 : decode cX5_run 34 = .ok (.iconst 0, 1) := by decide +kernel
theorem dX5_run_35 : decode cX5_run 35 = .ok (.istore_n 2, 1) := by decide +kernel
theorem dX5_run_36 : decode cX5_run 36 = .ok (.iload_n 2, 1) := by decide +kernel
theorem dX5_run_37 : decode cX5_run 37 = .ok (.iload_n 1, 1) := by decide +kernel
theorem dX5_run_38 : decode cX5_run 38 = .ok (.if_icmp .ge 34, 3) := by decide +kernel
theorem dX5_run_41 : decode cX5_run 41 = .ok (.aload_n 0, 1) := by decide +kernel
theorem dX5_run_42 : decode cX5_run 42 = .ok (.invokevirtual 174, 3) := by decide +kernel
theorem dX5_run_45 : decode cX5_run 45 = .ok (.aload_n 0, 1) := by decide +kernel
theorem dX5_run_46 : decode cX5_run 46 = .ok (.getfield 48, 3) := by decide +kernel
theorem dX5_run_49 : decode cX5_run 49 = .ok (.ifCond .le 8, 3) := by decide +kernel
theorem dX5_run_52 : decode cX5_run 52 = .ok (.aload_n 0, 1) := by decide +kernel
theorem dX5_run_53 : decode cX5_run 53 = .ok (.getfield 48, 3) := by decide +kernel
theorem dX5_run_56 : decode cX5_run 56 = .ok (.ireturn, 1) := by decide +kernel
theorem dX5_run_57 : decode cX5_run 57 = .ok (.aload_n 0, 1) := by decide +kernel
theorem dX5_run_58 : decode cX5_run 58 = .ok (.getfield 143, 3) := by decide +kernel
theorem dX5_run_61 : decode cX5_run 61 = .ok (.ifCond .eq 5, 3) := by decide +kernel
theorem dX5_run_64 : decode cX5_run 64 = .ok (.iconst 1, 1) := by decide +kernel
theorem dX5_run_65 : decode cX5_run 65 = .ok (.ireturn, 1) := by decide +kernel
theorem dX5_run_66 : decode cX5_run 66 = .ok (.iinc 2 1, 3) := by decide +kernel
theorem dX5_run_69 : decode cX5_run 69 = .ok (.goto (-33), 3) := by decide +kernel
theorem dX5_run_72 : decode cX5_run 72 = .ok (.iconst 0, 1) := by decide +kernel
theorem dX5_run_73 : decode cX5_run 73 = .ok (.ireturn, 1) := by decide +kernel
theorem dJ7_fill_53178_0 : decode cJ7_fill_53178 0 = .ok (.iconst 0, 1) := by decide +kernel
theorem dJ7_fill_53178_1 : decode cJ7_fill_53178 1 = .ok (.istore_n 2, 1) := by decide +kernel
theorem dJ7_fill_53178_2 : decode cJ7_fill_53178 2 = .ok (.aload_n 0, 1) := by decide +kernel
theorem dJ7_fill_53178_3 : decode cJ7_fill_53178 3 = .ok (.arraylength, 1) := by decide +kernel
theorem dJ7_fill_53178_4 : decode cJ7_fill_53178 4 = .ok (.istore_n 3, 1) := by decide +kernel
theorem dJ7_fill_53178_5 : decode cJ7_fill_53178 5 = .ok (.iload_n 2, 1) := by decide +kernel
theorem dJ7_fill_53178_6 : decode cJ7_fill_53178 6 = .ok (.iload_n 3, 1) := by decide +kernel
theorem dJ7_fill_53178_7 : decode cJ7_fill_53178 7 = .ok (.if_icmp .ge 13, 3) := by decide +kernel
theorem dJ7_fill_53178_10 : decode cJ7_fill_53178 10 = .ok (.aload_n 0, 1) := by decide +kernel
theorem dJ7_fill_53178_11 : decode cJ7_fill_53178 11 = .ok (.iload_n 2, 1) := by decide +kernel
theorem dJ7_fill_53178_12 : decode cJ7_fill_53178 12 = .ok (.iload_n 1, 1) := by decide +kernel
theorem dJ7_fill_53178_13 : decode cJ7_fill_53178 13 = .ok (.iastore, 1) := by decide +kernel
theorem dJ7_fill_53178_14 : decode cJ7_fill_53178 14 = .ok (.iinc 2 1, 3) := by decide +kernel
theorem dJ7_fill_53178_17 : decode cJ7_fill_53178 17 = .ok (.goto (-12), 3) := by decide +kernel
theorem dJ7_fill_53178_20 : decode cJ7_fill_53178 20 = .ok (.return_, 1) := by decide +kernel
theorem dL_load_0 : decode cL_load 0 = .ok (.aload 7, 2) := by decide +kernel
theorem dL_load_2 : decode cL_load 2 = .ok (.iconst 0, 1) := by decide +kernel
theorem dL_load_3 : decode cL_load 3 = .ok (.aload_n 0, 1) := by decide +kernel
theorem dL_load_4 : decode cL_load 4 = .ok (.iload_n 1, 1) := by decide +kernel
theorem dL_load_5 : decode cL_load 5 = .ok (.iload_n 2, 1) := by decide +kernel
theorem dL_load_6 : decode cL_load 6 = .ok (.iload_n 3, 1) := by decide +kernel
theorem dL_load_7 : decode cL_load 7 = .ok (.iload 4, 2) := by decide +kernel
theorem dL_load_9 : decode cL_load 9 = .ok (.iload 5, 2) := by decide +kernel
theorem dL_load_11 : decode cL_load 11 = .ok (.iload 6, 2) := by decide +kernel
theorem dL_load_13 : decode cL_load 13 = .ok (.invokevirtual 7, 3) := by decide +kernel
theorem dL_load_16 : decode cL_load 16 = .ok (.i2l, 1) := by decide +kernel
theorem dL_load_17 : decode cL_load 17 = .ok (.lastore, 1) := by decide +kernel
theorem dL_load_18 : decode cL_load 18 = .ok (.goto 7, 3) := by decide +kernel
theorem dL_load_21 : decode cL_load 21 = .ok (.astore 8, 2) := by decide +kernel
theorem dL_load_23 : decode cL_load 23 = .ok (.iconst 1, 1) := by decide +kernel
theorem dL_load_24 : decode cL_load 24 = .ok (.ireturn, 1) := by decide +kernel
theorem dL_load_25 : decode cL_load 25 = .ok (.iconst 0, 1) := by decide +kernel
theorem dL_load_26 : decode cL_load 26 = .ok (.ireturn, 1) := by decide +kernel
theorem dL_word_0 : decode cL_word 0 = .ok (.aload_n 2, 1) := by decide +kernel
theorem dL_word_1 : decode cL_word 1 = .ok (.iconst 0, 1) := by decide +kernel
theorem dL_word_2 : decode cL_word 2 = .ok (.aload_n 0, 1) := by decide +kernel
theorem dL_word_3 : decode cL_word 3 = .ok (.iload_n 1, 1) := by decide +kernel
theorem dL_word_4 : decode cL_word 4 = .ok (.invokevirtual 15, 3) := by decide +kernel
theorem dL_word_7 : decode cL_word 7 = .ok (.i2l, 1) := by decide +kernel
theorem dL_word_8 : decode cL_word 8 = .ok (.lastore, 1) := by decide +kernel
theorem dL_word_9 : decode cL_word 9 = .ok (.goto 6, 3) := by decide +kernel
theorem dL_word_12 : decode cL_word 12 = .ok (.astore_n 3, 1) := by decide +kernel
theorem dL_word_13 : decode cL_word 13 = .ok (.iconst 1, 1) := by decide +kernel
theorem dL_word_14 : decode cL_word 14 = .ok (.ireturn, 1) := by decide +kernel
theorem dL_word_15 : decode cL_word 15 = .ok (.iconst 0, 1) := by decide +kernel
theorem dL_word_16 : decode cL_word 16 = .ok (.ireturn, 1) := by decide +kernel
theorem dL_poke_0 : decode cL_poke 0 = .ok (.aload_n 3, 1) := by decide +kernel
theorem dL_poke_1 : decode cL_poke 1 = .ok (.iconst 0, 1) := by decide +kernel
theorem dL_poke_2 : decode cL_poke 2 = .ok (.aload_n 0, 1) := by decide +kernel
theorem dL_poke_3 : decode cL_poke 3 = .ok (.iload_n 1, 1) := by decide +kernel
theorem dL_poke_4 : decode cL_poke 4 = .ok (.iload_n 2, 1) := by decide +kernel
theorem dL_poke_5 : decode cL_poke 5 = .ok (.invokevirtual 19, 3) := by decide +kernel
theorem dL_poke_8 : decode cL_poke 8 = .ok (.ifCond .eq 7, 3) := by decide +kernel
theorem dL_poke_11 : decode cL_poke 11 = .ok (.lconst 1, 1) := by decide +kernel
theorem dL_poke_12 : decode cL_poke 12 = .ok (.goto 4, 3) := by decide +kernel
theorem dL_poke_15 : decode cL_poke 15 = .ok (.lconst 0, 1) := by decide +kernel
theorem dL_poke_16 : decode cL_poke 16 = .ok (.lastore, 1) := by decide +kernel
theorem dL_poke_17 : decode cL_poke 17 = .ok (.goto 7, 3) := by decide +kernel
theorem dL_poke_20 : decode cL_poke 20 = .ok (.astore 4, 2) := by decide +kernel
theorem dL_poke_22 : decode cL_poke 22 = .ok (.iconst 1, 1) := by decide +kernel
theorem dL_poke_23 : decode cL_poke 23 = .ok (.ireturn, 1) := by decide +kernel
theorem dL_poke_24 : decode cL_poke 24 = .ok (.iconst 0, 1) := by decide +kernel
theorem dL_poke_25 : decode cL_poke 25 = .ok (.ireturn, 1) := by decide +kernel
theorem dL_register_0 : decode cL_register 0 = .ok (.aload_n 2, 1) := by decide +kernel
theorem dL_register_1 : decode cL_register 1 = .ok (.iconst 0, 1) := by decide +kernel
theorem dL_register_2 : decode cL_register 2 = .ok (.aload_n 0, 1) := by decide +kernel
theorem dL_register_3 : decode cL_register 3 = .ok (.iload_n 1, 1) := by decide +kernel
theorem dL_register_4 : decode cL_register 4 = .ok (.invokevirtual 23, 3) := by decide +kernel
theorem dL_register_7 : decode cL_register 7 = .ok (.i2l, 1) := by decide +kernel
theorem dL_register_8 : decode cL_register 8 = .ok (.lastore, 1) := by decide +kernel
theorem dL_register_9 : decode cL_register 9 = .ok (.goto 6, 3) := by decide +kernel
theorem dL_register_12 : decode cL_register 12 = .ok (.astore_n 3, 1) := by decide +kernel
theorem dL_register_13 : decode cL_register 13 = .ok (.iconst 1, 1) := by decide +kernel
theorem dL_register_14 : decode cL_register 14 = .ok (.ireturn, 1) := by decide +kernel
theorem dL_register_15 : decode cL_register 15 = .ok (.iconst 0, 1) := by decide +kernel
theorem dL_register_16 : decode cL_register 16 = .ok (.ireturn, 1) := by decide +kernel
theorem dL_put_0 : decode cL_put 0 = .ok (.aload_n 0, 1) := by decide +kernel
theorem dL_put_1 : decode cL_put 1 = .ok (.iload_n 1, 1) := by decide +kernel
theorem dL_put_2 : decode cL_put 2 = .ok (.iload_n 2, 1) := by decide +kernel
theorem dL_put_3 : decode cL_put 3 = .ok (.invokevirtual 26, 3) := by decide +kernel
theorem dL_put_6 : decode cL_put 6 = .ok (.goto 6, 3) := by decide +kernel
theorem dL_put_9 : decode cL_put 9 = .ok (.astore_n 3, 1) := by decide +kernel
theorem dL_put_10 : decode cL_put 10 = .ok (.iconst 1, 1) := by decide +kernel
theorem dL_put_11 : decode cL_put 11 = .ok (.ireturn, 1) := by decide +kernel
theorem dL_put_12 : decode cL_put 12 = .ok (.iconst 0, 1) := by decide +kernel
theorem dL_put_13 : decode cL_put 13 = .ok (.ireturn, 1) := by decide +kernel
theorem dL_run_0 : decode cL_run 0 = .ok (.aload_n 2, 1) := by decide +kernel
theorem dL_run_1 : decode cL_run 1 = .ok (.iconst 0, 1) := by decide +kernel
theorem dL_run_2 : decode cL_run 2 = .ok (.aload_n 0, 1) := by decide +kernel
theorem dL_run_3 : decode cL_run 3 = .ok (.iload_n 1, 1) := by decide +kernel
theorem dL_run_4 : decode cL_run 4 = .ok (.invokevirtual 30, 3) := by decide +kernel
theorem dL_run_7 : decode cL_run 7 = .ok (.i2l, 1) := by decide +kernel
theorem dL_run_8 : decode cL_run 8 = .ok (.lastore, 1) := by decide +kernel
theorem dL_run_9 : decode cL_run 9 = .ok (.goto 6, 3) := by decide +kernel
theorem dL_run_12 : decode cL_run 12 = .ok (.astore_n 3, 1) := by decide +kernel
theorem dL_run_13 : decode cL_run 13 = .ok (.iconst 1, 1) := by decide +kernel
theorem dL_run_14 : decode cL_run 14 = .ok (.ireturn, 1) := by decide +kernel
theorem dL_run_15 : decode cL_run 15 = .ok (.iconst 0, 1) := by decide +kernel
theorem dL_run_16 : decode cL_run 16 = .ok (.ireturn, 1) := by decide +kernel
theorem dL_output_0 : decode cL_output 0 = .ok (.aload_n 2, 1) := by decide +kernel
theorem dL_output_1 : decode cL_output 1 = .ok (.iconst 0, 1) := by decide +kernel
theorem dL_output_2 : decode cL_output 2 = .ok (.aload_n 0, 1) := by decide +kernel
theorem dL_output_3 : decode cL_output 3 = .ok (.iload_n 1, 1) := by decide +kernel
theorem dL_output_4 : decode cL_output 4 = .ok (.invokevirtual 35, 3) := by decide +kernel
theorem dL_output_7 : decode cL_output 7 = .ok (.i2l, 1) := by decide +kernel
theorem dL_output_8 : decode cL_output 8 = .ok (.lastore, 1) := by decide +kernel
theorem dL_output_9 : decode cL_output 9 = .ok (.goto 6, 3) := by decide +kernel
theorem dL_output_12 : decode cL_output 12 = .ok (.astore_n 3, 1) := by decide +kernel
theorem dL_output_13 : decode cL_output 13 = .ok (.iconst 1, 1) := by decide +kernel
theorem dL_output_14 : decode cL_output 14 = .ok (.ireturn, 1) := by decide +kernel
theorem dL_output_15 : decode cL_output 15 = .ok (.iconst 0, 1) := by decide +kernel
theorem dL_output_16 : decode cL_output 16 = .ok (.ireturn, 1) := by decide +kernel
theorem dL_law_0 : decode cL_law 0 = .ok (.new 8, 3) := by decide +kernel
theorem dL_law_3 : decode cL_law 3 = .ok (.dup, 1) := by decide +kernel
theorem dL_law_4 : decode cL_law 4 = .ok (.invokespecial 38, 3) := by decide +kernel
theorem dL_law_7 : decode cL_law 7 = .ok (.astore_n 1, 1) := by decide +kernel
theorem dL_law_8 : decode cL_law 8 = .ok (.new 39, 3) := by decide +kernel
theorem dL_law_11 : decode cL_law 11 = .ok (.dup, 1) := by decide +kernel
theorem dL_law_12 : decode cL_law 12 = .ok (.invokespecial 41, 3) := by decide +kernel
theorem dL_law_15 : decode cL_law 15 = .ok (.astore_n 2, 1) := by decide +kernel
theorem dL_law_16 : decode cL_law 16 = .ok (.iconst 1, 1) := by decide +kernel
theorem dL_law_17 : decode cL_law 17 = .ok (.newarray .long, 2) := by decide +kernel
theorem dL_law_19 : decode cL_law 19 = .ok (.astore_n 3, 1) := by decide +kernel
theorem dL_law_20 : decode cL_law 20 = .ok (.iconst 0, 1) := by decide +kernel
theorem dL_law_21 : decode cL_law 21 = .ok (.istore 4, 2) := by decide +kernel
theorem dL_law_23 : decode cL_law 23 = .ok (.iload 4, 2) := by decide +kernel
theorem dL_law_25 : decode cL_law 25 = .ok (.aload_n 0, 1) := by decide +kernel
theorem dL_law_26 : decode cL_law 26 = .ok (.arraylength, 1) := by decide +kernel
theorem dL_law_27 : decode cL_law 27 = .ok (.bipush 7, 2) := by decide +kernel
theorem dL_law_29 : decode cL_law 29 = .ok (.isub, 1) := by decide +kernel
theorem dL_law_30 : decode cL_law 30 = .ok (.if_icmp .gt 618, 3) := by decide +kernel
theorem dL_law_33 : decode cL_law 33 = .ok (.aload_n 0, 1) := by decide +kernel
theorem dL_law_34 : decode cL_law 34 = .ok (.iload 4, 2) := by decide +kernel
theorem dL_law_36 : decode cL_law 36 = .ok (.iaload, 1) := by decide +kernel
theorem dL_law_37 : decode cL_law 37 = .ok (.bipush 15, 2) := by decide +kernel
theorem dL_law_39 : decode cL_law 39 = .ok (.iand, 1) := by decide +kernel
theorem dL_law_40 : decode cL_law 40 = .ok (.tableswitch 602 0 11 #[64, 182, 238, 313, 369, 417, 430, 453, 509, 522, 578, 591], 64) := by decide +kernel
theorem dL_law_104 : decode cL_law 104 = .ok (.aload_n 1, 1) := by decide +kernel
theorem dL_law_105 : decode cL_law 105 = .ok (.aload_n 0, 1) := by decide +kernel
theorem dL_law_106 : decode cL_law 106 = .ok (.iload 4, 2) := by decide +kernel
theorem dL_law_108 : decode cL_law 108 = .ok (.iconst 1, 1) := by decide +kernel
theorem dL_law_109 : decode cL_law 109 = .ok (.iadd, 1) := by decide +kernel
theorem dL_law_110 : decode cL_law 110 = .ok (.iaload, 1) := by decide +kernel
theorem dL_law_111 : decode cL_law 111 = .ok (.aload_n 0, 1) := by decide +kernel
theorem dL_law_112 : decode cL_law 112 = .ok (.iload 4, 2) := by decide +kernel
theorem dL_law_114 : decode cL_law 114 = .ok (.iconst 2, 1) := by decide +kernel
theorem dL_law_115 : decode cL_law 115 = .ok (.iadd, 1) := by decide +kernel
theorem dL_law_116 : decode cL_law 116 = .ok (.iaload, 1) := by decide +kernel
theorem dL_law_117 : decode cL_law 117 = .ok (.aload_n 0, 1) := by decide +kernel
theorem dL_law_118 : decode cL_law 118 = .ok (.iload 4, 2) := by decide +kernel
theorem dL_law_120 : decode cL_law 120 = .ok (.iconst 3, 1) := by decide +kernel
theorem dL_law_121 : decode cL_law 121 = .ok (.iadd, 1) := by decide +kernel
theorem dL_law_122 : decode cL_law 122 = .ok (.iaload, 1) := by decide +kernel
theorem dL_law_123 : decode cL_law 123 = .ok (.aload_n 0, 1) := by decide +kernel
theorem dL_law_124 : decode cL_law 124 = .ok (.iload 4, 2) := by decide +kernel
theorem dL_law_126 : decode cL_law 126 = .ok (.iconst 4, 1) := by decide +kernel
theorem dL_law_127 : decode cL_law 127 = .ok (.iadd, 1) := by decide +kernel
theorem dL_law_128 : decode cL_law 128 = .ok (.iaload, 1) := by decide +kernel
theorem dL_law_129 : decode cL_law 129 = .ok (.aload_n 0, 1) := by decide +kernel
theorem dL_law_130 : decode cL_law 130 = .ok (.iload 4, 2) := by decide +kernel
theorem dL_law_132 : decode cL_law 132 = .ok (.iconst 5, 1) := by decide +kernel
theorem dL_law_133 : decode cL_law 133 = .ok (.iadd, 1) := by decide +kernel
theorem dL_law_134 : decode cL_law 134 = .ok (.iaload, 1) := by decide +kernel
theorem dL_law_135 : decode cL_law 135 = .ok (.aload_n 0, 1) := by decide +kernel
theorem dL_law_136 : decode cL_law 136 = .ok (.iload 4, 2) := by decide +kernel
theorem dL_law_138 : decode cL_law 138 = .ok (.bipush 6, 2) := by decide +kernel
theorem dL_law_140 : decode cL_law 140 = .ok (.iadd, 1) := by decide +kernel
theorem dL_law_141 : decode cL_law 141 = .ok (.iaload, 1) := by decide +kernel
theorem dL_law_142 : decode cL_law 142 = .ok (.aload_n 3, 1) := by decide +kernel
theorem dL_law_143 : decode cL_law 143 = .ok (.invokestatic 42, 3) := by decide +kernel
theorem dL_law_146 : decode cL_law 146 = .ok (.istore 5, 2) := by decide +kernel
theorem dL_law_148 : decode cL_law 148 = .ok (.aload_n 2, 1) := by decide +kernel
theorem dL_law_149 : decode cL_law 149 = .ok (.aload_n 0, 1) := by decide +kernel
theorem dL_law_150 : decode cL_law 150 = .ok (.iload 4, 2) := by decide +kernel
theorem dL_law_152 : decode cL_law 152 = .ok (.iconst 1, 1) := by decide +kernel
theorem dL_law_153 : decode cL_law 153 = .ok (.iadd, 1) := by decide +kernel
theorem dL_law_154 : decode cL_law 154 = .ok (.iaload, 1) := by decide +kernel
theorem dL_law_155 : decode cL_law 155 = .ok (.aload_n 0, 1) := by decide +kernel
theorem dL_law_156 : decode cL_law 156 = .ok (.iload 4, 2) := by decide +kernel
theorem dL_law_158 : decode cL_law 158 = .ok (.iconst 2, 1) := by decide +kernel
theorem dL_law_159 : decode cL_law 159 = .ok (.iadd, 1) := by decide +kernel
theorem dL_law_160 : decode cL_law 160 = .ok (.iaload, 1) := by decide +kernel
theorem dL_law_161 : decode cL_law 161 = .ok (.aload_n 0, 1) := by decide +kernel
theorem dL_law_162 : decode cL_law 162 = .ok (.iload 4, 2) := by decide +kernel
theorem dL_law_164 : decode cL_law 164 = .ok (.iconst 3, 1) := by decide +kernel
theorem dL_law_165 : decode cL_law 165 = .ok (.iadd, 1) := by decide +kernel
theorem dL_law_166 : decode cL_law 166 = .ok (.iaload, 1) := by decide +kernel
theorem dL_law_167 : decode cL_law 167 = .ok (.aload_n 0, 1) := by decide +kernel
theorem dL_law_168 : decode cL_law 168 = .ok (.iload 4, 2) := by decide +kernel
theorem dL_law_170 : decode cL_law 170 = .ok (.iconst 4, 1) := by decide +kernel
theorem dL_law_171 : decode cL_law 171 = .ok (.iadd, 1) := by decide +kernel
theorem dL_law_172 : decode cL_law 172 = .ok (.iaload, 1) := by decide +kernel
theorem dL_law_173 : decode cL_law 173 = .ok (.aload_n 0, 1) := by decide +kernel
theorem dL_law_174 : decode cL_law 174 = .ok (.iload 4, 2) := by decide +kernel
theorem dL_law_176 : decode cL_law 176 = .ok (.iconst 5, 1) := by decide +kernel
theorem dL_law_177 : decode cL_law 177 = .ok (.iadd, 1) := by decide +kernel
theorem dL_law_178 : decode cL_law 178 = .ok (.iaload, 1) := by decide +kernel
theorem dL_law_179 : decode cL_law 179 = .ok (.aload_n 0, 1) := by decide +kernel
theorem dL_law_180 : decode cL_law 180 = .ok (.iload 4, 2) := by decide +kernel
theorem dL_law_182 : decode cL_law 182 = .ok (.bipush 6, 2) := by decide +kernel
theorem dL_law_184 : decode cL_law 184 = .ok (.iadd, 1) := by decide +kernel
theorem dL_law_185 : decode cL_law 185 = .ok (.iaload, 1) := by decide +kernel
theorem dL_law_186 : decode cL_law 186 = .ok (.invokevirtual 47, 3) := by decide +kernel
theorem dL_law_189 : decode cL_law 189 = .ok (.istore 6, 2) := by decide +kernel
theorem dL_law_191 : decode cL_law 191 = .ok (.aload_n 2, 1) := by decide +kernel
theorem dL_law_192 : decode cL_law 192 = .ok (.invokevirtual 48, 3) := by decide +kernel
theorem dL_law_195 : decode cL_law 195 = .ok (.iload 5, 2) := by decide +kernel
theorem dL_law_197 : decode cL_law 197 = .ok (.if_icmp .eq 5, 3) := by decide +kernel
theorem dL_law_200 : decode cL_law 200 = .ok (.iconst 0, 1) := by decide +kernel
theorem dL_law_201 : decode cL_law 201 = .ok (.ireturn, 1) := by decide +kernel
theorem dL_law_202 : decode cL_law 202 = .ok (.iload 5, 2) := by decide +kernel
theorem dL_law_204 : decode cL_law 204 = .ok (.ifCond .ne 15, 3) := by decide +kernel
theorem dL_law_207 : decode cL_law 207 = .ok (.aload_n 3, 1) := by decide +kernel
theorem dL_law_208 : decode cL_law 208 = .ok (.iconst 0, 1) := by decide +kernel
theorem dL_law_209 : decode cL_law 209 = .ok (.laload, 1) := by decide +kernel
theorem dL_law_210 : decode cL_law 210 = .ok (.iload 6, 2) := by decide +kernel
theorem dL_law_212 : decode cL_law 212 = .ok (.i2l, 1) := by decide +kernel
theorem dL_law_213 : decode cL_law 213 = .ok (.lcmp, 1) := by decide +kernel
theorem dL_law_214 : decode cL_law 214 = .ok (.ifCond .eq 5, 3) := by decide +kernel
theorem dL_law_217 : decode cL_law 217 = .ok (.iconst 0, 1) := by decide +kernel
theorem dL_law_218 : decode cL_law 218 = .ok (.ireturn, 1) := by decide +kernel
theorem dL_law_219 : decode cL_law 219 = .ok (.goto 423, 3) := by decide +kernel
theorem dL_law_222 : decode cL_law 222 = .ok (.aload_n 1, 1) := by decide +kernel
theorem dL_law_223 : decode cL_law 223 = .ok (.aload_n 0, 1) := by decide +kernel
theorem dL_law_224 : decode cL_law 224 = .ok (.iload 4, 2) := by decide +kernel
theorem dL_law_226 : decode cL_law 226 = .ok (.iconst 1, 1) := by decide +kernel
theorem dL_law_227 : decode cL_law 227 = .ok (.iadd, 1) := by decide +kernel
theorem dL_law_228 : decode cL_law 228 = .ok (.iaload, 1) := by decide +kernel
theorem dL_law_229 : decode cL_law 229 = .ok (.aload_n 3, 1) := by decide +kernel
theorem dL_law_230 : decode cL_law 230 = .ok (.invokestatic 52, 3) := by decide +kernel
theorem dL_law_233 : decode cL_law 233 = .ok (.istore 5, 2) := by decide +kernel
theorem dL_law_235 : decode cL_law 235 = .ok (.aload_n 2, 1) := by decide +kernel
theorem dL_law_236 : decode cL_law 236 = .ok (.aload_n 0, 1) := by decide +kernel
theorem dL_law_237 : decode cL_law 237 = .ok (.iload 4, 2) := by decide +kernel
theorem dL_law_239 : decode cL_law 239 = .ok (.iconst 1, 1) := by decide +kernel
theorem dL_law_240 : decode cL_law 240 = .ok (.iadd, 1) := by decide +kernel
theorem dL_law_241 : decode cL_law 241 = .ok (.iaload, 1) := by decide +kernel
theorem dL_law_242 : decode cL_law 242 = .ok (.invokevirtual 55, 3) := by decide +kernel
theorem dL_law_245 : decode cL_law 245 = .ok (.istore 6, 2) := by decide +kernel
theorem dL_law_247 : decode cL_law 247 = .ok (.aload_n 2, 1) := by decide +kernel
theorem dL_law_248 : decode cL_law 248 = .ok (.invokevirtual 48, 3) := by decide +kernel
theorem dL_law_251 : decode cL_law 251 = .ok (.iload 5, 2) := by decide +kernel
theorem dL_law_253 : decode cL_law 253 = .ok (.if_icmp .eq 5, 3) := by decide +kernel
theorem dL_law_256 : decode cL_law 256 = .ok (.iconst 0, 1) := by decide +kernel
theorem dL_law_257 : decode cL_law 257 = .ok (.ireturn, 1) := by decide +kernel
theorem dL_law_258 : decode cL_law 258 = .ok (.iload 5, 2) := by decide +kernel
theorem dL_law_260 : decode cL_law 260 = .ok (.ifCond .ne 15, 3) := by decide +kernel
theorem dL_law_263 : decode cL_law 263 = .ok (.aload_n 3, 1) := by decide +kernel
theorem dL_law_264 : decode cL_law 264 = .ok (.iconst 0, 1) := by decide +kernel
theorem dL_law_265 : decode cL_law 265 = .ok (.laload, 1) := by decide +kernel
theorem dL_law_266 : decode cL_law 266 = .ok (.iload 6, 2) := by decide +kernel
theorem dL_law_268 : decode cL_law 268 = .ok (.i2l, 1) := by decide +kernel
theorem dL_law_269 : decode cL_law 269 = .ok (.lcmp, 1) := by decide +kernel
theorem dL_law_270 : decode cL_law 270 = .ok (.ifCond .eq 5, 3) := by decide +kernel
theorem dL_law_273 : decode cL_law 273 = .ok (.iconst 0, 1) := by decide +kernel
theorem dL_law_274 : decode cL_law 274 = .ok (.ireturn, 1) := by decide +kernel
end
section
theorem dL_law_275 : decode cL_law 275 = .ok (.goto 367, 3) := by decide +kernel
theorem dL_law_278 : decode cL_law 278 = .ok (.aload_n 1, 1) := by decide +kernel
theorem dL_law_279 : decode cL_law 279 = .ok (.aload_n 0, 1) := by decide +kernel
theorem dL_law_280 : decode cL_law 280 = .ok (.iload 4, 2) := by decide +kernel
theorem dL_law_282 : decode cL_law 282 = .ok (.iconst 1, 1) := by decide +kernel
theorem dL_law_283 : decode cL_law 283 = .ok (.iadd, 1) := by decide +kernel
theorem dL_law_284 : decode cL_law 284 = .ok (.iaload, 1) := by decide +kernel
theorem dL_law_285 : decode cL_law 285 = .ok (.aload_n 0, 1) := by decide +kernel
theorem dL_law_286 : decode cL_law 286 = .ok (.iload 4, 2) := by decide +kernel
theorem dL_law_288 : decode cL_law 288 = .ok (.iconst 2, 1) := by decide +kernel
theorem dL_law_289 : decode cL_law 289 = .ok (.iadd, 1) := by decide +kernel
theorem dL_law_290 : decode cL_law 290 = .ok (.iaload, 1) := by decide +kernel
theorem dL_law_291 : decode cL_law 291 = .ok (.aload_n 3, 1) := by decide +kernel
theorem dL_law_292 : decode cL_law 292 = .ok (.invokestatic 56, 3) := by decide +kernel
theorem dL_law_295 : decode cL_law 295 = .ok (.istore 5, 2) := by decide +kernel
theorem dL_law_297 : decode cL_law 297 = .ok (.aload_n 2, 1) := by decide +kernel
theorem dL_law_298 : decode cL_law 298 = .ok (.aload_n 0, 1) := by decide +kernel
theorem dL_law_299 : decode cL_law 299 = .ok (.iload 4, 2) := by decide +kernel
theorem dL_law_301 : decode cL_law 301 = .ok (.iconst 1, 1) := by decide +kernel
theorem dL_law_302 : decode cL_law 302 = .ok (.iadd, 1) := by decide +kernel
theorem dL_law_303 : decode cL_law 303 = .ok (.iaload, 1) := by decide +kernel
theorem dL_law_304 : decode cL_law 304 = .ok (.aload_n 0, 1) := by decide +kernel
theorem dL_law_305 : decode cL_law 305 = .ok (.iload 4, 2) := by decide +kernel
theorem dL_law_307 : decode cL_law 307 = .ok (.iconst 2, 1) := by decide +kernel
theorem dL_law_308 : decode cL_law 308 = .ok (.iadd, 1) := by decide +kernel
theorem dL_law_309 : decode cL_law 309 = .ok (.iaload, 1) := by decide +kernel
theorem dL_law_310 : decode cL_law 310 = .ok (.invokevirtual 59, 3) := by decide +kernel
theorem dL_law_313 : decode cL_law 313 = .ok (.istore 6, 2) := by decide +kernel
theorem dL_law_315 : decode cL_law 315 = .ok (.aload_n 2, 1) := by decide +kernel
theorem dL_law_316 : decode cL_law 316 = .ok (.invokevirtual 48, 3) := by decide +kernel
theorem dL_law_319 : decode cL_law 319 = .ok (.iload 5, 2) := by decide +kernel
theorem dL_law_321 : decode cL_law 321 = .ok (.if_icmp .eq 5, 3) := by decide +kernel
theorem dL_law_324 : decode cL_law 324 = .ok (.iconst 0, 1) := by decide +kernel
theorem dL_law_325 : decode cL_law 325 = .ok (.ireturn, 1) := by decide +kernel
theorem dL_law_326 : decode cL_law 326 = .ok (.iload 5, 2) := by decide +kernel
theorem dL_law_328 : decode cL_law 328 = .ok (.ifCond .ne 22, 3) := by decide +kernel
theorem dL_law_331 : decode cL_law 331 = .ok (.aload_n 3, 1) := by decide +kernel
theorem dL_law_332 : decode cL_law 332 = .ok (.iconst 0, 1) := by decide +kernel
theorem dL_law_333 : decode cL_law 333 = .ok (.laload, 1) := by decide +kernel
theorem dL_law_334 : decode cL_law 334 = .ok (.iload 6, 2) := by decide +kernel
theorem dL_law_336 : decode cL_law 336 = .ok (.ifCond .eq 7, 3) := by decide +kernel
theorem dL_law_339 : decode cL_law 339 = .ok (.lconst 1, 1) := by decide +kernel
theorem dL_law_340 : decode cL_law 340 = .ok (.goto 4, 3) := by decide +kernel
theorem dL_law_343 : decode cL_law 343 = .ok (.lconst 0, 1) := by decide +kernel
theorem dL_law_344 : decode cL_law 344 = .ok (.lcmp, 1) := by decide +kernel
theorem dL_law_345 : decode cL_law 345 = .ok (.ifCond .eq 5, 3) := by decide +kernel
theorem dL_law_348 : decode cL_law 348 = .ok (.iconst 0, 1) := by decide +kernel
theorem dL_law_349 : decode cL_law 349 = .ok (.ireturn, 1) := by decide +kernel
theorem dL_law_350 : decode cL_law 350 = .ok (.goto 292, 3) := by decide +kernel
theorem dL_law_353 : decode cL_law 353 = .ok (.aload_n 1, 1) := by decide +kernel
theorem dL_law_354 : decode cL_law 354 = .ok (.aload_n 0, 1) := by decide +kernel
theorem dL_law_355 : decode cL_law 355 = .ok (.iload 4, 2) := by decide +kernel
theorem dL_law_357 : decode cL_law 357 = .ok (.iconst 1, 1) := by decide +kernel
theorem dL_law_358 : decode cL_law 358 = .ok (.iadd, 1) := by decide +kernel
theorem dL_law_359 : decode cL_law 359 = .ok (.iaload, 1) := by decide +kernel
theorem dL_law_360 : decode cL_law 360 = .ok (.aload_n 3, 1) := by decide +kernel
theorem dL_law_361 : decode cL_law 361 = .ok (.invokestatic 60, 3) := by decide +kernel
theorem dL_law_364 : decode cL_law 364 = .ok (.istore 5, 2) := by decide +kernel
theorem dL_law_366 : decode cL_law 366 = .ok (.aload_n 2, 1) := by decide +kernel
theorem dL_law_367 : decode cL_law 367 = .ok (.aload_n 0, 1) := by decide +kernel
theorem dL_law_368 : decode cL_law 368 = .ok (.iload 4, 2) := by decide +kernel
theorem dL_law_370 : decode cL_law 370 = .ok (.iconst 1, 1) := by decide +kernel
theorem dL_law_371 : decode cL_law 371 = .ok (.iadd, 1) := by decide +kernel
theorem dL_law_372 : decode cL_law 372 = .ok (.iaload, 1) := by decide +kernel
theorem dL_law_373 : decode cL_law 373 = .ok (.invokevirtual 62, 3) := by decide +kernel
theorem dL_law_376 : decode cL_law 376 = .ok (.istore 6, 2) := by decide +kernel
theorem dL_law_378 : decode cL_law 378 = .ok (.aload_n 2, 1) := by decide +kernel
theorem dL_law_379 : decode cL_law 379 = .ok (.invokevirtual 48, 3) := by decide +kernel
theorem dL_law_382 : decode cL_law 382 = .ok (.iload 5, 2) := by decide +kernel
theorem dL_law_384 : decode cL_law 384 = .ok (.if_icmp .eq 5, 3) := by decide +kernel
theorem dL_law_387 : decode cL_law 387 = .ok (.iconst 0, 1) := by decide +kernel
theorem dL_law_388 : decode cL_law 388 = .ok (.ireturn, 1) := by decide +kernel
theorem dL_law_389 : decode cL_law 389 = .ok (.iload 5, 2) := by decide +kernel
theorem dL_law_391 : decode cL_law 391 = .ok (.ifCond .ne 15, 3) := by decide +kernel
theorem dL_law_394 : decode cL_law 394 = .ok (.aload_n 3, 1) := by decide +kernel
theorem dL_law_395 : decode cL_law 395 = .ok (.iconst 0, 1) := by decide +kernel
theorem dL_law_396 : decode cL_law 396 = .ok (.laload, 1) := by decide +kernel
theorem dL_law_397 : decode cL_law 397 = .ok (.iload 6, 2) := by decide +kernel
theorem dL_law_399 : decode cL_law 399 = .ok (.i2l, 1) := by decide +kernel
theorem dL_law_400 : decode cL_law 400 = .ok (.lcmp, 1) := by decide +kernel
theorem dL_law_401 : decode cL_law 401 = .ok (.ifCond .eq 5, 3) := by decide +kernel
theorem dL_law_404 : decode cL_law 404 = .ok (.iconst 0, 1) := by decide +kernel
theorem dL_law_405 : decode cL_law 405 = .ok (.ireturn, 1) := by decide +kernel
theorem dL_law_406 : decode cL_law 406 = .ok (.goto 236, 3) := by decide +kernel
theorem dL_law_409 : decode cL_law 409 = .ok (.aload_n 1, 1) := by decide +kernel
theorem dL_law_410 : decode cL_law 410 = .ok (.aload_n 0, 1) := by decide +kernel
theorem dL_law_411 : decode cL_law 411 = .ok (.iload 4, 2) := by decide +kernel
theorem dL_law_413 : decode cL_law 413 = .ok (.iconst 1, 1) := by decide +kernel
theorem dL_law_414 : decode cL_law 414 = .ok (.iadd, 1) := by decide +kernel
theorem dL_law_415 : decode cL_law 415 = .ok (.iaload, 1) := by decide +kernel
theorem dL_law_416 : decode cL_law 416 = .ok (.aload_n 0, 1) := by decide +kernel
theorem dL_law_417 : decode cL_law 417 = .ok (.iload 4, 2) := by decide +kernel
theorem dL_law_419 : decode cL_law 419 = .ok (.iconst 2, 1) := by decide +kernel
theorem dL_law_420 : decode cL_law 420 = .ok (.iadd, 1) := by decide +kernel
theorem dL_law_421 : decode cL_law 421 = .ok (.iaload, 1) := by decide +kernel
theorem dL_law_422 : decode cL_law 422 = .ok (.invokestatic 63, 3) := by decide +kernel
theorem dL_law_425 : decode cL_law 425 = .ok (.istore 5, 2) := by decide +kernel
theorem dL_law_427 : decode cL_law 427 = .ok (.aload_n 2, 1) := by decide +kernel
theorem dL_law_428 : decode cL_law 428 = .ok (.aload_n 0, 1) := by decide +kernel
theorem dL_law_429 : decode cL_law 429 = .ok (.iload 4, 2) := by decide +kernel
theorem dL_law_431 : decode cL_law 431 = .ok (.iconst 1, 1) := by decide +kernel
theorem dL_law_432 : decode cL_law 432 = .ok (.iadd, 1) := by decide +kernel
theorem dL_law_433 : decode cL_law 433 = .ok (.iaload, 1) := by decide +kernel
theorem dL_law_434 : decode cL_law 434 = .ok (.aload_n 0, 1) := by decide +kernel
theorem dL_law_435 : decode cL_law 435 = .ok (.iload 4, 2) := by decide +kernel
theorem dL_law_437 : decode cL_law 437 = .ok (.iconst 2, 1) := by decide +kernel
theorem dL_law_438 : decode cL_law 438 = .ok (.iadd, 1) := by decide +kernel
theorem dL_law_439 : decode cL_law 439 = .ok (.iaload, 1) := by decide +kernel
theorem dL_law_440 : decode cL_law 440 = .ok (.invokevirtual 66, 3) := by decide +kernel
theorem dL_law_443 : decode cL_law 443 = .ok (.aload_n 2, 1) := by decide +kernel
theorem dL_law_444 : decode cL_law 444 = .ok (.invokevirtual 48, 3) := by decide +kernel
theorem dL_law_447 : decode cL_law 447 = .ok (.iload 5, 2) := by decide +kernel
theorem dL_law_449 : decode cL_law 449 = .ok (.if_icmp .eq 5, 3) := by decide +kernel
theorem dL_law_452 : decode cL_law 452 = .ok (.iconst 0, 1) := by decide +kernel
theorem dL_law_453 : decode cL_law 453 = .ok (.ireturn, 1) := by decide +kernel
theorem dL_law_454 : decode cL_law 454 = .ok (.goto 188, 3) := by decide +kernel
theorem dL_law_457 : decode cL_law 457 = .ok (.aload_n 1, 1) := by decide +kernel
theorem dL_law_458 : decode cL_law 458 = .ok (.invokevirtual 67, 3) := by decide +kernel
theorem dL_law_461 : decode cL_law 461 = .ok (.aload_n 2, 1) := by decide +kernel
theorem dL_law_462 : decode cL_law 462 = .ok (.invokevirtual 70, 3) := by decide +kernel
theorem dL_law_465 : decode cL_law 465 = .ok (.if_icmp .eq 177, 3) := by decide +kernel
theorem dL_law_468 : decode cL_law 468 = .ok (.iconst 0, 1) := by decide +kernel
theorem dL_law_469 : decode cL_law 469 = .ok (.ireturn, 1) := by decide +kernel
theorem dL_law_470 : decode cL_law 470 = .ok (.aload_n 1, 1) := by decide +kernel
theorem dL_law_471 : decode cL_law 471 = .ok (.aload_n 0, 1) := by decide +kernel
theorem dL_law_472 : decode cL_law 472 = .ok (.iload 4, 2) := by decide +kernel
theorem dL_law_474 : decode cL_law 474 = .ok (.iconst 1, 1) := by decide +kernel
theorem dL_law_475 : decode cL_law 475 = .ok (.iadd, 1) := by decide +kernel
theorem dL_law_476 : decode cL_law 476 = .ok (.iaload, 1) := by decide +kernel
theorem dL_law_477 : decode cL_law 477 = .ok (.invokevirtual 71, 3) := by decide +kernel
theorem dL_law_480 : decode cL_law 480 = .ok (.aload_n 2, 1) := by decide +kernel
theorem dL_law_481 : decode cL_law 481 = .ok (.aload_n 0, 1) := by decide +kernel
theorem dL_law_482 : decode cL_law 482 = .ok (.iload 4, 2) := by decide +kernel
theorem dL_law_484 : decode cL_law 484 = .ok (.iconst 1, 1) := by decide +kernel
theorem dL_law_485 : decode cL_law 485 = .ok (.iadd, 1) := by decide +kernel
theorem dL_law_486 : decode cL_law 486 = .ok (.iaload, 1) := by decide +kernel
theorem dL_law_487 : decode cL_law 487 = .ok (.invokevirtual 75, 3) := by decide +kernel
theorem dL_law_490 : decode cL_law 490 = .ok (.goto 152, 3) := by decide +kernel
theorem dL_law_493 : decode cL_law 493 = .ok (.aload_n 1, 1) := by decide +kernel
theorem dL_law_494 : decode cL_law 494 = .ok (.aload_n 0, 1) := by decide +kernel
theorem dL_law_495 : decode cL_law 495 = .ok (.iload 4, 2) := by decide +kernel
theorem dL_law_497 : decode cL_law 497 = .ok (.iconst 1, 1) := by decide +kernel
theorem dL_law_498 : decode cL_law 498 = .ok (.iadd, 1) := by decide +kernel
theorem dL_law_499 : decode cL_law 499 = .ok (.iaload, 1) := by decide +kernel
theorem dL_law_500 : decode cL_law 500 = .ok (.aload_n 3, 1) := by decide +kernel
theorem dL_law_501 : decode cL_law 501 = .ok (.invokestatic 76, 3) := by decide +kernel
theorem dL_law_504 : decode cL_law 504 = .ok (.istore 5, 2) := by decide +kernel
theorem dL_law_506 : decode cL_law 506 = .ok (.aload_n 2, 1) := by decide +kernel
theorem dL_law_507 : decode cL_law 507 = .ok (.aload_n 0, 1) := by decide +kernel
theorem dL_law_508 : decode cL_law 508 = .ok (.iload 4, 2) := by decide +kernel
theorem dL_law_510 : decode cL_law 510 = .ok (.iconst 1, 1) := by decide +kernel
theorem dL_law_511 : decode cL_law 511 = .ok (.iadd, 1) := by decide +kernel
theorem dL_law_512 : decode cL_law 512 = .ok (.iaload, 1) := by decide +kernel
theorem dL_law_513 : decode cL_law 513 = .ok (.invokevirtual 78, 3) := by decide +kernel
theorem dL_law_516 : decode cL_law 516 = .ok (.istore 6, 2) := by decide +kernel
theorem dL_law_518 : decode cL_law 518 = .ok (.aload_n 2, 1) := by decide +kernel
theorem dL_law_519 : decode cL_law 519 = .ok (.invokevirtual 48, 3) := by decide +kernel
theorem dL_law_522 : decode cL_law 522 = .ok (.iload 5, 2) := by decide +kernel
theorem dL_law_524 : decode cL_law 524 = .ok (.if_icmp .eq 5, 3) := by decide +kernel
theorem dL_law_527 : decode cL_law 527 = .ok (.iconst 0, 1) := by decide +kernel
theorem dL_law_528 : decode cL_law 528 = .ok (.ireturn, 1) := by decide +kernel
theorem dL_law_529 : decode cL_law 529 = .ok (.iload 5, 2) := by decide +kernel
theorem dL_law_531 : decode cL_law 531 = .ok (.ifCond .ne 15, 3) := by decide +kernel
theorem dL_law_534 : decode cL_law 534 = .ok (.aload_n 3, 1) := by decide +kernel
theorem dL_law_535 : decode cL_law 535 = .ok (.iconst 0, 1) := by decide +kernel
theorem dL_law_536 : decode cL_law 536 = .ok (.laload, 1) := by decide +kernel
theorem dL_law_537 : decode cL_law 537 = .ok (.iload 6, 2) := by decide +kernel
theorem dL_law_539 : decode cL_law 539 = .ok (.i2l, 1) := by decide +kernel
theorem dL_law_540 : decode cL_law 540 = .ok (.lcmp, 1) := by decide +kernel
theorem dL_law_541 : decode cL_law 541 = .ok (.ifCond .eq 5, 3) := by decide +kernel
theorem dL_law_544 : decode cL_law 544 = .ok (.iconst 0, 1) := by decide +kernel
theorem dL_law_545 : decode cL_law 545 = .ok (.ireturn, 1) := by decide +kernel
theorem dL_law_546 : decode cL_law 546 = .ok (.goto 96, 3) := by decide +kernel
theorem dL_law_549 : decode cL_law 549 = .ok (.aload_n 1, 1) := by decide +kernel
theorem dL_law_550 : decode cL_law 550 = .ok (.invokevirtual 79, 3) := by decide +kernel
theorem dL_law_553 : decode cL_law 553 = .ok (.aload_n 2, 1) := by decide +kernel
theorem dL_law_554 : decode cL_law 554 = .ok (.invokevirtual 82, 3) := by decide +kernel
theorem dL_law_557 : decode cL_law 557 = .ok (.if_icmp .eq 85, 3) := by decide +kernel
theorem dL_law_560 : decode cL_law 560 = .ok (.iconst 0, 1) := by decide +kernel
theorem dL_law_561 : decode cL_law 561 = .ok (.ireturn, 1) := by decide +kernel
theorem dL_law_562 : decode cL_law 562 = .ok (.aload_n 1, 1) := by decide +kernel
theorem dL_law_563 : decode cL_law 563 = .ok (.aload_n 0, 1) := by decide +kernel
theorem dL_law_564 : decode cL_law 564 = .ok (.iload 4, 2) := by decide +kernel
theorem dL_law_566 : decode cL_law 566 = .ok (.iconst 1, 1) := by decide +kernel
theorem dL_law_567 : decode cL_law 567 = .ok (.iadd, 1) := by decide +kernel
theorem dL_law_568 : decode cL_law 568 = .ok (.iaload, 1) := by decide +kernel
theorem dL_law_569 : decode cL_law 569 = .ok (.aload_n 3, 1) := by decide +kernel
theorem dL_law_570 : decode cL_law 570 = .ok (.invokestatic 83, 3) := by decide +kernel
theorem dL_law_573 : decode cL_law 573 = .ok (.istore 5, 2) := by decide +kernel
theorem dL_law_575 : decode cL_law 575 = .ok (.aload_n 2, 1) := by decide +kernel
theorem dL_law_576 : decode cL_law 576 = .ok (.aload_n 0, 1) := by decide +kernel
theorem dL_law_577 : decode cL_law 577 = .ok (.iload 4, 2) := by decide +kernel
theorem dL_law_579 : decode cL_law 579 = .ok (.iconst 1, 1) := by decide +kernel
theorem dL_law_580 : decode cL_law 580 = .ok (.iadd, 1) := by decide +kernel
theorem dL_law_581 : decode cL_law 581 = .ok (.iaload, 1) := by decide +kernel
theorem dL_law_582 : decode cL_law 582 = .ok (.invokevirtual 85, 3) := by decide +kernel
theorem dL_law_585 : decode cL_law 585 = .ok (.istore 6, 2) := by decide +kernel
theorem dL_law_587 : decode cL_law 587 = .ok (.aload_n 2, 1) := by decide +kernel
theorem dL_law_588 : decode cL_law 588 = .ok (.invokevirtual 48, 3) := by decide +kernel
theorem dL_law_591 : decode cL_law 591 = .ok (.iload 5, 2) := by decide +kernel
theorem dL_law_593 : decode cL_law 593 = .ok (.if_icmp .eq 5, 3) := by decide +kernel
theorem dL_law_596 : decode cL_law 596 = .ok (.iconst 0, 1) := by decide +kernel
theorem dL_law_597 : decode cL_law 597 = .ok (.ireturn, 1) := by decide +kernel
theorem dL_law_598 : decode cL_law 598 = .ok (.iload 5, 2) := by decide +kernel
theorem dL_law_600 : decode cL_law 600 = .ok (.ifCond .ne 15, 3) := by decide +kernel
theorem dL_law_603 : decode cL_law 603 = .ok (.aload_n 3, 1) := by decide +kernel
theorem dL_law_604 : decode cL_law 604 = .ok (.iconst 0, 1) := by decide +kernel
theorem dL_law_605 : decode cL_law 605 = .ok (.laload, 1) := by decide +kernel
theorem dL_law_606 : decode cL_law 606 = .ok (.iload 6, 2) := by decide +kernel
theorem dL_law_608 : decode cL_law 608 = .ok (.i2l, 1) := by decide +kernel
theorem dL_law_609 : decode cL_law 609 = .ok (.lcmp, 1) := by decide +kernel
theorem dL_law_610 : decode cL_law 610 = .ok (.ifCond .eq 5, 3) := by decide +kernel
theorem dL_law_613 : decode cL_law 613 = .ok (.iconst 0, 1) := by decide +kernel
theorem dL_law_614 : decode cL_law 614 = .ok (.ireturn, 1) := by decide +kernel
theorem dL_law_615 : decode cL_law 615 = .ok (.goto 27, 3) := by decide +kernel
theorem dL_law_618 : decode cL_law 618 = .ok (.aload_n 1, 1) := by decide +kernel
theorem dL_law_619 : decode cL_law 619 = .ok (.invokevirtual 86, 3) := by decide +kernel
theorem dL_law_622 : decode cL_law 622 = .ok (.aload_n 2, 1) := by decide +kernel
theorem dL_law_623 : decode cL_law 623 = .ok (.invokevirtual 89, 3) := by decide +kernel
theorem dL_law_626 : decode cL_law 626 = .ok (.if_icmp .eq 16, 3) := by decide +kernel
theorem dL_law_629 : decode cL_law 629 = .ok (.iconst 0, 1) := by decide +kernel
theorem dL_law_630 : decode cL_law 630 = .ok (.ireturn, 1) := by decide +kernel
theorem dL_law_631 : decode cL_law 631 = .ok (.aload_n 1, 1) := by decide +kernel
theorem dL_law_632 : decode cL_law 632 = .ok (.invokevirtual 90, 3) := by decide +kernel
theorem dL_law_635 : decode cL_law 635 = .ok (.aload_n 2, 1) := by decide +kernel
theorem dL_law_636 : decode cL_law 636 = .ok (.invokevirtual 93, 3) := by decide +kernel
theorem dL_law_639 : decode cL_law 639 = .ok (.goto 3, 3) := by decide +kernel
theorem dL_law_642 : decode cL_law 642 = .ok (.iinc 4 7, 3) := by decide +kernel
theorem dL_law_645 : decode cL_law 645 = .ok (.goto (-622), 3) := by decide +kernel
theorem dL_law_648 : decode cL_law 648 = .ok (.iconst 1, 1) := by decide +kernel
theorem dL_law_649 : decode cL_law 649 = .ok (.ireturn, 1) := by decide +kernel
end
section
theorem goodIn_pq {big : List Cond} (ws : List Cond) (ps qs : List Nat) (hp : ws.filter k2_isCode = ps.filterMap (fun i => big[i]?)) (hq : ws.filter (fun w => !k2_isCode w) = qs.filterMap (fun i => big[i]?)) (h : (ws.filter (fun w => !k2_isCode w)).all goodWord = true) : GoodIn big ws := by
  intro w hw
  by_cases hc : k2_isCode w = true
  · have h1 : w ∈ ws.filter k2_isCode := List.mem_filter.mpr ⟨hw, hc⟩
    rw [hp] at h1
    obtain ⟨i, -, hi⟩ := List.mem_filterMap.mp h1
    refine ⟨List.mem_of_getElem? hi, ?_⟩
    cases w <;> first | (simp [k2_isCode] at hc; done) | exact Or.inl rfl
  · have h1 : w ∈ ws.filter (fun w => !k2_isCode w) := List.mem_filter.mpr ⟨hw, by simpa using hc⟩
    have h2 := List.all_eq_true.mp h w h1
    rw [hq] at h1
    obtain ⟨i, -, hi⟩ := List.mem_filterMap.mp h1
    exact ⟨List.mem_of_getElem? hi, good_of_word h2⟩
end
section
set_option maxRecDepth 20000 in
theorem ggX1_setPair_X1_setIfThere : GoodIn wsX1_setPair wsX1_setIfThere := goodIn_pq _ [5, 10, 14] [6, 7, 8, 9, 4, 11, 12, 13, 15, 16, 17, 18] rfl (by decide +kernel) (by decide +kernel)
set_option maxRecDepth 20000 in
theorem gX1_setPair_X1_setIfThere : GoodIn wsX1_setPair (wsV RX1 19 RX1 yX1_setIfThere wsX1_setIfThere) := goodIn_app (goodIn_of _ (by decide +kernel)) ggX1_setPair_X1_setIfThere
set_option maxRecDepth 20000 in
theorem ggX1_empty_J7_fill_53178 : GoodIn wsX1_empty wsJ7_fill_53178 := goodIn_pq _ [6] [] rfl (by decide +kernel) (by decide +kernel)
set_option maxRecDepth 20000 in
theorem gX1_empty_J7_fill_53178 : GoodIn wsX1_empty (va_wsS RX1 27 yJ7_fill_53178 wsJ7_fill_53178) := goodIn_app (goodIn_of _ (by decide +kernel)) ggX1_empty_J7_fill_53178
set_option maxRecDepth 20000 in
theorem ggX1_setIfThere_X1_faultAt : GoodIn wsX1_setIfThere wsX1_faultAt := goodIn_pq _ [6] [1] rfl (by decide +kernel) (by decide +kernel)
set_option maxRecDepth 20000 in
theorem gX1_setIfThere_X1_faultAt : GoodIn wsX1_setIfThere (wsV RX1 33 RX1 yX1_faultAt wsX1_faultAt) := goodIn_app (goodIn_of _ (by decide +kernel)) ggX1_setIfThere_X1_faultAt
set_option maxRecDepth 20000 in
theorem ggX1_setIfThere_X1_setWord : GoodIn wsX1_setIfThere wsX1_setWord := goodIn_pq _ [10] [11, 1, 12, 13, 14] rfl (by decide +kernel) (by decide +kernel)
set_option maxRecDepth 20000 in
theorem gX1_setIfThere_X1_setWord : GoodIn wsX1_setIfThere (wsV RX1 36 RX1 yX1_setWord wsX1_setWord) := goodIn_app (goodIn_of _ (by decide +kernel)) ggX1_setIfThere_X1_setWord
set_option maxRecDepth 20000 in
theorem ggX2_empty_J7_fill_53178 : GoodIn wsX2_empty wsJ7_fill_53178 := goodIn_pq _ [5] [] rfl (by decide +kernel) (by decide +kernel)
set_option maxRecDepth 20000 in
theorem gX2_empty_J7_fill_53178 : GoodIn wsX2_empty (va_wsS RX2 32 yJ7_fill_53178 wsJ7_fill_53178) := goodIn_app (goodIn_of _ (by decide +kernel)) ggX2_empty_J7_fill_53178
set_option maxRecDepth 20000 in
theorem ggX2_fetch_X1_faultAt : GoodIn wsX2_fetch wsX1_faultAt := goodIn_pq _ [9] [10] rfl (by decide +kernel) (by decide +kernel)
set_option maxRecDepth 20000 in
theorem gX2_fetch_X1_faultAt : GoodIn wsX2_fetch (wsV RX2 56 RX1 yX1_faultAt wsX1_faultAt) := goodIn_app (goodIn_of _ (by decide +kernel)) ggX2_fetch_X1_faultAt
set_option maxRecDepth 20000 in
theorem ggX2_fetch_X1_valueAt : GoodIn wsX2_fetch wsX1_valueAt := goodIn_pq _ [14] [15, 20, 21, 22] rfl (by decide +kernel) (by decide +kernel)
set_option maxRecDepth 20000 in
theorem gX2_fetch_X1_valueAt : GoodIn wsX2_fetch (wsV RX2 61 RX1 yX1_valueAt wsX1_valueAt) := goodIn_app (goodIn_of _ (by decide +kernel)) ggX2_fetch_X1_valueAt
set_option maxRecDepth 20000 in
theorem ggX2_takeNext_X2_grow : GoodIn wsX2_takeNext wsX2_grow := goodIn_pq _ [6] [7, 1, 26, 27, 28, 29] rfl (by decide +kernel) (by decide +kernel)
set_option maxRecDepth 20000 in
theorem gX2_takeNext_X2_grow : GoodIn wsX2_takeNext (wsV RX2 43 RX2 yX2_grow wsX2_grow) := goodIn_app (goodIn_of _ (by decide +kernel)) ggX2_takeNext_X2_grow
set_option maxRecDepth 20000 in
theorem ggX2_takeNext_X2_fetch : GoodIn wsX2_takeNext wsX2_fetch := goodIn_pq _ [11, 19, 24] [12, 7, 13, 14, 15, 16, 17, 18, 20, 21, 22, 23, 25, 26, 27, 28, 29, 30, 31, 32] rfl (by decide +kernel) (by decide +kernel)
set_option maxRecDepth 20000 in
theorem gX2_takeNext_X2_fetch : GoodIn wsX2_takeNext (wsV RX2 47 RX2 yX2_fetch wsX2_fetch) := goodIn_app (goodIn_of _ (by decide +kernel)) ggX2_takeNext_X2_fetch
set_option maxRecDepth 20000 in
theorem ggX3_init_X0_init : GoodIn wsX3_init wsX0_init := goodIn_pq _ [13, 3] [14, 2] rfl (by decide +kernel) (by decide +kernel)
set_option maxRecDepth 20000 in
theorem gX3_init_X0_init_n11 : GoodIn wsX3_init (wsX0_init) := ggX3_init_X0_init
set_option maxRecDepth 20000 in
theorem ggX3_init_X2_init : GoodIn wsX3_init wsX2_init := goodIn_pq _ [17, 3] [18, 2, 19, 20, 21, 22, 29, 30, 31, 32] rfl (by decide +kernel) (by decide +kernel)
set_option maxRecDepth 20000 in
theorem gX3_init_X2_init : GoodIn wsX3_init (wsX2_init) := ggX3_init_X2_init
set_option maxRecDepth 20000 in
theorem ggX3_empty_X2_empty : GoodIn wsX3_empty wsX2_empty := goodIn_pq _ [7, 12] [8, 9, 10, 11, 24, 25, 26, 27] rfl (by decide +kernel) (by decide +kernel)
set_option maxRecDepth 20000 in
theorem gX3_empty_X2_empty : GoodIn wsX3_empty (wsV RX3 27 RX2 yX2_empty wsX2_empty) := goodIn_app (goodIn_of _ (by decide +kernel)) ggX3_empty_X2_empty
set_option maxRecDepth 20000 in
theorem ggX3_empty_X0_become : GoodIn wsX3_empty wsX0_become := goodIn_pq _ [17] [18, 19, 20, 21, 28, 29, 30, 31] rfl (by decide +kernel) (by decide +kernel)
set_option maxRecDepth 20000 in
theorem gX3_empty_X0_become : GoodIn wsX3_empty (wsV RX3 30 RX0 yX0_become wsX0_become) := goodIn_app (goodIn_of _ (by decide +kernel)) ggX3_empty_X0_become
set_option maxRecDepth 20000 in
theorem ggX3_step_X2_begin : GoodIn wsX3_step wsX2_begin := goodIn_pq _ [7] [8, 9, 10, 11, 12, 13, 14, 247, 248, 249, 250] rfl (by decide +kernel) (by decide +kernel)
set_option maxRecDepth 20000 in
theorem gX3_step_X2_begin : GoodIn wsX3_step (wsV RX3 34 RX2 yX2_begin wsX2_begin) := goodIn_app (goodIn_of _ (by decide +kernel)) ggX3_step_X2_begin
set_option maxRecDepth 20000 in
theorem ggX3_step_X0_number : GoodIn wsX3_step wsX0_number := goodIn_pq _ [19] [20, 21, 22, 23, 251, 252, 253, 254] rfl (by decide +kernel) (by decide +kernel)
set_option maxRecDepth 20000 in
theorem gX3_step_X0_number : GoodIn wsX3_step (wsV RX3 37 RX0 yX0_number wsX0_number) := goodIn_app (goodIn_of _ (by decide +kernel)) ggX3_step_X0_number
set_option maxRecDepth 20000 in
theorem ggX3_step_X2_takeNext : GoodIn wsX3_step wsX2_takeNext := goodIn_pq _ [27, 32, 36, 43, 48] [28, 29, 30, 31, 6, 8, 33, 34, 35, 37, 14, 38, 39, 40, 41, 42, 44, 45, 46, 47, 49, 247, 248, 249, 250, 255, 256, 257] rfl (by decide +kernel) (by decide +kernel)
set_option maxRecDepth 20000 in
theorem gX3_step_X2_takeNext : GoodIn wsX3_step (wsV RX3 41 RX2 yX2_takeNext wsX2_takeNext) := goodIn_app (goodIn_of _ (by decide +kernel)) ggX3_step_X2_takeNext
set_option maxRecDepth 20000 in
theorem ggX3_step_X0_become : GoodIn wsX3_step wsX0_become := goodIn_pq _ [183] [20, 21, 22, 23, 251, 252, 253, 254] rfl (by decide +kernel) (by decide +kernel)
set_option maxRecDepth 20000 in
theorem gX3_step_X0_become : GoodIn wsX3_step (wsV RX3 30 RX0 yX0_become wsX0_become) := goodIn_app (goodIn_of _ (by decide +kernel)) ggX3_step_X0_become
set_option maxRecDepth 20000 in
theorem ggX4_init_X1_init : GoodIn wsX4_init wsX1_init := goodIn_pq _ [13, 3] [14, 2, 15, 16, 17, 40, 41, 42] rfl (by decide +kernel) (by decide +kernel)
set_option maxRecDepth 20000 in
theorem gX4_init_X1_init_n11 : GoodIn wsX4_init (wsX1_init) := ggX4_init_X1_init
set_option maxRecDepth 20000 in
theorem ggX4_init_X3_init : GoodIn wsX4_init wsX3_init := goodIn_pq _ [20, 3, 31, 35] [21, 2, 22, 23, 24, 25, 26, 27, 28, 29, 30, 32, 33, 34, 36, 15, 37, 38, 39, 48, 49, 50, 51, 46, 47, 52, 53, 54, 55] rfl (by decide +kernel) (by decide +kernel)
set_option maxRecDepth 20000 in
theorem gX4_init_X3_init : GoodIn wsX4_init (wsX3_init) := ggX4_init_X3_init
set_option maxRecDepth 20000 in
theorem ggX4_load_X4_needWordAt : GoodIn wsX4_load wsX4_needWordAt := goodIn_ca (goodIn_pq _ [6, 14] [7, 8, 1, 9, 10, 11, 12, 13, 15, 30, 31, 32] rfl (by decide +kernel) (by decide +kernel)) (goodIn_sub (fun _ h => List.mem_cons_of_mem _ (List.mem_append_right _ h)) (by decide +kernel))
set_option maxRecDepth 20000 in
theorem gX4_load_X4_needWordAt : GoodIn wsX4_load (wsV RX4 25 RX4 yX4_needWordAt wsX4_needWordAt) := goodIn_app (goodIn_of _ (by decide +kernel)) ggX4_load_X4_needWordAt
set_option maxRecDepth 20000 in
theorem ggX4_load_X1_setPair : GoodIn wsX4_load wsX1_setPair := goodIn_pq _ [19, 23, 14, 28] [20, 21, 22, 13, 15, 24, 11, 12, 25, 26, 27, 29, 33, 34, 35] rfl (by decide +kernel) (by decide +kernel)
set_option maxRecDepth 20000 in
theorem gX4_load_X1_setPair : GoodIn wsX4_load (wsV RX4 29 RX1 yX1_setPair wsX1_setPair) := goodIn_app (goodIn_of _ (by decide +kernel)) ggX4_load_X1_setPair
set_option maxRecDepth 20000 in
theorem ggX4_word_X4_needWordAt : GoodIn wsX4_word wsX4_needWordAt := goodIn_ca (goodIn_pq _ [7, 14] [8, 9, 1, 2, 10, 11, 12, 13, 15, 21, 22, 23] rfl (by decide +kernel) (by decide +kernel)) (goodIn_sub (fun _ h => List.mem_cons_of_mem _ (List.mem_append_right _ h)) (by decide +kernel))
set_option maxRecDepth 20000 in
theorem gX4_word_X4_needWordAt : GoodIn wsX4_word (wsV RX4 25 RX4 yX4_needWordAt wsX4_needWordAt) := goodIn_app (goodIn_of _ (by decide +kernel)) ggX4_word_X4_needWordAt
set_option maxRecDepth 20000 in
theorem ggX4_word_X1_valueAt : GoodIn wsX4_word wsX1_valueAt := goodIn_pq _ [19] [20, 24, 25, 26] rfl (by decide +kernel) (by decide +kernel)
set_option maxRecDepth 20000 in
theorem gX4_word_X1_valueAt : GoodIn wsX4_word (wsV RX4 34 RX1 yX1_valueAt wsX1_valueAt) := goodIn_app (goodIn_of _ (by decide +kernel)) ggX4_word_X1_valueAt
set_option maxRecDepth 20000 in
theorem ggX4_poke_X4_needWordAt : GoodIn wsX4_poke wsX4_needWordAt := goodIn_ca (goodIn_pq _ [7, 14] [8, 9, 1, 2, 10, 11, 12, 13, 15, 25, 26, 27] rfl (by decide +kernel) (by decide +kernel)) (goodIn_sub (fun _ h => List.mem_cons_of_mem _ (List.mem_append_right _ h)) (by decide +kernel))
set_option maxRecDepth 20000 in
theorem gX4_poke_X4_needWordAt : GoodIn wsX4_poke (wsV RX4 25 RX4 yX4_needWordAt wsX4_needWordAt) := goodIn_app (goodIn_of _ (by decide +kernel)) ggX4_poke_X4_needWordAt
set_option maxRecDepth 20000 in
theorem ggX4_poke_X1_valueAt : GoodIn wsX4_poke wsX1_valueAt := goodIn_pq _ [19] [20, 28, 29, 30] rfl (by decide +kernel) (by decide +kernel)
set_option maxRecDepth 20000 in
theorem gX4_poke_X1_valueAt : GoodIn wsX4_poke (wsV RX4 34 RX1 yX1_valueAt wsX1_valueAt) := goodIn_app (goodIn_of _ (by decide +kernel)) ggX4_poke_X1_valueAt
set_option maxRecDepth 20000 in
theorem ggX4_poke_X1_setWord : GoodIn wsX4_poke wsX1_setWord := goodIn_pq _ [24] [20, 15, 28, 29, 30] rfl (by decide +kernel) (by decide +kernel)
set_option maxRecDepth 20000 in
theorem gX4_poke_X1_setWord : GoodIn wsX4_poke (wsV RX4 37 RX1 yX1_setWord wsX1_setWord) := goodIn_app (goodIn_of _ (by decide +kernel)) ggX4_poke_X1_setWord
set_option maxRecDepth 20000 in
theorem ggX4_register_X4_needRegister : GoodIn wsX4_register wsX4_needRegister := goodIn_ca (goodIn_pq _ [6] [7, 8] rfl (by decide +kernel) (by decide +kernel)) (goodIn_sub (fun _ h => List.mem_cons_of_mem _ (List.mem_append_right _ h)) (by decide +kernel))
set_option maxRecDepth 20000 in
theorem gX4_register_X4_needRegister : GoodIn wsX4_register (wsV RX4 41 RX4 yX4_needRegister wsX4_needRegister) := goodIn_app (goodIn_of _ (by decide +kernel)) ggX4_register_X4_needRegister
set_option maxRecDepth 20000 in
theorem ggX4_put_X4_needRegister : GoodIn wsX4_put wsX4_needRegister := goodIn_ca (goodIn_pq _ [7] [8, 9] rfl (by decide +kernel) (by decide +kernel)) (goodIn_sub (fun _ h => List.mem_cons_of_mem _ (List.mem_append_right _ h)) (by decide +kernel))
set_option maxRecDepth 20000 in
theorem gX4_put_X4_needRegister : GoodIn wsX4_put (wsV RX4 41 RX4 yX4_needRegister wsX4_needRegister) := goodIn_app (goodIn_of _ (by decide +kernel)) ggX4_put_X4_needRegister
end
section
set_option maxRecDepth 20000 in
theorem ggX4_flags_X0_number : GoodIn wsX4_flags wsX0_number := goodIn_pq _ [6] [7, 8, 9, 10, 16, 17, 18, 19] rfl (by decide +kernel) (by decide +kernel)
set_option maxRecDepth 20000 in
theorem gX4_flags_X0_number : GoodIn wsX4_flags (wsV RX4 58 RX0 yX0_number wsX0_number) := goodIn_app (goodIn_of _ (by decide +kernel)) ggX4_flags_X0_number
set_option maxRecDepth 20000 in
theorem ggX4_flag_X0_become : GoodIn wsX4_flag wsX0_become := goodIn_pq _ [6] [7, 8, 9, 10, 16, 17, 18, 19] rfl (by decide +kernel) (by decide +kernel)
set_option maxRecDepth 20000 in
theorem gX4_flag_X0_become : GoodIn wsX4_flag (wsV RX4 64 RX0 yX0_become wsX0_become) := goodIn_app (goodIn_of _ (by decide +kernel)) ggX4_flag_X0_become
set_option maxRecDepth 20000 in
theorem ggX4_run_X3_step : GoodIn wsX4_run wsX3_step := goodIn_pq _ [9, 16, 28, 36, 41, 45, 52, 57, 62, 65, 70, 73, 78, 81, 85, 89, 94, 98, 102, 105, 110, 114, 118, 122, 126, 130, 134, 138, 144, 148, 152, 154, 159, 163, 167, 170, 174, 179, 183, 187, 191, 195, 199, 203, 207, 211, 215, 218, 224, 229, 233, 237, 241, 244, 248, 252] [10, 11, 12, 13, 14, 15, 17, 18, 19, 20, 21, 22, 23, 24, 25, 26, 27, 29, 30, 31, 32, 33, 34, 35, 37, 38, 39, 40, 42, 43, 44, 46, 47, 48, 49, 50, 51, 53, 54, 55, 56, 58, 59, 60, 61, 8, 63, 64, 66, 67, 68, 69, 71, 72, 74, 75, 76, 77, 79, 80, 82, 83, 84, 86, 87, 88, 90, 91, 92, 93, 95, 96, 97, 99, 100, 101, 103, 104, 106, 107, 108, 109, 111, 112, 113, 115, 116, 117, 119, 120, 121, 123, 124, 125, 127, 128, 129, 131, 132, 133, 135, 136, 137, 139, 140, 141, 142, 143, 145, 146, 147, 149, 150, 151, 153, 155, 156, 157, 158, 160, 161, 162, 164, 165, 166, 168, 169, 171, 172, 173, 175, 176, 177, 178, 180, 181, 182, 184, 185, 186, 188, 189, 190, 192, 193, 194, 196, 197, 198, 200, 201, 202, 204, 205, 206, 208, 209, 210, 212, 213, 214, 216, 217, 219, 220, 221, 222, 223, 225, 226, 227, 228, 230, 231, 232, 234, 235, 236, 238, 239, 240, 242, 243, 245, 246, 247, 249, 250, 251, 256, 257, 258, 259, 260, 261, 262, 263, 264, 265, 266, 267, 268] rfl (by decide +kernel) (by decide +kernel)
set_option maxRecDepth 20000 in
theorem gX4_run_X3_step : GoodIn wsX4_run (wsV RX4 74 RX3 yX3_step wsX3_step) := goodIn_app (goodIn_of _ (by decide +kernel)) ggX4_run_X3_step
set_option maxRecDepth 20000 in
theorem ggX4_clear_X1_empty : GoodIn wsX4_clear wsX1_empty := goodIn_pq _ [8, 14] [9, 10, 11, 12, 13, 41, 42, 43] rfl (by decide +kernel) (by decide +kernel)
set_option maxRecDepth 20000 in
theorem gX4_clear_X1_empty : GoodIn wsX4_clear (wsV RX4 86 RX1 yX1_empty wsX1_empty) := goodIn_app (goodIn_of _ (by decide +kernel)) ggX4_clear_X1_empty
set_option maxRecDepth 20000 in
theorem ggX4_clear_X3_empty : GoodIn wsX4_clear wsX3_empty := goodIn_pq _ [19, 26, 14, 33] [20, 21, 22, 23, 24, 25, 27, 28, 12, 13, 29, 30, 31, 32, 34, 35, 36, 37, 44, 45, 46, 47, 48, 49, 50, 51, 52, 53] rfl (by decide +kernel) (by decide +kernel)
set_option maxRecDepth 20000 in
theorem gX4_clear_X3_empty : GoodIn wsX4_clear (wsV RX4 89 RX3 yX3_empty wsX3_empty) := goodIn_app (goodIn_of _ (by decide +kernel)) ggX4_clear_X3_empty
set_option maxRecDepth 20000 in
theorem ggX4_needWordAt_X1_faultAt : GoodIn wsX4_needWordAt wsX1_faultAt := goodIn_pq _ [9] [10] rfl (by decide +kernel) (by decide +kernel)
set_option maxRecDepth 20000 in
theorem gX4_needWordAt_X1_faultAt : GoodIn wsX4_needWordAt (wsV RX4 90 RX1 yX1_faultAt wsX1_faultAt) := goodIn_app (goodIn_of _ (by decide +kernel)) ggX4_needWordAt_X1_faultAt
set_option maxRecDepth 20000 in
theorem ggX5_load_X5_isWord : GoodIn wsX5_load wsX5_isWord := goodIn_pq _ [6] [] rfl (by decide +kernel) (by decide +kernel)
set_option maxRecDepth 20000 in
theorem gX5_load_X5_isWord : GoodIn wsX5_load (va_wsS RX5 26 yX5_isWord wsX5_isWord) := goodIn_app (goodIn_of _ (by decide +kernel)) ggX5_load_X5_isWord
set_option maxRecDepth 20000 in
theorem ggX5_load_X5_setWord : GoodIn wsX5_load wsX5_setWord := goodIn_pq _ [10] [11, 12, 13, 14, 15, 16, 17, 18, 19, 20, 21, 22, 23, 24, 25, 26, 27, 28] rfl (by decide +kernel) (by decide +kernel)
set_option maxRecDepth 20000 in
theorem gX5_load_X5_setWord : GoodIn wsX5_load (wsV RX5 31 RX5 yX5_setWord wsX5_setWord) := goodIn_app (goodIn_of _ (by decide +kernel)) ggX5_load_X5_setWord
set_option maxRecDepth 20000 in
theorem ggX5_word_X5_isWord : GoodIn wsX5_word wsX5_isWord := goodIn_pq _ [5] [] rfl (by decide +kernel) (by decide +kernel)
set_option maxRecDepth 20000 in
theorem gX5_word_X5_isWord : GoodIn wsX5_word (va_wsS RX5 26 yX5_isWord wsX5_isWord) := goodIn_app (goodIn_of _ (by decide +kernel)) ggX5_word_X5_isWord
set_option maxRecDepth 20000 in
theorem ggX5_word_X5_wordAt : GoodIn wsX5_word wsX5_wordAt := goodIn_pq _ [9] [10, 11, 12, 13, 14, 15, 16, 17, 18, 19, 20, 21, 22, 23, 24, 25, 26, 27] rfl (by decide +kernel) (by decide +kernel)
set_option maxRecDepth 20000 in
theorem gX5_word_X5_wordAt : GoodIn wsX5_word (wsV RX5 35 RX5 yX5_wordAt wsX5_wordAt) := goodIn_app (goodIn_of _ (by decide +kernel)) ggX5_word_X5_wordAt
set_option maxRecDepth 20000 in
theorem ggX5_poke_X5_isWord : GoodIn wsX5_poke wsX5_isWord := goodIn_pq _ [6] [] rfl (by decide +kernel) (by decide +kernel)
set_option maxRecDepth 20000 in
theorem gX5_poke_X5_isWord : GoodIn wsX5_poke (va_wsS RX5 26 yX5_isWord wsX5_isWord) := goodIn_app (goodIn_of _ (by decide +kernel)) ggX5_poke_X5_isWord
set_option maxRecDepth 20000 in
theorem ggX5_poke_X5_wordAt : GoodIn wsX5_poke wsX5_wordAt := goodIn_pq _ [10] [11, 16, 17, 18, 19, 20, 21, 22, 23, 24, 25, 26, 27, 28, 29, 30, 31, 32] rfl (by decide +kernel) (by decide +kernel)
set_option maxRecDepth 20000 in
theorem gX5_poke_X5_wordAt : GoodIn wsX5_poke (wsV RX5 35 RX5 yX5_wordAt wsX5_wordAt) := goodIn_app (goodIn_of _ (by decide +kernel)) ggX5_poke_X5_wordAt
set_option maxRecDepth 20000 in
theorem ggX5_poke_X5_setWord : GoodIn wsX5_poke wsX5_setWord := goodIn_pq _ [15] [11, 16, 17, 18, 19, 20, 21, 22, 23, 24, 25, 26, 27, 28, 29, 30, 31, 32] rfl (by decide +kernel) (by decide +kernel)
set_option maxRecDepth 20000 in
theorem gX5_poke_X5_setWord : GoodIn wsX5_poke (wsV RX5 31 RX5 yX5_setWord wsX5_setWord) := goodIn_app (goodIn_of _ (by decide +kernel)) ggX5_poke_X5_setWord
set_option maxRecDepth 20000 in
theorem ggX5_read_X5_wordAt : GoodIn wsX5_read wsX5_wordAt := goodIn_pq _ [11] [2, 12, 13, 14, 15, 16, 17, 18, 19, 20, 21, 22, 23, 24, 25, 26, 27, 28] rfl (by decide +kernel) (by decide +kernel)
set_option maxRecDepth 20000 in
theorem gX5_read_X5_wordAt : GoodIn wsX5_read (wsV RX5 35 RX5 yX5_wordAt wsX5_wordAt) := goodIn_app (goodIn_of _ (by decide +kernel)) ggX5_read_X5_wordAt
set_option maxRecDepth 20000 in
theorem ggX5_fetch_X5_read : GoodIn wsX5_fetch wsX5_read := goodIn_pq _ [7, 13, 17] [8, 9, 10, 11, 12, 6, 14, 15, 16, 18, 19, 20, 21, 22, 23, 24, 25, 26, 27, 28, 29, 30, 31, 32, 33, 34] rfl (by decide +kernel) (by decide +kernel)
set_option maxRecDepth 20000 in
theorem gX5_fetch_X5_read : GoodIn wsX5_fetch (wsV RX5 55 RX5 yX5_read wsX5_read) := goodIn_app (goodIn_of _ (by decide +kernel)) ggX5_fetch_X5_read
set_option maxRecDepth 20000 in
theorem ggX5_does_X5_others : GoodIn wsX5_does wsX5_others := goodIn_pq _ [90, 95, 29, 13, 20, 24, 33, 37, 99, 41, 67, 71, 103, 45, 107, 110, 115, 121, 125, 63, 54, 58, 50, 129] [91, 8, 46, 92, 93, 94, 5, 14, 15, 72, 73, 74, 26, 27, 28, 10, 11, 12, 1, 7, 16, 17, 18, 19, 21, 22, 23, 25, 30, 31, 32, 34, 35, 36, 96, 97, 98, 9, 38, 39, 40, 64, 65, 66, 68, 69, 70, 100, 101, 102, 42, 43, 44, 104, 105, 106, 108, 109, 111, 112, 113, 114, 116, 117, 118, 119, 120, 59, 122, 123, 124, 60, 61, 62, 51, 52, 53, 55, 56, 57, 47, 48, 49, 126, 127, 128, 130, 131, 132, 133, 134, 135, 136, 137, 138, 139, 140, 141, 142, 143, 144, 145, 146] rfl (by decide +kernel) (by decide +kernel)
set_option maxRecDepth 20000 in
theorem gX5_does_X5_others : GoodIn wsX5_does (wsV RX5 140 RX5 yX5_others wsX5_others) := goodIn_app (goodIn_of _ (by decide +kernel)) ggX5_does_X5_others
set_option maxRecDepth 20000 in
theorem ggX5_step_X5_fetch : GoodIn wsX5_step wsX5_fetch := goodIn_pq _ [20, 24, 28, 32] [1, 14, 21, 22, 23, 19, 5, 9, 25, 26, 27, 29, 30, 31, 143, 144, 145, 146, 147, 148, 149, 150, 151, 152, 153, 154, 155, 156, 157, 158, 159] rfl (by decide +kernel) (by decide +kernel)
set_option maxRecDepth 20000 in
theorem gX5_step_X5_fetch : GoodIn wsX5_step (wsV RX5 72 RX5 yX5_fetch wsX5_fetch) := goodIn_app (goodIn_of _ (by decide +kernel)) ggX5_step_X5_fetch
set_option maxRecDepth 20000 in
theorem ggX5_step_X5_does : GoodIn wsX5_step wsX5_does := goodIn_pq _ [36, 40, 46, 51, 24, 28, 32, 20, 55, 59, 63, 67, 71, 76, 80, 84, 88, 92, 96, 100, 104, 108, 112, 116, 119, 124, 130, 134, 138] [8, 37, 38, 39, 19, 41, 1, 42, 43, 44, 45, 47, 5, 14, 48, 49, 50, 21, 22, 23, 9, 25, 26, 27, 29, 30, 31, 16, 17, 18, 52, 53, 54, 56, 57, 58, 4, 60, 61, 62, 64, 65, 66, 68, 69, 70, 72, 73, 74, 75, 77, 78, 79, 81, 82, 83, 10, 6, 11, 85, 86, 87, 89, 90, 91, 93, 94, 95, 97, 98, 99, 7, 101, 102, 103, 105, 106, 107, 109, 110, 111, 113, 114, 115, 117, 118, 120, 121, 122, 123, 125, 126, 127, 128, 129, 131, 132, 133, 135, 136, 137, 143, 144, 145, 146, 147, 148, 149, 150, 151, 152, 153, 154, 155, 156, 157, 158, 159] rfl (by decide +kernel) (by decide +kernel)
set_option maxRecDepth 20000 in
theorem gX5_step_X5_does : GoodIn wsX5_step (wsV RX5 171 RX5 yX5_does wsX5_does) := goodIn_app (goodIn_of _ (by decide +kernel)) ggX5_step_X5_does
set_option maxRecDepth 20000 in
theorem ggX5_step_X5_setWord : GoodIn wsX5_step wsX5_setWord := goodIn_pq _ [142] [9, 143, 144, 145, 146, 147, 148, 149, 150, 151, 152, 153, 154, 155, 156, 157, 158, 159] rfl (by decide +kernel) (by decide +kernel)
set_option maxRecDepth 20000 in
theorem gX5_step_X5_setWord : GoodIn wsX5_step (wsV RX5 31 RX5 yX5_setWord wsX5_setWord) := goodIn_app (goodIn_of _ (by decide +kernel)) ggX5_step_X5_setWord
set_option maxRecDepth 20000 in
theorem ggX5_run_X5_step : GoodIn wsX5_run wsX5_step := goodIn_pq _ [9, 25, 29, 33, 37, 41, 45, 51, 56, 60, 64, 68, 72, 76, 81, 85, 89, 93, 97, 101, 105, 109, 113, 117, 121, 124, 129, 135, 139, 143, 147] [10, 11, 12, 13, 3, 14, 4, 15, 16, 17, 18, 19, 20, 21, 2, 22, 23, 24, 8, 26, 27, 28, 30, 31, 32, 34, 35, 36, 38, 39, 40, 42, 43, 44, 46, 47, 48, 49, 50, 52, 53, 54, 55, 57, 58, 59, 61, 62, 63, 65, 66, 67, 69, 70, 71, 73, 74, 75, 77, 78, 79, 80, 82, 83, 84, 86, 87, 88, 90, 91, 92, 94, 95, 96, 98, 99, 100, 102, 103, 104, 106, 107, 108, 110, 111, 112, 114, 115, 116, 118, 119, 120, 122, 123, 125, 126, 127, 128, 130, 131, 132, 133, 134, 136, 137, 138, 140, 141, 142, 144, 145, 146, 148, 149, 150, 151, 152, 153, 154, 155, 156, 157, 158, 159, 160, 161, 162, 163, 164] rfl (by decide +kernel) (by decide +kernel)
set_option maxRecDepth 20000 in
theorem gX5_run_X5_step : GoodIn wsX5_run (wsV RX5 174 RX5 yX5_step wsX5_step) := goodIn_app (goodIn_of _ (by decide +kernel)) ggX5_run_X5_step
set_option maxRecDepth 20000 in
theorem ggL_load_X4_load : GoodIn wsL_load wsX4_load := goodIn_ca (goodIn_pq _ [6, 11, 19, 24, 28, 33] [7, 8, 9, 10, 5, 12, 13, 14, 15, 16, 17, 18, 20, 21, 22, 23, 25, 26, 27, 29, 30, 31, 32, 34, 35, 36, 37, 38, 39, 40] rfl (by decide +kernel) (by decide +kernel)) (goodIn_sub (fun _ h => List.mem_cons_of_mem _ (List.mem_append_right _ h)) (by decide +kernel))
set_option maxRecDepth 20000 in
theorem gL_load_X4_load : GoodIn wsL_load (wsV RL 7 RX4 yX4_load wsX4_load) := goodIn_app (goodIn_of _ (by decide +kernel)) ggL_load_X4_load
set_option maxRecDepth 20000 in
theorem ggL_word_X4_word : GoodIn wsL_word wsX4_word := goodIn_ca (goodIn_pq _ [6, 12, 19, 24] [7, 8, 9, 10, 11, 5, 13, 14, 15, 16, 17, 18, 20, 21, 22, 23, 25, 26, 27, 28, 29, 30, 31] rfl (by decide +kernel) (by decide +kernel)) (goodIn_sub (fun _ h => List.mem_cons_of_mem _ (List.mem_append_right _ h)) (by decide +kernel))
set_option maxRecDepth 20000 in
theorem gL_word_X4_word : GoodIn wsL_word (wsV RL 15 RX4 yX4_word wsX4_word) := goodIn_app (goodIn_of _ (by decide +kernel)) ggL_word_X4_word
set_option maxRecDepth 20000 in
theorem ggL_poke_X4_poke : GoodIn wsL_poke wsX4_poke := goodIn_ca (goodIn_pq _ [6, 12, 19, 24, 29] [7, 8, 9, 10, 11, 5, 13, 14, 15, 16, 17, 18, 20, 21, 22, 23, 25, 26, 27, 28, 30, 31, 32, 33, 34, 35] rfl (by decide +kernel) (by decide +kernel)) (goodIn_sub (fun _ h => List.mem_cons_of_mem _ (List.mem_append_right _ h)) (by decide +kernel))
set_option maxRecDepth 20000 in
theorem gL_poke_X4_poke : GoodIn wsL_poke (wsV RL 19 RX4 yX4_poke wsX4_poke) := goodIn_app (goodIn_of _ (by decide +kernel)) ggL_poke_X4_poke
set_option maxRecDepth 20000 in
theorem ggL_register_X4_register : GoodIn wsL_register wsX4_register := goodIn_ca (goodIn_pq _ [6, 11] [7, 8, 9, 10, 5, 12, 13, 14, 15, 16, 17, 18, 19, 20, 21, 22] rfl (by decide +kernel) (by decide +kernel)) (goodIn_sub (fun _ h => List.mem_cons_of_mem _ (List.mem_append_right _ h)) (by decide +kernel))
set_option maxRecDepth 20000 in
theorem gL_register_X4_register : GoodIn wsL_register (wsV RL 23 RX4 yX4_register wsX4_register) := goodIn_app (goodIn_of _ (by decide +kernel)) ggL_register_X4_register
set_option maxRecDepth 20000 in
theorem ggL_put_X4_put : GoodIn wsL_put wsX4_put := goodIn_ca (goodIn_pq _ [6, 12] [7, 8, 9, 10, 11, 5, 13, 14, 15, 16, 17, 18, 19, 20, 21, 22, 23] rfl (by decide +kernel) (by decide +kernel)) (goodIn_sub (fun _ h => List.mem_cons_of_mem _ (List.mem_append_right _ h)) (by decide +kernel))
set_option maxRecDepth 20000 in
theorem gL_put_X4_put : GoodIn wsL_put (wsV RL 26 RX4 yX4_put wsX4_put) := goodIn_app (goodIn_of _ (by decide +kernel)) ggL_put_X4_put
set_option maxRecDepth 20000 in
theorem ggL_run_X4_run : GoodIn wsL_run wsX4_run := goodIn_ca (goodIn_pq _ [6, 15, 22, 34, 42, 47, 51, 58, 63, 68, 71, 76, 79, 84, 87, 91, 95, 100, 104, 108, 110, 115, 119, 123, 127, 131, 135, 139, 143, 149, 153, 157, 159, 164, 168, 172, 175, 179, 184, 188, 192, 196, 200, 204, 208, 212, 216, 220, 223, 229, 234, 238, 242, 246, 249, 253, 257] [7, 8, 9, 10, 11, 12, 13, 14, 16, 17, 18, 19, 20, 21, 23, 24, 25, 26, 27, 28, 29, 30, 31, 32, 33, 35, 36, 37, 38, 39, 40, 41, 43, 44, 45, 46, 48, 49, 50, 52, 53, 54, 55, 56, 57, 59, 60, 61, 62, 64, 65, 66, 67, 69, 70, 72, 73, 74, 75, 77, 78, 80, 81, 82, 83, 85, 86, 88, 89, 90, 92, 93, 94, 96, 97, 98, 99, 101, 102, 103, 105, 106, 107, 109, 5, 111, 112, 113, 114, 116, 117, 118, 120, 121, 122, 124, 125, 126, 128, 129, 130, 132, 133, 134, 136, 137, 138, 140, 141, 142, 144, 145, 146, 147, 148, 150, 151, 152, 154, 155, 156, 158, 160, 161, 162, 163, 165, 166, 167, 169, 170, 171, 173, 174, 176, 177, 178, 180, 181, 182, 183, 185, 186, 187, 189, 190, 191, 193, 194, 195, 197, 198, 199, 201, 202, 203, 205, 206, 207, 209, 210, 211, 213, 214, 215, 217, 218, 219, 221, 222, 224, 225, 226, 227, 228, 230, 231, 232, 233, 235, 236, 237, 239, 240, 241, 243, 244, 245, 247, 248, 250, 251, 252, 254, 255, 256, 258, 259, 260, 261, 262, 263, 264, 265, 266, 267, 268, 269, 270, 271, 272, 273] rfl (by decide +kernel) (by decide +kernel)) (goodIn_sub (fun _ h => List.mem_cons_of_mem _ (List.mem_append_right _ h)) (by decide +kernel))
set_option maxRecDepth 20000 in
theorem gL_run_X4_run : GoodIn wsL_run (wsV RL 30 RX4 yX4_run wsX4_run) := goodIn_app (goodIn_of _ (by decide +kernel)) ggL_run_X4_run
set_option maxRecDepth 20000 in
theorem ggL_output_X4_output : GoodIn wsL_output wsX4_output := goodIn_ca (goodIn_pq _ [6] [7, 8, 9, 10, 11, 12, 13, 14, 15] rfl (by decide +kernel) (by decide +kernel)) (goodIn_sub (fun _ h => List.mem_cons_of_mem _ (List.mem_append_right _ h)) (by decide +kernel))
set_option maxRecDepth 20000 in
theorem gL_output_X4_output : GoodIn wsL_output (wsV RL 35 RX4 yX4_output wsX4_output) := goodIn_app (goodIn_of _ (by decide +kernel)) ggL_output_X4_output
set_option maxRecDepth 20000 in
theorem ggL_law_X4_init : GoodIn wsL_law wsX4_init := goodIn_pq _ [9, 12, 22, 29, 40, 44] [10, 11, 13, 14, 15, 16, 17, 18, 19, 20, 21, 23, 24, 25, 26, 27, 28, 30, 31, 32, 33, 34, 35, 36, 37, 38, 39, 41, 42, 43, 45, 46, 47, 48, 631, 632, 633, 611, 612, 613, 634, 635, 636, 637, 638, 639, 640, 641, 642, 643] rfl (by decide +kernel) (by decide +kernel)
set_option maxRecDepth 20000 in
theorem gL_law_X4_init : GoodIn wsL_law (wsX4_init) := ggL_law_X4_init
end
section
set_option maxRecDepth 20000 in
theorem ggL_law_X5_init : GoodIn wsL_law wsX5_init := goodIn_pq _ [51, 12] [52, 11, 24, 53, 54, 55, 56, 614, 615, 616, 617, 618, 619, 620, 621, 622, 623, 624, 625, 626, 627, 628, 629, 630] rfl (by decide +kernel) (by decide +kernel)
set_option maxRecDepth 20000 in
theorem gL_law_X5_init : GoodIn wsL_law (wsX5_init) := ggL_law_X5_init
set_option maxRecDepth 20000 in
theorem ggL_law_L_load : GoodIn wsL_law wsL_load := goodIn_ca (goodIn_pq _ [65, 69, 76, 81, 85, 90] [60, 61, 62, 63, 64, 2, 16, 66, 67, 68, 70, 71, 72, 73, 74, 75, 15, 77, 78, 79, 80, 82, 83, 84, 86, 87, 88, 89, 25, 611, 612, 613, 631, 632, 633] rfl (by decide +kernel) (by decide +kernel)) (goodIn_sub (fun _ h => List.mem_append_left _ (List.mem_append_right _ h)) (by decide +kernel))
set_option maxRecDepth 20000 in
theorem gL_law_L_load : GoodIn wsL_law (va_wsS RL 42 yL_load wsL_load) := goodIn_app (goodIn_of _ (by decide +kernel)) ggL_law_L_load
set_option maxRecDepth 20000 in
theorem ggL_law_X5_load : GoodIn wsL_law wsX5_load := goodIn_pq _ [94, 99, 103] [95, 96, 97, 98, 5, 100, 101, 102, 53, 614, 615, 616, 617, 618, 619, 620, 621, 622, 623, 624, 625, 626, 627, 628, 629, 630] rfl (by decide +kernel) (by decide +kernel)
set_option maxRecDepth 20000 in
theorem gL_law_X5_load : GoodIn wsL_law (wsV RL 47 RX5 yX5_load wsX5_load) := goodIn_app (goodIn_of _ (by decide +kernel)) ggL_law_X5_load
set_option maxRecDepth 20000 in
theorem ggL_law_X5_thrown : GoodIn wsL_law wsX5_thrown := goodIn_pq _ [107] [95, 614, 615, 616, 617, 618, 619, 620, 621, 622, 623, 624, 625, 626, 627, 628, 629, 630] rfl (by decide +kernel) (by decide +kernel)
set_option maxRecDepth 20000 in
theorem gL_law_X5_thrown : GoodIn wsL_law (wsV RL 48 RX5 yX5_thrown wsX5_thrown) := goodIn_app (goodIn_of _ (by decide +kernel)) ggL_law_X5_thrown
set_option maxRecDepth 20000 in
theorem ggL_law_L_word : GoodIn wsL_law wsL_word := goodIn_ca (goodIn_pq _ [114, 69, 76, 118] [110, 61, 111, 112, 113, 2, 16, 72, 66, 67, 68, 70, 71, 73, 74, 75, 15, 77, 115, 116, 117, 25, 611, 612, 613, 631, 632, 633] rfl (by decide +kernel) (by decide +kernel)) (goodIn_sub (fun _ h => List.mem_append_left _ (List.mem_append_right _ h)) (by decide +kernel))
set_option maxRecDepth 20000 in
theorem gL_law_L_word : GoodIn wsL_law (va_wsS RL 52 yL_word wsL_word) := goodIn_app (goodIn_of _ (by decide +kernel)) ggL_law_L_word
set_option maxRecDepth 20000 in
theorem ggL_law_X5_word : GoodIn wsL_law wsX5_word := goodIn_pq _ [122, 99, 126] [95, 97, 98, 5, 123, 124, 125, 53, 614, 615, 616, 617, 618, 619, 620, 621, 622, 623, 624, 625, 626, 627, 628, 629, 630] rfl (by decide +kernel) (by decide +kernel)
set_option maxRecDepth 20000 in
theorem gL_law_X5_word : GoodIn wsL_law (wsV RL 55 RX5 yX5_word wsX5_word) := goodIn_app (goodIn_of _ (by decide +kernel)) ggL_law_X5_word
set_option maxRecDepth 20000 in
theorem ggL_law_L_poke : GoodIn wsL_law wsL_poke := goodIn_ca (goodIn_pq _ [133, 69, 76, 118, 90] [129, 61, 130, 131, 132, 2, 16, 72, 66, 67, 68, 70, 71, 73, 74, 75, 15, 77, 115, 116, 117, 25, 134, 88, 89, 611, 612, 613, 631, 632, 633] rfl (by decide +kernel) (by decide +kernel)) (goodIn_sub (fun _ h => List.mem_append_left _ (List.mem_append_right _ h)) (by decide +kernel))
set_option maxRecDepth 20000 in
theorem gL_law_L_poke : GoodIn wsL_law (va_wsS RL 56 yL_poke wsL_poke) := goodIn_app (goodIn_of _ (by decide +kernel)) ggL_law_L_poke
set_option maxRecDepth 20000 in
theorem ggL_law_X5_poke : GoodIn wsL_law wsX5_poke := goodIn_pq _ [138, 99, 126, 103] [95, 96, 97, 98, 5, 123, 124, 125, 53, 100, 101, 102, 614, 615, 616, 617, 618, 619, 620, 621, 622, 623, 624, 625, 626, 627, 628, 629, 630] rfl (by decide +kernel) (by decide +kernel)
set_option maxRecDepth 20000 in
theorem gL_law_X5_poke : GoodIn wsL_law (wsV RL 59 RX5 yX5_poke wsX5_poke) := goodIn_app (goodIn_of _ (by decide +kernel)) ggL_law_X5_poke
set_option maxRecDepth 20000 in
theorem ggL_law_L_register : GoodIn wsL_law wsL_register := goodIn_ca (goodIn_pq _ [145, 149] [141, 61, 142, 143, 144, 2, 20, 146, 147, 148, 70, 71, 611, 612, 613, 634, 635, 640, 641, 642, 643] rfl (by decide +kernel) (by decide +kernel)) (goodIn_sub (fun _ h => List.mem_append_left _ (List.mem_append_right _ h)) (by decide +kernel))
set_option maxRecDepth 20000 in
theorem gL_law_L_register : GoodIn wsL_law (va_wsS RL 60 yL_register wsL_register) := goodIn_app (goodIn_of _ (by decide +kernel)) ggL_law_L_register
set_option maxRecDepth 20000 in
theorem ggL_law_X5_register : GoodIn wsL_law wsX5_register := goodIn_pq _ [153] [95, 54, 614, 615, 616, 617, 618, 619, 620, 621, 622, 623, 624, 625, 626, 627, 628, 629, 630] rfl (by decide +kernel) (by decide +kernel)
set_option maxRecDepth 20000 in
theorem gL_law_X5_register : GoodIn wsL_law (wsV RL 62 RX5 yX5_register wsX5_register) := goodIn_app (goodIn_of _ (by decide +kernel)) ggL_law_X5_register
set_option maxRecDepth 20000 in
theorem ggL_law_L_put : GoodIn wsL_law wsL_put := goodIn_ca (goodIn_pq _ [160, 149] [156, 61, 157, 158, 159, 2, 20, 72, 146, 147, 148, 70, 71, 611, 612, 613, 634, 635, 640, 641, 642, 643] rfl (by decide +kernel) (by decide +kernel)) (goodIn_sub (fun _ h => List.mem_append_left _ (List.mem_append_right _ h)) (by decide +kernel))
set_option maxRecDepth 20000 in
theorem gL_law_L_put : GoodIn wsL_law (va_wsS RL 63 yL_put wsL_put) := goodIn_app (goodIn_of _ (by decide +kernel)) ggL_law_L_put
set_option maxRecDepth 20000 in
theorem ggL_law_X5_put : GoodIn wsL_law wsX5_put := goodIn_pq _ [164] [95, 54, 96, 614, 615, 616, 617, 618, 619, 620, 621, 622, 623, 624, 625, 626, 627, 628, 629, 630] rfl (by decide +kernel) (by decide +kernel)
set_option maxRecDepth 20000 in
theorem gL_law_X5_put : GoodIn wsL_law (wsV RL 66 RX5 yX5_put wsX5_put) := goodIn_app (goodIn_of _ (by decide +kernel)) ggL_law_X5_put
set_option maxRecDepth 20000 in
theorem ggL_law_X4_flags : GoodIn wsL_law wsX4_flags := goodIn_pq _ [168, 172] [20, 169, 170, 171, 33, 173, 174, 175, 176, 611, 612, 613, 634, 635, 636, 637, 638, 639] rfl (by decide +kernel) (by decide +kernel)
set_option maxRecDepth 20000 in
theorem gL_law_X4_flags : GoodIn wsL_law (wsV RL 67 RX4 yX4_flags wsX4_flags) := goodIn_app (goodIn_of _ (by decide +kernel)) ggL_law_X4_flags
set_option maxRecDepth 20000 in
theorem ggL_law_X5_flags : GoodIn wsL_law wsX5_flags := goodIn_pq _ [180] [95, 181, 614, 615, 616, 617, 618, 619, 620, 621, 622, 623, 624, 625, 626, 627, 628, 629, 630] rfl (by decide +kernel) (by decide +kernel)
set_option maxRecDepth 20000 in
theorem gL_law_X5_flags : GoodIn wsL_law (wsV RL 70 RX5 yX5_flags wsX5_flags) := goodIn_app (goodIn_of _ (by decide +kernel)) ggL_law_X5_flags
set_option maxRecDepth 20000 in
theorem ggL_law_X4_flag : GoodIn wsL_law wsX4_flag := goodIn_pq _ [185, 189] [20, 186, 187, 188, 33, 173, 174, 175, 176, 611, 612, 613, 634, 635, 636, 637, 638, 639] rfl (by decide +kernel) (by decide +kernel)
set_option maxRecDepth 20000 in
theorem gL_law_X4_flag : GoodIn wsL_law (wsV RL 71 RX4 yX4_flag wsX4_flag) := goodIn_app (goodIn_of _ (by decide +kernel)) ggL_law_X4_flag
set_option maxRecDepth 20000 in
theorem ggL_law_X5_flag : GoodIn wsL_law wsX5_flag := goodIn_pq _ [193] [95, 181, 614, 615, 616, 617, 618, 619, 620, 621, 622, 623, 624, 625, 626, 627, 628, 629, 630] rfl (by decide +kernel) (by decide +kernel)
set_option maxRecDepth 20000 in
theorem gL_law_X5_flag : GoodIn wsL_law (wsV RL 75 RX5 yX5_flag wsX5_flag) := goodIn_app (goodIn_of _ (by decide +kernel)) ggL_law_X5_flag
set_option maxRecDepth 20000 in
theorem ggL_law_L_run : GoodIn wsL_law wsL_run := goodIn_ca (goodIn_pq _ [201, 208, 212, 172, 222, 227, 231, 76, 118, 238, 241, 246, 249, 254, 257, 261, 265, 270, 274, 278, 280, 285, 289, 293, 297, 301, 305, 309, 313, 318, 322, 326, 328, 333, 337, 341, 344, 348, 353, 357, 361, 189, 366, 370, 374, 378, 382, 386, 389, 395, 400, 404, 408, 412, 415, 419, 423] [196, 197, 198, 199, 200, 2, 202, 203, 204, 20, 205, 206, 207, 19, 38, 34, 209, 210, 211, 37, 46, 47, 213, 214, 215, 216, 217, 218, 170, 171, 33, 173, 174, 175, 176, 219, 220, 221, 223, 224, 225, 226, 228, 229, 230, 232, 48, 233, 74, 75, 15, 77, 234, 116, 117, 25, 235, 236, 237, 239, 240, 242, 243, 244, 245, 247, 248, 250, 251, 252, 253, 255, 256, 258, 259, 260, 262, 263, 264, 266, 267, 268, 269, 271, 272, 273, 275, 276, 277, 279, 281, 282, 283, 284, 286, 287, 288, 290, 291, 292, 294, 295, 296, 298, 299, 300, 302, 303, 304, 306, 307, 308, 310, 311, 312, 314, 26, 315, 316, 317, 319, 320, 321, 323, 324, 325, 327, 329, 330, 331, 332, 334, 335, 336, 338, 339, 340, 342, 343, 345, 346, 347, 349, 350, 351, 352, 354, 355, 356, 358, 359, 360, 362, 187, 188, 363, 364, 365, 367, 368, 369, 371, 372, 373, 375, 376, 377, 379, 380, 381, 383, 384, 385, 387, 388, 390, 391, 392, 393, 394, 396, 397, 398, 399, 401, 402, 403, 405, 406, 407, 409, 410, 411, 413, 414, 416, 417, 418, 420, 421, 422, 611, 612, 613, 634, 635, 640, 641, 642, 643, 636, 637, 638, 639, 631, 632, 633] rfl (by decide +kernel) (by decide +kernel)) (goodIn_sub (fun _ h => List.mem_append_right _ h) (by decide +kernel))
set_option maxRecDepth 20000 in
theorem gL_law_L_run : GoodIn wsL_law (va_wsS RL 76 yL_run wsL_run) := goodIn_app (goodIn_of _ (by decide +kernel)) ggL_law_L_run
set_option maxRecDepth 20000 in
theorem ggL_law_X5_run : GoodIn wsL_law wsX5_run := goodIn_pq _ [427, 434, 444, 448, 452, 126, 456, 460, 466, 471, 475, 479, 483, 487, 491, 496, 500, 504, 508, 512, 516, 520, 524, 528, 532, 536, 539, 544, 550, 554, 558, 103] [95, 428, 429, 430, 431, 432, 433, 5, 56, 54, 181, 435, 436, 437, 53, 438, 439, 440, 55, 96, 441, 442, 443, 445, 446, 447, 449, 450, 451, 123, 124, 125, 453, 454, 455, 457, 458, 459, 461, 462, 463, 464, 465, 467, 468, 469, 470, 472, 473, 474, 476, 477, 478, 480, 481, 482, 484, 485, 486, 488, 489, 490, 492, 493, 494, 495, 497, 498, 499, 501, 502, 503, 505, 506, 507, 509, 510, 511, 513, 514, 515, 517, 518, 519, 521, 522, 523, 525, 526, 527, 529, 530, 531, 533, 534, 535, 537, 538, 540, 541, 542, 543, 545, 546, 547, 548, 549, 551, 552, 553, 555, 556, 557, 100, 101, 102, 614, 615, 616, 617, 618, 619, 620, 621, 622, 623, 624, 625, 626, 627, 628, 629, 630] rfl (by decide +kernel) (by decide +kernel)
set_option maxRecDepth 20000 in
theorem gL_law_X5_run : GoodIn wsL_law (wsV RL 78 RX5 yX5_run wsX5_run) := goodIn_app (goodIn_of _ (by decide +kernel)) ggL_law_X5_run
set_option maxRecDepth 20000 in
theorem ggL_law_X4_steps : GoodIn wsL_law wsX4_steps := goodIn_pq _ [562] [204, 611, 612, 613] rfl (by decide +kernel) (by decide +kernel)
set_option maxRecDepth 20000 in
theorem gL_law_X4_steps : GoodIn wsL_law (wsV RL 79 RX4 yX4_steps wsX4_steps) := goodIn_app (goodIn_of _ (by decide +kernel)) ggL_law_X4_steps
set_option maxRecDepth 20000 in
theorem ggL_law_X5_steps : GoodIn wsL_law wsX5_steps := goodIn_pq _ [566] [95, 428, 614, 615, 616, 617, 618, 619, 620, 621, 622, 623, 624, 625, 626, 627, 628, 629, 630] rfl (by decide +kernel) (by decide +kernel)
set_option maxRecDepth 20000 in
theorem gL_law_X5_steps : GoodIn wsL_law (wsV RL 82 RX5 yX5_steps wsX5_steps) := goodIn_app (goodIn_of _ (by decide +kernel)) ggL_law_X5_steps
set_option maxRecDepth 20000 in
theorem ggL_law_L_output : GoodIn wsL_law wsL_output := goodIn_ca (goodIn_pq _ [573] [569, 61, 570, 571, 572, 2, 70, 71, 16, 611, 612, 613, 631, 632, 633] rfl (by decide +kernel) (by decide +kernel)) (goodIn_sub (fun _ h => List.mem_append_left _ (List.mem_append_right _ h)) (by decide +kernel))
set_option maxRecDepth 20000 in
theorem gL_law_L_output : GoodIn wsL_law (va_wsS RL 83 yL_output wsL_output) := goodIn_app (goodIn_of _ (by decide +kernel)) ggL_law_L_output
set_option maxRecDepth 20000 in
theorem ggL_law_X5_output : GoodIn wsL_law wsX5_output := goodIn_pq _ [577] [440, 95, 55, 614, 615, 616, 617, 618, 619, 620, 621, 622, 623, 624, 625, 626, 627, 628, 629, 630] rfl (by decide +kernel) (by decide +kernel)
set_option maxRecDepth 20000 in
theorem gL_law_X5_output : GoodIn wsL_law (wsV RL 85 RX5 yX5_output wsX5_output) := goodIn_app (goodIn_of _ (by decide +kernel)) ggL_law_X5_output
set_option maxRecDepth 20000 in
theorem ggL_law_X4_outputs : GoodIn wsL_law wsX4_outputs := goodIn_pq _ [581] [16, 611, 612, 613, 631, 632, 633] rfl (by decide +kernel) (by decide +kernel)
set_option maxRecDepth 20000 in
theorem gL_law_X4_outputs : GoodIn wsL_law (wsV RL 86 RX4 yX4_outputs wsX4_outputs) := goodIn_app (goodIn_of _ (by decide +kernel)) ggL_law_X4_outputs
set_option maxRecDepth 20000 in
theorem ggL_law_X5_outputs : GoodIn wsL_law wsX5_outputs := goodIn_pq _ [585] [95, 440, 614, 615, 616, 617, 618, 619, 620, 621, 622, 623, 624, 625, 626, 627, 628, 629, 630] rfl (by decide +kernel) (by decide +kernel)
set_option maxRecDepth 20000 in
theorem gL_law_X5_outputs : GoodIn wsL_law (wsV RL 89 RX5 yX5_outputs wsX5_outputs) := goodIn_app (goodIn_of _ (by decide +kernel)) ggL_law_X5_outputs
set_option maxRecDepth 20000 in
theorem ggL_law_X4_clear : GoodIn wsL_law wsX4_clear := goodIn_pq _ [589, 593, 597, 601, 605, 189] [16, 20, 204, 590, 591, 592, 15, 25, 314, 594, 595, 596, 598, 599, 600, 19, 38, 34, 602, 603, 604, 37, 46, 606, 362, 187, 188, 33, 173, 174, 175, 176, 611, 612, 613, 631, 632, 633, 634, 635, 640, 641, 642, 643, 636, 637, 638, 639] rfl (by decide +kernel) (by decide +kernel)
set_option maxRecDepth 20000 in
theorem gL_law_X4_clear : GoodIn wsL_law (wsV RL 90 RX4 yX4_clear wsX4_clear) := goodIn_app (goodIn_of _ (by decide +kernel)) ggL_law_X4_clear
set_option maxRecDepth 20000 in
theorem ggL_law_X5_clear : GoodIn wsL_law wsX5_clear := goodIn_pq _ [610] [95, 53, 54, 181, 440, 428, 614, 615, 616, 617, 618, 619, 620, 621, 622, 623, 624, 625, 626, 627, 628, 629, 630] rfl (by decide +kernel) (by decide +kernel)
set_option maxRecDepth 20000 in
theorem gL_law_X5_clear : GoodIn wsL_law (wsV RL 93 RX5 yX5_clear wsX5_clear) := goodIn_app (goodIn_of _ (by decide +kernel)) ggL_law_X5_clear
end
section
section XC
variable {p : Program} {l : Launch} {e : Env} {R : Room} {s : State} {m : MethodId} {args : Array Value} {below : List Frame} {meth : Method} {c : Code} {T : State} {locs : List Loc} {cells slots : Nat} {H : Heap} {Q : State → Prop}
/-- a table of one row that covers the place and names a class that links and fits: found there, the tables one note warmer -/
theorem xq_search {f : JFrame} {a : Addr} {mt : Method} {cd : Code} {x : ExceptionTableEntry} {k : ClassId} {cell : Cell} (hm : s.vm.method? f.method = some mt) (hc : mt.code = some cd) (ht : cd.exceptionTable.toList = [x])
    (hx : covers x f.pc = true) (h0 : x.catchType ≠ 0) (hl : s.vm.ClassLinks e.platform f.method.cls x.catchType k) (hcell : s.heap[a]? = some cell) (hobj : ∀ z, cell.vm ≠ .statics z)
    (hk1 : ∃ z, s.vm.classes[cell.cls]? = some z) (hk2 : ∃ z, s.vm.classes[k]? = some z) (hfit : s.vm.assignable cell.cls k = true) (Q : Handler → Pre) (E : CtlPost) (d : Bool) (acts : List Action) :
    wp (findHandler f a) Q E e d acts s ↔ Q (.found x.handlerPc) d acts (s.setVm (s.vm.noted f.method.cls x.catchType (.cls k))) := by
  rw [Jvm.W.findHandler_eq hm hc, ht]
  have hx' : (decide (x.startPc ≤ f.pc) && decide (f.pc < x.endPc)) = true := hx
  obtain ⟨ra, rt⟩ := (resolveClass_links e.toSetting hl).op (op := VmOp.resolveClass f.method.cls x.catchType) rfl
  have al : s.vm.Alike (s.vm.noted f.method.cls x.catchType (.cls k)) := (Vm.Alike.refl s.vm).noted _ _ _
  obtain ⟨z1, hz1⟩ := hk1
  obtain ⟨z2, hz2⟩ := hk2
  obtain ⟨w1, hw1, -⟩ := al.2.2 _ _ hz1
  obtain ⟨w2, hw2, -⟩ := al.2.2 _ _ hz2
  have hfit' : (s.vm.noted f.method.cls x.catchType (.cls k)).assignable cell.cls k = true := (al.assignable _ _).trans hfit
  simp [findHandler.go, hx', h0, ra, rt, hcell, hobj, hw1, hw2, hfit', VmOp.dirties, VmOp.acts]
theorem xq_caught {tb : Tables} {target : State} {g : JFrame} {a : Addr} (h : At s g.method c below) {pc : Nat} {vm' : Vm}
    (hfind : ∀ (Q : Handler → Pre) (E : CtlPost) (d : Bool) (acts : List Action), wp (findHandler g a) Q E e d acts ((s.setTop g).pushFrame (.throwing a)) ↔ Q (.found pc) d acts (((s.setTop g).pushFrame (.throwing a)).setVm vm'))
    (hrest : Steps tb e below ((s.setVm vm').setTop { g with pc := pc, stack := [.ref a] }) target) : Steps tb e below ((s.setTop g).pushFrame (.throwing a)) target := by
  obtain ⟨hgo, hw⟩ := h.throwing a
  refine Steps.head hgo hw ?_
  have hstep : ∀ (r : List Frame), (stepThrowing e ((s.setTop g).pushFrame (.throwing a)) a (.java g :: r)).1 = (((s.setTop g).pushFrame (.throwing a)).setVm vm').setFrames (.java { g with pc := pc, stack := [.ref a] } :: r) := by
    intro r
    simp only [stepThrowing, searchFrame, vmDo]
    generalize hr : Sem.go _ e false [] ((s.setTop g).pushFrame (.throwing a)) = res
    obtain ⟨as, rfl, ha⟩ := Sem.eq_ok_of hr (a := Handler.found pc) (s' := ((s.setTop g).pushFrame (.throwing a)).setVm vm') (acts' := []) (by simp [hfind _ _ _ _])
    rfl
  rw [stepThread_throwing (frames_entered h.top _), hstep]
  obtain ⟨g₀, hg⟩ := Option.isSome_iff_exists.mp h.top
  obtain ⟨r, hr⟩ := State.topJava?_eq_some.mp hg
  have hr' : (s.setVm vm').frames = .java g₀ :: r := hr
  have e1 : ∀ (F G : List Frame), ((s.setFrames F).setVm vm').setFrames G = (s.setVm vm').setFrames G := fun F G => by
    rw [show (s.setFrames F).setVm vm' = (s.setVm vm').setFrames F from rfl, State.setFrames_setFrames]
  rw [State.setTop_of_frames _ hr'] at hrest
  rw [hr, List.tail_cons, State.pushFrame, State.setTop_of_frames _ hr, State.setFrames_setFrames, e1]
  exact hrest
end XC
/-! Our own words for contracts. -/
/-- words that no list of a method holds: links of nest mates, and what a throw wants beside -/
def q_nl : List Cond := [.methodLinkNest RX4 11 yX1_init "WordGuest", .fieldLinkNest RX4 83 "WordGuest$Memory" "told" "[I" "WordGuest", .fieldLinkNest RX4 77 "WordGuest$Memory" "toldCount" "I" "WordGuest", .methodLinkNest RX3 11 yX0_init "WordGuest", .fieldLinkNest RX3 138 "WordGuest$Flags" "n" "Z" "WordGuest", .fieldLinkNest RX3 160 "WordGuest$Flags" "z" "Z" "WordGuest", .fieldLinkNest RX3 92 "WordGuest$Flags" "v" "Z" "WordGuest", .fieldLinkNest RX3 102 "WordGuest$Flags" "c" "Z" "WordGuest", .fieldLinkNest RX4 48 "WordGuest$Parts" "registers" "[I" "WordGuest", .fieldLinkNest RX3 181 "WordGuest$Parts" "registers" "[I" "WordGuest", .fieldLinkNest RX3 44 "WordGuest$Parts" "fault" "I" "WordGuest", .fieldLinkNest RX4 44 "WordGuest$Processor" "parts" "LWordGuest$Parts;" "WordGuest", .fieldLinkNest RX4 54 "WordGuest$Processor" "conditions" "LWordGuest$Flags;" "WordGuest", .methodLinkNest RX3 105 yX4_signOf "WordGuest", .methodLinkNest RX0 22 yX4_signOf "WordGuest", .methodLinkNest RX3 178 yX4_signed "WordGuest", .methodLinkNest RX2 68 yX4_signed "WordGuest", .castable "java/lang/IndexOutOfBoundsException" "java/lang/IndexOutOfBoundsException", .castable "java/lang/IllegalArgumentException" "java/lang/IllegalArgumentException", .declares ⟨"java/lang/RuntimeException", "<init>", "()V"⟩, .declares ⟨"java/lang/Exception", "<init>", "()V"⟩, .declares ⟨"java/lang/Throwable", "<init>", "()V"⟩]
def nst (U : State) : Prop := ∀ w ∈ q_nl, va_Nw w U
theorem q_nl_on : ∀ w ∈ q_nl, w.onTables = true := by decide +kernel
theorem nst_same {u U : State} (h : u.vm = U.vm) (hN : nst u) : nst U := fun w hw => va_Nw.same (q_nl_on w hw) h (hN w hw)
theorem nst_warm {s U : State} (hW : s.WarmedH U.vm) (hN : nst s) : nst U := by
  intro w hw
  have h := hN w hw
  simp only [q_nl, List.mem_cons, List.not_mem_nil, or_false] at hw
  rcases hw with rfl | rfl | rfl | rfl | rfl | rfl | rfl | rfl | rfl | rfl | rfl | rfl | rfl | rfl | rfl | rfl | rfl | rfl | rfl | rfl | rfl | rfl
  all_goals first | exact va_Nw.warmF hW h | exact va_Nw.warmM hW h | exact va_Nw.warmC hW h | exact va_Nw.warmD hW h
/-- where a contract begins: the cells, the tables, the nest words -/
def q_pre (dC : Nat → ClassId) (dI : Nat → Nat → Nat) (sz : Nat) (ws : va_W) (tys : List (ClassId × FieldType)) (U : State) : Prop := U.heap.size = sz ∧ va_P (dC, dI) vwCl ws U.heap ∧ va_K (dC, dI) vwCl tys U ∧ va_D (fun _ => True) ws ∧ nst U
/-- the two statics that a throw reads -/
def q_thr (A : Nat → Prop) (U : State) (H : Heap) : Prop := vx_Zq Bundle.tN "UNASSIGNED_STACK" Bundle.steD A U H ∧ vx_Zq Bundle.tN "SUPPRESSED_SENTINEL" Bundle.listD A U H
def q_prx (dC : Nat → ClassId) (dI : Nat → Nat → Nat) (sz : Nat) (ws : va_W) (tys : List (ClassId × FieldType)) (U : State) : Prop := q_pre dC dI sz ws tys U ∧ q_thr (va_A ws sz) U U.heap
/-- the world behind a method -/
abbrev q_at {S : Type} (dC : Nat → ClassId) (dI : Nat → Nat → Nat) (A : Nat → Prop) (tys : S → List (ClassId × FieldType)) (f : S → va_W) (u : S) (t : State) : Prop := va_P (dC, dI) vwCl (f u) t.heap ∧ va_K (dC, dI) vwCl (tys u) t ∧ va_D A (f u)
theorem q_blind {dC : Nat → ClassId} {dI : Nat → Nat → Nat} {sz : Nat} {ws : va_W} {tys : List (ClassId × FieldType)} {av : List Value} : FrameBlind (va_Pc av (q_pre dC dI sz ws tys)) := fun a U g mk q => by
  obtain ⟨q0, q1, qP, qK, qD, qN⟩ := q
  exact ⟨q0, q1, qP, va_K.moved (u := U) (U := U.calling g mk a) (Vm.Alike.refl U.vm) qK, qD, nst_same (u := U) rfl qN⟩
theorem q_blindx {dC : Nat → ClassId} {dI : Nat → Nat → Nat} {sz : Nat} {ws : va_W} {tys : List (ClassId × FieldType)} {av : List Value} : FrameBlind (va_Pc av (q_prx dC dI sz ws tys)) := fun a U g mk q => by
  obtain ⟨q0, ⟨q1, qP, qK, qD, qN⟩, qU, qS⟩ := q
  exact ⟨q0, ⟨q1, qP, va_K.moved (u := U) (U := U.calling g mk a) (Vm.Alike.refl U.vm) qK, qD, nst_same (u := U) rfl qN⟩, vx_Zq.moved (u := U) (U := U.calling g mk a) (Vm.Alike.refl U.vm) qU, vx_Zq.moved (u := U) (U := U.calling g mk a) (Vm.Alike.refl U.vm) qS⟩
theorem q_pay {dC : Nat → ClassId} {dI : Nat → Nat → Nat} {ws : va_W} {tys : List (ClassId × FieldType)} {s U : State} {H : Heap} {A : Nat → Prop} (hU : U.heap = H) (hW : s.WarmedH U.vm) (hP : va_P (dC, dI) vwCl ws H) (hK : va_K (dC, dI) vwCl tys s) (hD : va_D A ws) (hN : nst s) : q_pre dC dI H.size ws tys U :=
  ⟨by rw [hU], by rw [hU]; exact hP, va_K.moved hW.alike hK, hD.weaken (fun _ _ _ _ => trivial), nst_warm hW hN⟩
theorem q_thr_to {A B : Nat → Prop} {s U : State} {H0 H : Heap} {locs : List Loc} (h : q_thr A s H0) (hW : s.WarmedH U.vm) (hS : va_S A H0 H locs) (hAB : ∀ q, B q → A q) : q_thr B U H :=
  ⟨vx_Zq.moved hW.alike ((h.1.kept hS.2.1).narrow hAB), vx_Zq.moved hW.alike ((h.2.kept hS.2.1).narrow hAB)⟩
theorem q_payx {dC : Nat → ClassId} {dI : Nat → Nat → Nat} {ws : va_W} {tys : List (ClassId × FieldType)} {s U : State} {H0 H : Heap} {A : Nat → Prop} {locs : List Loc} (hU : U.heap = H) (hW : s.WarmedH U.vm) (hP : va_P (dC, dI) vwCl ws H) (hK : va_K (dC, dI) vwCl tys s) (hD : va_D A ws) (hN : nst s) (hT : q_thr A s H0) (hS : va_S A H0 H locs) (hF : ∀ q, va_A ws H.size q → A q) : q_prx dC dI H.size ws tys U :=
  ⟨q_pay hU hW hP hK hD hN, by rw [hU]; exact q_thr_to hT hW hS hF⟩
theorem q_nz {v : Int32} (h : v = 0 ∨ v = 1) : narrow .boolean (.int v) = .int v := by rcases h with rfl | rfl <;> rfl
theorem q_fz {v : Int32} (h : v = 0 ∨ v = 1) : fits .boolean (.int v) = true := by rcases h with rfl | rfl <;> rfl
theorem q_zi (cA : ClassId) (n : Nat) : vp_cell cA (n, .inl (fun _ => 0)) = arrV cA n (fun _ => defaultValue .int) := rfl
theorem q_zl (cA : ClassId) (n : Nat) : vp_cell cA (n, .inr (.inl (fun _ => 0))) = arrV cA n (fun _ => defaultValue .long) := rfl
section QR
variable {p : Program} {l : Launch} {e : Env} {R : Room} {s : State} {m : MethodId} {args : Array Value} {below : List Frame} {meth : Method} {c : Code} {H : Heap} {locs : List Loc} {cells slots : Nat} {Q : State → Prop} {pc : Nat} {ls : Array Slot} {rest : List Value}
theorem q_toc {x y : Int32} (h : x = y) (k : W p l e R s m args below meth c H locs cells slots Q (F0 m pc ls (.int y :: rest))) : W p l e R s m args below meth c H locs cells slots Q (F0 m pc ls (.int x :: rest)) := by rw [h]; exact k
theorem q_tol {x y : Int64} (h : x = y) (k : W p l e R s m args below meth c H locs cells slots Q (F0 m pc ls (.long y :: rest))) : W p l e R s m args below meth c H locs cells slots Q (F0 m pc ls (.long x :: rest)) := by rw [h]; exact k
/-- two roads that meet at pj with 0 or 1 on the stack -/
theorem q_bool (pj : Nat) (rest : List Value) {g : JFrame} (k : ∀ b : Int32, (b = 0 ∨ b = 1) → W p l e R s m args below meth c H locs cells slots Q (F0 m pj ls (.int b :: rest)))
    (h : (∀ b : Int32, (b = 0 ∨ b = 1) → W p l e R s m args below meth c H locs cells slots Q (F0 m pj ls (.int b :: rest))) → W p l e R s m args below meth c H locs cells slots Q g) : W p l e R s m args below meth c H locs cells slots Q g := h k
/-- roads that meet at pj -/
theorem q_meet (J : Heap → List Loc → Array Slot → Prop) (pj : Nat) (st : List Value) {H0 : Heap} {locs0 : List Loc} {g : JFrame} (k : ∀ H locs ls, J H locs ls → W p l e R s m args below meth c H locs cells slots Q (F0 m pj ls st))
    (h : (∀ H locs ls, J H locs ls → W p l e R s m args below meth c H locs cells slots Q (F0 m pj ls st)) → W p l e R s m args below meth c H0 locs0 cells slots Q g) : W p l e R s m args below meth c H0 locs0 cells slots Q g := h k
/-- a loop whose head is at pj, n turns to go -/
theorem q_loop (J : Nat → Heap → List Loc → Array Slot → Prop) (pj : Nat) (b : ∀ H locs ls, J 0 H locs ls → W p l e R s m args below meth c H locs cells slots Q (F0 m pj ls []))
    (t : ∀ n, (∀ H locs ls, J n H locs ls → W p l e R s m args below meth c H locs cells slots Q (F0 m pj ls [])) → ∀ H locs ls, J (n + 1) H locs ls → W p l e R s m args below meth c H locs cells slots Q (F0 m pj ls [])) :
    ∀ n H locs ls, J n H locs ls → W p l e R s m args below meth c H locs cells slots Q (F0 m pj ls []) := by
  intro n
  induction n with
  | zero => exact b
  | succ n ih => exact t n ih
theorem q_u0 (k : Nat) : upd (fun _ => 0) k 0 = (fun _ => 0) := by
  funext j
  unfold upd
  split <;> rfl
/-- caught by the one row of this method's table -/
theorem q_catch {own E : String} {ce : Cell} {q : Addr} {x : ExceptionTableEntry} (hown : s.vm.findClass own = some m.cls) (ht : c.exceptionTable.toList = [x]) (hcov : covers x pc = true) (h0 : x.catchType ≠ 0)
    (hcl : (Cond.classLink own x.catchType E).before args s = true) (hcast : (Cond.castable E E).before args s = true) (n2 : H[q]? = some ce) (n3 : ce.vm = .none) (n4 : s.vm.findClass E = some ce.cls)
    (kk : W p l e R s m args below meth c H locs cells slots Q (F0 m x.handlerPc ls [.ref q])) : vx_W p l e R s m args below meth c H locs cells slots Q (F0 m pc ls rest) q := by
  intro T' hT X'
  have n2 : T'.heap[q]? = some ce := by rw [hT]; exact n2
  have hpl : e.platform.magicAccessors = ({} : Platform).magicAccessors := by rw [X'.admits.platform]
  obtain ⟨k, hk, hlk⟩ := Cond.classLink_spec hown hcl e.platform hpl
  cases n4.symm.trans hk
  obtain ⟨c3, c4, hc3, hc4, hasg⟩ := Cond.castable_spec hcast
  cases n4.symm.trans hc3
  cases n4.symm.trans hc4
  obtain ⟨dk, _, _, kt, hd, _, _, _, _, hkt, _, hopen⟩ := hlk.here
  have hlk' := X'.warmed.classLinks hlk
  have hW' : s.WarmedH (T'.vm.noted m.cls x.catchType (.cls ce.cls)) := X'.warmed.noted hd hopen (State.rightAt_cls hlk)
  have al := X'.warmed.alike
  obtain ⟨kt', hkt', -⟩ := al.2.2 _ _ hkt
  have hfit : T'.vm.assignable ce.cls ce.cls = true := (al.assignable _ _).trans hasg
  obtain ⟨t, a1, b1⟩ := kk (T'.setVm (T'.vm.noted m.cls x.catchType (.cls ce.cls))) hT (X'.noted hW')
  refine ⟨t, ?_, b1⟩
  refine xq_caught (s := T') (c := c) (g := F0 m pc ls rest) X'.here (fun Q' E' d acts => ?_) a1
  exact xq_search (s := (T'.setTop (F0 m pc ls rest)).pushFrame (.throwing q)) (f := F0 m pc ls rest) (mt := meth) (cd := c) X'.method' X'.code ht hcov h0 (k := ce.cls) (cell := ce) hlk' n2 (fun z h => by rw [n3] at h; cases h) ⟨kt', hkt'⟩ ⟨kt', hkt'⟩ hfit Q' E' d acts
end QR
end
section
/-- the fault of a place -/
def fb (pl : Int32) : Int32 := if pl < 0 then 3 else if pl < 4096 then 0 else 3
def fa (pl k : Int32) : Int32 := if k = 65535 then (if pl &&& 1 = 0 then fb pl else 2) else fb pl
/-- one, if a word has its place there -/
def ct (pl : Int32) : Int32 := if fa pl 65535 = 0 then 1 else 0
theorem q_zs (x : Int32) : (0 : Int32) >>> x = 0 := by
  apply Int32.toBitVec_inj.mp
  simp [Int32.toBitVec_shiftRight]
theorem q_zw (x y : Int32) : ((0 : Int32) >>> x) &&& y = 0 := by rw [q_zs]; simp
set_option maxHeartbeats 4000000 in
set_option maxRecDepth 100000 in
theorem c_X1_faultAt (l : Launch) (dC : Nat → ClassId) (dI : Nat → Nat → Nat) (sz : Nat) (h0 : Nat) (pl : Int32) (k : Int32)  : Met l yX1_faultAt wsX1_faultAt ({ frames := 0, cells := 0, slots := 0, locals := 0 }) (va_Pc [.ref h0, .int pl, .int k] (q_pre dC dI sz [] [])) (va_Qi (fun (r : Int32) (u9 : Unit) => r = fa pl k) (q_at dC dI (va_A [] sz) (fun (u9 : Unit) => []) (fun (u9 : Unit) => [])) (va_A [] sz)) 0 0 (va_A [] sz) := by
  refine Met.ofW (cc := cX1_faultAt) (maxL := 3) (ret := (some .int)) (by decide) rfl ?_
  intro p e s m args below meth c s₁ B hml hv
  obtain ⟨rfl, hsz, hP, hK, hD0, hN⟩ := hv
  have hx := B.exec
  have hb := B.bytes
  have hr := B.returns
  have hts := atoms_spec (ws := wsX1_faultAt) B.pre
  have hown : s.vm.findClass RX1 = some m.cls := findClass_of_methodNamed B.named
  have hlocks := B.notSynchronized
  subst hsz
  have hD := hD0.self (sz := s.heap.size)
  generalize hAe : va_A [] s.heap.size = A at hD ⊢
  have hA : ∀ q : Nat, s.heap.size ≤ q → A q := fun q h => by rw [← hAe]; exact Or.inr h
  have hS : va_S A s.heap s.heap [] := va_S.rf
  have hP : va_P (dC, dI) vwCl [] s.heap := hP
  have hl := lv_entry ([.ref h0, .int pl, .int k]) (n := 3) (Nat.le_of_ble_eq_true rfl)
  rw [lg_entry_eq]
  generalize (lg_sl ([.ref h0, .int pl, .int k]) ++ List.replicate (3 - (lg_sl ([.ref h0, .int pl, .int k])).length) Slot.unset).toArray = ls at hl ⊢
  have hl : lv_has ls 3 [(0, .ref h0), (1, .int pl), (2, .int k)] := hl
  refine lv_iload_n hx hb dX1_faultAt_0 rfl (lv_at hl 2 rfl) ?_
  refine lv_ldc (v := 65535) hx hb hown (hts (.constant RX1 18 (65535)) (by decide +kernel)) dX1_faultAt_1 ?_
  refine lv_icmp_ne (tgt := 14) hx hb dX1_faultAt_3 (by decide) (fun c_1 => ?_) (fun c_1 => ?_)
  · refine lv_iload_n hx hb dX1_faultAt_14 rfl (lv_at hl 1 rfl) ?_
    refine lv_if_lt (tgt := 25) hx hb dX1_faultAt_15 (by decide) (fun c_2 => ?_) (fun c_2 => ?_)
    · refine lv_iconst (v := 3) hx hb dX1_faultAt_25 (by decide) ?_
      refine lv_goto (tgt := 30) hx hb dX1_faultAt_26 (by decide) ?_
      have hP9 := hP.sub (ws' := []) [] rfl
      have hD9 := hD.sub (ws' := []) [] (by decide) rfl
      have hK9 := hK.sub (tys' := []) [] rfl
      exact W.iret (v := 3) hx hb hr (fun t ht hW => ⟨⟨3, (), rfl, (by simp [fa, fb, c_1, c_2]), by rw [ht]; exact hP9, va_K.moved hW.alike hK9, hD9⟩, hS.F ht⟩) hS.2.2 dX1_faultAt_30
    · refine lv_iload_n hx hb dX1_faultAt_18 rfl (lv_at hl 1 rfl) ?_
      refine lv_sipush (v := 4096) hx hb dX1_faultAt_19 (by decide) ?_
      refine lv_icmp_lt (tgt := 29) hx hb dX1_faultAt_22 (by decide) (fun c_3 => ?_) (fun c_3 => ?_)
      · refine lv_iconst (v := 0) hx hb dX1_faultAt_29 (by decide) ?_
        have hP9 := hP.sub (ws' := []) [] rfl
        have hD9 := hD.sub (ws' := []) [] (by decide) rfl
        have hK9 := hK.sub (tys' := []) [] rfl
        exact W.iret (v := 0) hx hb hr (fun t ht hW => ⟨⟨0, (), rfl, (by simp [fa, fb, c_1, c_2, c_3]), by rw [ht]; exact hP9, va_K.moved hW.alike hK9, hD9⟩, hS.F ht⟩) hS.2.2 dX1_faultAt_30
      · refine lv_iconst (v := 3) hx hb dX1_faultAt_25 (by decide) ?_
        refine lv_goto (tgt := 30) hx hb dX1_faultAt_26 (by decide) ?_
        have hP9 := hP.sub (ws' := []) [] rfl
        have hD9 := hD.sub (ws' := []) [] (by decide) rfl
        have hK9 := hK.sub (tys' := []) [] rfl
        exact W.iret (v := 3) hx hb hr (fun t ht hW => ⟨⟨3, (), rfl, (by simp [fa, fb, c_1, c_2, c_3]), by rw [ht]; exact hP9, va_K.moved hW.alike hK9, hD9⟩, hS.F ht⟩) hS.2.2 dX1_faultAt_30
  · refine lv_iload_n hx hb dX1_faultAt_6 rfl (lv_at hl 1 rfl) ?_
    refine lv_iconst (v := 1) hx hb dX1_faultAt_7 (by decide) ?_
    refine lv_iand hx hb dX1_faultAt_8 ?_
    refine lv_if_eq (tgt := 14) hx hb dX1_faultAt_9 (by decide) (fun c_4 => ?_) (fun c_4 => ?_)
    · refine lv_iload_n hx hb dX1_faultAt_14 rfl (lv_at hl 1 rfl) ?_
      refine lv_if_lt (tgt := 25) hx hb dX1_faultAt_15 (by decide) (fun c_5 => ?_) (fun c_5 => ?_)
      · refine lv_iconst (v := 3) hx hb dX1_faultAt_25 (by decide) ?_
        refine lv_goto (tgt := 30) hx hb dX1_faultAt_26 (by decide) ?_
        have hP9 := hP.sub (ws' := []) [] rfl
        have hD9 := hD.sub (ws' := []) [] (by decide) rfl
        have hK9 := hK.sub (tys' := []) [] rfl
        exact W.iret (v := 3) hx hb hr (fun t ht hW => ⟨⟨3, (), rfl, (by simp [fa, fb, c_1, c_4, c_5]), by rw [ht]; exact hP9, va_K.moved hW.alike hK9, hD9⟩, hS.F ht⟩) hS.2.2 dX1_faultAt_30
      · refine lv_iload_n hx hb dX1_faultAt_18 rfl (lv_at hl 1 rfl) ?_
        refine lv_sipush (v := 4096) hx hb dX1_faultAt_19 (by decide) ?_
        refine lv_icmp_lt (tgt := 29) hx hb dX1_faultAt_22 (by decide) (fun c_6 => ?_) (fun c_6 => ?_)
        · refine lv_iconst (v := 0) hx hb dX1_faultAt_29 (by decide) ?_
          have hP9 := hP.sub (ws' := []) [] rfl
          have hD9 := hD.sub (ws' := []) [] (by decide) rfl
          have hK9 := hK.sub (tys' := []) [] rfl
          exact W.iret (v := 0) hx hb hr (fun t ht hW => ⟨⟨0, (), rfl, (by simp [fa, fb, c_1, c_4, c_5, c_6]), by rw [ht]; exact hP9, va_K.moved hW.alike hK9, hD9⟩, hS.F ht⟩) hS.2.2 dX1_faultAt_30
        · refine lv_iconst (v := 3) hx hb dX1_faultAt_25 (by decide) ?_
          refine lv_goto (tgt := 30) hx hb dX1_faultAt_26 (by decide) ?_
          have hP9 := hP.sub (ws' := []) [] rfl
          have hD9 := hD.sub (ws' := []) [] (by decide) rfl
          have hK9 := hK.sub (tys' := []) [] rfl
          exact W.iret (v := 3) hx hb hr (fun t ht hW => ⟨⟨3, (), rfl, (by simp [fa, fb, c_1, c_4, c_5, c_6]), by rw [ht]; exact hP9, va_K.moved hW.alike hK9, hD9⟩, hS.F ht⟩) hS.2.2 dX1_faultAt_30
    · refine lv_iconst (v := 2) hx hb dX1_faultAt_12 (by decide) ?_
      have hP9 := hP.sub (ws' := []) [] rfl
      have hD9 := hD.sub (ws' := []) [] (by decide) rfl
      have hK9 := hK.sub (tys' := []) [] rfl
      exact W.iret (v := 2) hx hb hr (fun t ht hW => ⟨⟨2, (), rfl, (by simp [fa, fb, c_1, c_4]), by rw [ht]; exact hP9, va_K.moved hW.alike hK9, hD9⟩, hS.F ht⟩) hS.2.2 dX1_faultAt_13
set_option maxHeartbeats 4000000 in
set_option maxRecDepth 100000 in
theorem c_X1_valueAt (l : Launch) (dC : Nat → ClassId) (dI : Nat → Nat → Nat) (sz : Nat) (hM : Nat) (hW : Nat) (hT : Nat) (cnt : Int32) (cW : ClassId) (words : Nat → Int32) (pl : Int32) (k : Int32)  : Met l yX1_valueAt wsX1_valueAt ({ frames := 0, cells := 0, slots := 0, locals := 0 }) (va_Pc [.ref hM, .int pl, .int k] (q_pre dC dI sz [(hM, .inr (1, [.ref hW, .ref hT, .int cnt])), (hW, .inl (cW, 2048, .inl words))] [(cW, .int)])) (va_Qi (fun (r : Int32) (u9 : Unit) => r = (words ((pl >>> (1 &&& 31)) &&& 2047).toNatClampNeg >>> (((pl &&& 1) * 8) &&& 31)) &&& k) (q_at dC dI (va_A [(hM, .inr (1, [.ref hW, .ref hT, .int cnt])), (hW, .inl (cW, 2048, .inl words))] sz) (fun (u9 : Unit) => [(cW, .int)]) (fun (u9 : Unit) => [(hM, .inr (1, [.ref hW, .ref hT, .int cnt])), (hW, .inl (cW, 2048, .inl words))])) (va_A [(hM, .inr (1, [.ref hW, .ref hT, .int cnt])), (hW, .inl (cW, 2048, .inl words))] sz)) 0 0 (va_A [(hM, .inr (1, [.ref hW, .ref hT, .int cnt])), (hW, .inl (cW, 2048, .inl words))] sz) := by
  refine Met.ofW (cc := cX1_valueAt) (maxL := 4) (ret := (some .int)) (by decide) rfl ?_
  intro p e s m args below meth c s₁ B hml hv
  obtain ⟨rfl, hsz, hP, hK, hD0, hN⟩ := hv
  have hx := B.exec
  have hb := B.bytes
  have hr := B.returns
  have hts := atoms_spec (ws := wsX1_valueAt) B.pre
  have hown : s.vm.findClass RX1 = some m.cls := findClass_of_methodNamed B.named
  have hlocks := B.notSynchronized
  subst hsz
  have hD := hD0.self (sz := s.heap.size)
  generalize hAe : va_A [(hM, .inr (1, [.ref hW, .ref hT, .int cnt])), (hW, .inl (cW, 2048, .inl words))] s.heap.size = A at hD ⊢
  have hA : ∀ q : Nat, s.heap.size ≤ q → A q := fun q h => by rw [← hAe]; exact Or.inr h
  have hS : va_S A s.heap s.heap [] := va_S.rf
  have hP : va_P (dC, dI) vwCl [(hM, .inr (1, [.ref hW, .ref hT, .int cnt])), (hW, .inl (cW, 2048, .inl words))] s.heap := hP
  have hl := lv_entry ([.ref hM, .int pl, .int k]) (n := 4) (Nat.le_of_ble_eq_true rfl)
  rw [lg_entry_eq]
  generalize (lg_sl ([.ref hM, .int pl, .int k]) ++ List.replicate (4 - (lg_sl ([.ref hM, .int pl, .int k])).length) Slot.unset).toArray = ls at hl ⊢
  have hl : lv_has ls 4 [(0, .ref hM), (1, .int pl), (2, .int k)] := hl
  refine lv_iload_n hx hb dX1_valueAt_0 rfl (lv_at hl 1 rfl) ?_
  refine lv_iconst (v := 1) hx hb dX1_valueAt_1 (by decide) ?_
  refine lv_iand hx hb dX1_valueAt_2 ?_
  refine lv_bipush (v := 8) hx hb dX1_valueAt_3 (by decide) ?_
  refine lv_imul hx hb dX1_valueAt_5 ?_
  refine lv_istore_n (lv' := [(3, .int ((pl &&& 1) * 8)), (0, .ref hM), (1, .int pl), (2, .int k)]) hx hb dX1_valueAt_6 rfl hl (by decide) rfl (fun ls hl => ?_)
  refine lv_aload_n hx hb dX1_valueAt_7 rfl (lv_at hl 1 rfl) ?_
  refine va_get (D := (dC, dI)) (ci := 1) (v := .ref hW) (C := RX1) (T := TX1) (N := 3) hx hb hts (by decide +kernel) hown hK hP 0 rfl rfl 0 (by decide) (hts (.fieldLink RX1 9 "WordGuest$Memory" "words" "[I") (by decide +kernel)) (fun _ h9 => h9) rfl dX1_valueAt_8 ?_
  refine lv_iload_n hx hb dX1_valueAt_11 rfl (lv_at hl 2 rfl) ?_
  refine lv_iconst (v := 1) hx hb dX1_valueAt_12 (by decide) ?_
  refine lv_ishr hx hb dX1_valueAt_13 ?_
  refine lv_sipush (v := 2047) hx hb dX1_valueAt_14 (by decide) ?_
  refine lv_iand hx hb dX1_valueAt_17 ?_
  refine va_iald hx hb hK hP 1 0 rfl rfl (pk_andIn _ 11 (by decide) (by decide)) dX1_valueAt_18 ?_
  refine lv_iload_n hx hb dX1_valueAt_19 rfl (lv_at hl 0 rfl) ?_
  refine lv_ishr hx hb dX1_valueAt_20 ?_
  refine lv_iload_n hx hb dX1_valueAt_21 rfl (lv_at hl 3 rfl) ?_
  refine lv_iand hx hb dX1_valueAt_22 ?_
  have hP9 := hP.sub (ws' := [(hM, .inr (1, [.ref hW, .ref hT, .int cnt])), (hW, .inl (cW, 2048, .inl words))]) [0, 1] rfl
  have hD9 := hD.sub (ws' := [(hM, .inr (1, [.ref hW, .ref hT, .int cnt])), (hW, .inl (cW, 2048, .inl words))]) [0, 1] (by decide) rfl
  have hK9 := hK.sub (tys' := [(cW, .int)]) [0] rfl
  exact W.iret (v := ((words ((pl >>> (1 &&& 31)) &&& 2047).toNatClampNeg) >>> (((pl &&& 1) * 8) &&& 31)) &&& k) hx hb hr (fun t ht hW => ⟨⟨((words ((pl >>> (1 &&& 31)) &&& 2047).toNatClampNeg) >>> (((pl &&& 1) * 8) &&& 31)) &&& k, (), rfl, rfl, by rw [ht]; exact hP9, va_K.moved hW.alike hK9, hD9⟩, hS.F ht⟩) hS.2.2 dX1_valueAt_23
set_option maxHeartbeats 4000000 in
set_option maxRecDepth 100000 in
theorem c_X1_setWord (l : Launch) (dC : Nat → ClassId) (dI : Nat → Nat → Nat) (sz : Nat) (hM : Nat) (hW : Nat) (hT : Nat) (cnt : Int32) (cW : ClassId) (words : Nat → Int32) (pl : Int32) (v : Int32)  : Met l yX1_setWord wsX1_setWord ({ frames := 0, cells := 0, slots := 0, locals := 0 }) (va_Pc [.ref hM, .int pl, .int v] (q_pre dC dI sz [(hM, .inr (1, [.ref hW, .ref hT, .int cnt])), (hW, .inl (cW, 2048, .inl words))] [(cW, .int)])) (va_Qv (fun (u9 : (Nat → Int32)) => u9 = upd words ((pl >>> (1 &&& 31)) &&& 2047).toNatClampNeg (v &&& 65535)) (q_at dC dI (va_A [(hM, .inr (1, [.ref hW, .ref hT, .int cnt])), (hW, .inl (cW, 2048, .inl words))] sz) (fun (u9 : (Nat → Int32)) => [(cW, .int)]) (fun (u9 : (Nat → Int32)) => [(hM, .inr (1, [.ref hW, .ref hT, .int cnt])), (hW, .inl (cW, 2048, .inl u9))])) (va_A [(hM, .inr (1, [.ref hW, .ref hT, .int cnt])), (hW, .inl (cW, 2048, .inl words))] sz)) 0 0 (va_A [(hM, .inr (1, [.ref hW, .ref hT, .int cnt])), (hW, .inl (cW, 2048, .inl words))] sz) := by
  refine Met.ofW (cc := cX1_setWord) (maxL := 3) (ret := none) (by decide) rfl ?_
  intro p e s m args below meth c s₁ B hml hv
  obtain ⟨rfl, hsz, hP, hK, hD0, hN⟩ := hv
  have hx := B.exec
  have hb := B.bytes
  have hr := B.returns
  have hts := atoms_spec (ws := wsX1_setWord) B.pre
  have hown : s.vm.findClass RX1 = some m.cls := findClass_of_methodNamed B.named
  have hlocks := B.notSynchronized
  subst hsz
  have hD := hD0.self (sz := s.heap.size)
  generalize hAe : va_A [(hM, .inr (1, [.ref hW, .ref hT, .int cnt])), (hW, .inl (cW, 2048, .inl words))] s.heap.size = A at hD ⊢
  have hA : ∀ q : Nat, s.heap.size ≤ q → A q := fun q h => by rw [← hAe]; exact Or.inr h
  have hS : va_S A s.heap s.heap [] := va_S.rf
  have hP : va_P (dC, dI) vwCl [(hM, .inr (1, [.ref hW, .ref hT, .int cnt])), (hW, .inl (cW, 2048, .inl words))] s.heap := hP
  have hl := lv_entry ([.ref hM, .int pl, .int v]) (n := 3) (Nat.le_of_ble_eq_true rfl)
  rw [lg_entry_eq]
  generalize (lg_sl ([.ref hM, .int pl, .int v]) ++ List.replicate (3 - (lg_sl ([.ref hM, .int pl, .int v])).length) Slot.unset).toArray = ls at hl ⊢
  have hl : lv_has ls 3 [(0, .ref hM), (1, .int pl), (2, .int v)] := hl
  refine lv_aload_n hx hb dX1_setWord_0 rfl (lv_at hl 0 rfl) ?_
  refine va_get (D := (dC, dI)) (ci := 1) (v := .ref hW) (C := RX1) (T := TX1) (N := 3) hx hb hts (by decide +kernel) hown hK hP 0 rfl rfl 0 (by decide) (hts (.fieldLink RX1 9 "WordGuest$Memory" "words" "[I") (by decide +kernel)) (fun _ h9 => h9) rfl dX1_setWord_1 ?_
  refine lv_iload_n hx hb dX1_setWord_4 rfl (lv_at hl 1 rfl) ?_
  refine lv_iconst (v := 1) hx hb dX1_setWord_5 (by decide) ?_
  refine lv_ishr hx hb dX1_setWord_6 ?_
  refine lv_sipush (v := 2047) hx hb dX1_setWord_7 (by decide) ?_
  refine lv_iand hx hb dX1_setWord_10 ?_
  refine lv_iload_n hx hb dX1_setWord_11 rfl (lv_at hl 2 rfl) ?_
  refine lv_ldc (v := 65535) hx hb hown (hts (.constant RX1 18 (65535)) (by decide +kernel)) dX1_setWord_12 ?_
  refine lv_iand hx hb dX1_setWord_14 ?_
  refine va_iast hx hb hK hP hD hS 1 0 rfl rfl (pk_andIn _ 11 (by decide) (by decide)) dX1_setWord_15 (fun H locs hP hD hS => ?_)
  have hP : va_P (dC, dI) vwCl [(hM, .inr (1, [.ref hW, .ref hT, .int cnt])), (hW, .inl (cW, 2048, .inl (upd words ((pl >>> (1 &&& 31)) &&& 2047).toNatClampNeg (v &&& 65535))))] H := hP
  have hD : va_D A [(hM, .inr (1, [.ref hW, .ref hT, .int cnt])), (hW, .inl (cW, 2048, .inl (upd words ((pl >>> (1 &&& 31)) &&& 2047).toNatClampNeg (v &&& 65535))))] := hD
  have hP9 := hP.sub (ws' := [(hM, .inr (1, [.ref hW, .ref hT, .int cnt])), (hW, .inl (cW, 2048, .inl (upd words ((pl >>> (1 &&& 31)) &&& 2047).toNatClampNeg (v &&& 65535))))]) [0, 1] rfl
  have hD9 := hD.sub (ws' := [(hM, .inr (1, [.ref hW, .ref hT, .int cnt])), (hW, .inl (cW, 2048, .inl (upd words ((pl >>> (1 &&& 31)) &&& 2047).toNatClampNeg (v &&& 65535))))]) [0, 1] (by decide) rfl
  have hK9 := hK.sub (tys' := [(cW, .int)]) [0] rfl
  exact W.vret hx hb hr (fun t ht hW => ⟨⟨(upd words ((pl >>> (1 &&& 31)) &&& 2047).toNatClampNeg (v &&& 65535)), rfl, rfl, by rw [ht]; exact hP9, va_K.moved hW.alike hK9, hD9⟩, hS.F ht⟩) hS.2.2 dX1_setWord_16
set_option maxHeartbeats 4000000 in
set_option maxRecDepth 100000 in
theorem c_X1_setIfThere (l : Launch) (dC : Nat → ClassId) (dI : Nat → Nat → Nat) (sz : Nat) (hM : Nat) (hW : Nat) (hT : Nat) (cnt : Int32) (cW : ClassId) (words : Nat → Int32) (pl : Int32) (v : Int32)  : Met l yX1_setIfThere wsX1_setIfThere ({ frames := 1, cells := 0, slots := 0, locals := 22 }) (va_Pc [.ref hM, .int pl, .int v] (q_pre dC dI sz [(hM, .inr (1, [.ref hW, .ref hT, .int cnt])), (hW, .inl (cW, 2048, .inl words))] [(cW, .int)])) (va_Qi (fun (r : Int32) (u9 : (Nat → Int32)) => r = ct pl) (q_at dC dI (va_A [(hM, .inr (1, [.ref hW, .ref hT, .int cnt])), (hW, .inl (cW, 2048, .inl words))] sz) (fun (u9 : (Nat → Int32)) => [(cW, .int)]) (fun (u9 : (Nat → Int32)) => [(hM, .inr (1, [.ref hW, .ref hT, .int cnt])), (hW, .inl (cW, 2048, .inl u9))])) (va_A [(hM, .inr (1, [.ref hW, .ref hT, .int cnt])), (hW, .inl (cW, 2048, .inl words))] sz)) 0 0 (va_A [(hM, .inr (1, [.ref hW, .ref hT, .int cnt])), (hW, .inl (cW, 2048, .inl words))] sz) := by
  refine Met.ofW (cc := cX1_setIfThere) (maxL := 3) (ret := (some .int)) (by decide) rfl ?_
  intro p e s m args below meth c s₁ B hml hv
  obtain ⟨rfl, hsz, hP, hK, hD0, hN⟩ := hv
  have hx := B.exec
  have hb := B.bytes
  have hr := B.returns
  have hts := atoms_spec (ws := wsX1_setIfThere) B.pre
  have hown : s.vm.findClass RX1 = some m.cls := findClass_of_methodNamed B.named
  have hlocks := B.notSynchronized
  subst hsz
  have hD := hD0.self (sz := s.heap.size)
  generalize hAe : va_A [(hM, .inr (1, [.ref hW, .ref hT, .int cnt])), (hW, .inl (cW, 2048, .inl words))] s.heap.size = A at hD ⊢
  have hA : ∀ q : Nat, s.heap.size ≤ q → A q := fun q h => by rw [← hAe]; exact Or.inr h
  have hS : va_S A s.heap s.heap [] := va_S.rf
  have hP : va_P (dC, dI) vwCl [(hM, .inr (1, [.ref hW, .ref hT, .int cnt])), (hW, .inl (cW, 2048, .inl words))] s.heap := hP
  have hl := lv_entry ([.ref hM, .int pl, .int v]) (n := 3) (Nat.le_of_ble_eq_true rfl)
  rw [lg_entry_eq]
  generalize (lg_sl ([.ref hM, .int pl, .int v]) ++ List.replicate (3 - (lg_sl ([.ref hM, .int pl, .int v])).length) Slot.unset).toArray = ls at hl ⊢
  have hl : lv_has ls 3 [(0, .ref hM), (1, .int pl), (2, .int v)] := hl
  refine lv_aload_n hx hb dX1_setIfThere_0 rfl (lv_at hl 0 rfl) ?_
  refine lv_iload_n hx hb dX1_setIfThere_1 rfl (lv_at hl 1 rfl) ?_
  refine lv_ldc (v := 65535) hx hb hown (hts (.constant RX1 18 (65535)) (by decide +kernel)) dX1_setIfThere_2 ?_
  have hPc := hP.sub (ws' := []) [] rfl
  have hDc := hD.sub (ws' := []) [] (by decide) rfl
  have hKc := hK.sub (tys' := []) [] rfl
  have hFc := va_free (wc := []) hD hS hA [] rfl
  refine va_calli (va_runV (C := RX1) (b := hM) (As := [.int pl, .int 65535]) (rest := []) ⟨hx, hb, hml, hown, hts⟩ (c_X1_faultAt l dC dI s.heap.size hM pl (65535 : Int32)) (cwV 2 hts gX1_setIfThere_X1_faultAt rfl rfl rfl (by decide +kernel) ⟨Nat.le_of_ble_eq_true rfl, Nat.le_of_ble_eq_true rfl⟩) ⟨q_blind, va_recv hK hP (ci := 1) (q0 := 0) rfl rfl, fun U hU hW => ⟨rfl, q_pay hU hW hPc hKc hDc hN⟩⟩ rfl rfl hl.1 rfl (lv_room (Nat.le_of_ble_eq_true rfl)) dX1_setIfThere_4 ⟨Nat.le_of_ble_eq_true rfl, Nat.le_of_ble_eq_true rfl⟩) hS (fun q _ h => hFc q h) hFc (fun r_1 u9 t H locs ht hvm hw_2 hB hz1 hk1 hS => ?_)
  obtain ⟨hP1, hK1, hD1⟩ := hB
  rw [ht] at hP1
  obtain ⟨hP, hD⟩ := va_join (wr := [(hM, .inr (1, [.ref hW, .ref hT, .int cnt])), (hW, .inl (cW, 2048, .inl words))]) (w1 := []) hP hD [] [0, 1] rfl rfl (by decide) (by decide) hk1 hFc hP1 hD1
  have hP : va_P (dC, dI) vwCl [(hM, .inr (1, [.ref hW, .ref hT, .int cnt])), (hW, .inl (cW, 2048, .inl words))] H := hP
  have hD : va_D A [(hM, .inr (1, [.ref hW, .ref hT, .int cnt])), (hW, .inl (cW, 2048, .inl words))] := hD
  refine W.widen (k := 0) (n := 0) (by decide) (by decide) ?_
  try dsimp only at hw_2
  obtain rfl := hw_2
  refine lv_if_eq (tgt := 12) hx hb dX1_setIfThere_7 (by decide) (fun c_3 => ?_) (fun c_3 => ?_)
  · refine lv_aload_n hx hb dX1_setIfThere_12 rfl (lv_at hl 0 rfl) ?_
    refine lv_iload_n hx hb dX1_setIfThere_13 rfl (lv_at hl 1 rfl) ?_
    refine lv_iload_n hx hb dX1_setIfThere_14 rfl (lv_at hl 2 rfl) ?_
    have hPc := hP.sub (ws' := [(hM, .inr (1, [.ref hW, .ref hT, .int cnt])), (hW, .inl (cW, 2048, .inl words))]) [0, 1] rfl
    have hDc := hD.sub (ws' := [(hM, .inr (1, [.ref hW, .ref hT, .int cnt])), (hW, .inl (cW, 2048, .inl words))]) [0, 1] (by decide) rfl
    have hKc := hK.sub (tys' := [(cW, .int)]) [0] rfl
    have hFc := va_free (wc := [(hM, .inr (1, [.ref hW, .ref hT, .int cnt])), (hW, .inl (cW, 2048, .inl words))]) hD hS hA [0, 1] rfl
    refine va_callv (va_runV (C := RX1) (b := hM) (As := [.int pl, .int v]) (rest := []) ⟨hx, hb, hml, hown, hts⟩ (c_X1_setWord l dC dI H.size hM hW hT cnt cW words pl v) (cwV 2 hts gX1_setIfThere_X1_setWord rfl rfl rfl (by decide +kernel) ⟨Nat.le_of_ble_eq_true rfl, Nat.le_of_ble_eq_true rfl⟩) ⟨q_blind, va_recv hK hP (ci := 1) (q0 := 0) rfl rfl, fun U hU hW => ⟨rfl, q_pay hU hW hPc hKc hDc hN⟩⟩ rfl rfl hl.1 rfl (lv_room (Nat.le_of_ble_eq_true rfl)) dX1_setIfThere_15 ⟨Nat.le_of_ble_eq_true rfl, Nat.le_of_ble_eq_true rfl⟩) hS (fun q _ h => hFc q h) hFc (fun u9 t H locs ht hvm hw_5 hB hz1 hk1 hS => ?_)
    obtain ⟨words2_6, rfl⟩ : ∃ z, z = u9 := ⟨_, rfl⟩
    obtain ⟨hP1, hK1, hD1⟩ := hB
    rw [ht] at hP1
    obtain ⟨hP, hD⟩ := va_join (wr := []) (w1 := [(hM, .inr (1, [.ref hW, .ref hT, .int cnt])), (hW, .inl (cW, 2048, .inl words2_6))]) hP hD [0, 1] [] rfl rfl (by decide) (by decide) hk1 hFc hP1 hD1
    have hP : va_P (dC, dI) vwCl [(hM, .inr (1, [.ref hW, .ref hT, .int cnt])), (hW, .inl (cW, 2048, .inl words2_6))] H := hP
    have hD : va_D A [(hM, .inr (1, [.ref hW, .ref hT, .int cnt])), (hW, .inl (cW, 2048, .inl words2_6))] := hD
    refine W.widen (k := 0) (n := 0) (by decide) (by decide) ?_
    try dsimp only at hw_5
    refine lv_iconst (v := 1) hx hb dX1_setIfThere_18 (by decide) ?_
    have hP9 := hP.sub (ws' := [(hM, .inr (1, [.ref hW, .ref hT, .int cnt])), (hW, .inl (cW, 2048, .inl words2_6))]) [0, 1] rfl
    have hD9 := hD.sub (ws' := [(hM, .inr (1, [.ref hW, .ref hT, .int cnt])), (hW, .inl (cW, 2048, .inl words2_6))]) [0, 1] (by decide) rfl
    have hK9 := hK.sub (tys' := [(cW, .int)]) [0] rfl
    exact W.iret (v := 1) hx hb hr (fun t ht hW => ⟨⟨1, words2_6, rfl, (by simp [ct, c_3]), by rw [ht]; exact hP9, va_K.moved hW.alike hK9, hD9⟩, hS.F ht⟩) hS.2.2 dX1_setIfThere_19
  · refine lv_iconst (v := 0) hx hb dX1_setIfThere_10 (by decide) ?_
    have hP9 := hP.sub (ws' := [(hM, .inr (1, [.ref hW, .ref hT, .int cnt])), (hW, .inl (cW, 2048, .inl words))]) [0, 1] rfl
    have hD9 := hD.sub (ws' := [(hM, .inr (1, [.ref hW, .ref hT, .int cnt])), (hW, .inl (cW, 2048, .inl words))]) [0, 1] (by decide) rfl
    have hK9 := hK.sub (tys' := [(cW, .int)]) [0] rfl
    exact W.iret (v := 0) hx hb hr (fun t ht hW => ⟨⟨0, words, rfl, (by simp [ct, c_3]), by rw [ht]; exact hP9, va_K.moved hW.alike hK9, hD9⟩, hS.F ht⟩) hS.2.2 dX1_setIfThere_11
set_option maxHeartbeats 4000000 in
set_option maxRecDepth 100000 in
theorem c_X1_setPair (l : Launch) (dC : Nat → ClassId) (dI : Nat → Nat → Nat) (sz : Nat) (hM : Nat) (hW : Nat) (hT : Nat) (cnt : Int32) (cW : ClassId) (words : Nat → Int32) (pl : Int32) (v : Int32)  : Met l yX1_setPair wsX1_setPair ({ frames := 2, cells := 0, slots := 0, locals := 44 }) (va_Pc [.ref hM, .int pl, .int v] (q_pre dC dI sz [(hM, .inr (1, [.ref hW, .ref hT, .int cnt])), (hW, .inl (cW, 2048, .inl words))] [(cW, .int)])) (va_Qi (fun (r : Int32) (u9 : (Nat → Int32)) => r = ct pl + ct (pl + 2)) (q_at dC dI (va_A [(hM, .inr (1, [.ref hW, .ref hT, .int cnt])), (hW, .inl (cW, 2048, .inl words))] sz) (fun (u9 : (Nat → Int32)) => [(cW, .int)]) (fun (u9 : (Nat → Int32)) => [(hM, .inr (1, [.ref hW, .ref hT, .int cnt])), (hW, .inl (cW, 2048, .inl u9))])) (va_A [(hM, .inr (1, [.ref hW, .ref hT, .int cnt])), (hW, .inl (cW, 2048, .inl words))] sz)) 0 0 (va_A [(hM, .inr (1, [.ref hW, .ref hT, .int cnt])), (hW, .inl (cW, 2048, .inl words))] sz) := by
  refine Met.ofW (cc := cX1_setPair) (maxL := 3) (ret := (some .int)) (by decide) rfl ?_
  intro p e s m args below meth c s₁ B hml hv
  obtain ⟨rfl, hsz, hP, hK, hD0, hN⟩ := hv
  have hx := B.exec
  have hb := B.bytes
  have hr := B.returns
  have hts := atoms_spec (ws := wsX1_setPair) B.pre
  have hown : s.vm.findClass RX1 = some m.cls := findClass_of_methodNamed B.named
  have hlocks := B.notSynchronized
  subst hsz
  have hD := hD0.self (sz := s.heap.size)
  generalize hAe : va_A [(hM, .inr (1, [.ref hW, .ref hT, .int cnt])), (hW, .inl (cW, 2048, .inl words))] s.heap.size = A at hD ⊢
  have hA : ∀ q : Nat, s.heap.size ≤ q → A q := fun q h => by rw [← hAe]; exact Or.inr h
  have hS : va_S A s.heap s.heap [] := va_S.rf
  have hP : va_P (dC, dI) vwCl [(hM, .inr (1, [.ref hW, .ref hT, .int cnt])), (hW, .inl (cW, 2048, .inl words))] s.heap := hP
  have hl := lv_entry ([.ref hM, .int pl, .int v]) (n := 3) (Nat.le_of_ble_eq_true rfl)
  rw [lg_entry_eq]
  generalize (lg_sl ([.ref hM, .int pl, .int v]) ++ List.replicate (3 - (lg_sl ([.ref hM, .int pl, .int v])).length) Slot.unset).toArray = ls at hl ⊢
  have hl : lv_has ls 3 [(0, .ref hM), (1, .int pl), (2, .int v)] := hl
  refine lv_aload_n hx hb dX1_setPair_0 rfl (lv_at hl 0 rfl) ?_
  refine lv_iload_n hx hb dX1_setPair_1 rfl (lv_at hl 1 rfl) ?_
  refine lv_iload_n hx hb dX1_setPair_2 rfl (lv_at hl 2 rfl) ?_
  refine lv_bipush (v := 16) hx hb dX1_setPair_3 (by decide) ?_
  refine lv_iushr (v := (v.toUInt32 >>> (Int32.toUInt32 16 &&& Int32.toUInt32 31)).toInt32) hx hb dX1_setPair_5 rfl ?_
  have hPc := hP.sub (ws' := [(hM, .inr (1, [.ref hW, .ref hT, .int cnt])), (hW, .inl (cW, 2048, .inl words))]) [0, 1] rfl
  have hDc := hD.sub (ws' := [(hM, .inr (1, [.ref hW, .ref hT, .int cnt])), (hW, .inl (cW, 2048, .inl words))]) [0, 1] (by decide) rfl
  have hKc := hK.sub (tys' := [(cW, .int)]) [0] rfl
  have hFc := va_free (wc := [(hM, .inr (1, [.ref hW, .ref hT, .int cnt])), (hW, .inl (cW, 2048, .inl words))]) hD hS hA [0, 1] rfl
  refine va_calli (va_runV (C := RX1) (b := hM) (As := [.int pl, .int ((v.toUInt32 >>> (Int32.toUInt32 16 &&& Int32.toUInt32 31)).toInt32)]) (rest := []) ⟨hx, hb, hml, hown, hts⟩ (c_X1_setIfThere l dC dI s.heap.size hM hW hT cnt cW words pl ((v.toUInt32 >>> (Int32.toUInt32 16 &&& Int32.toUInt32 31)).toInt32)) (cwV 2 hts gX1_setPair_X1_setIfThere rfl rfl rfl (by decide +kernel) ⟨Nat.le_of_ble_eq_true rfl, Nat.le_of_ble_eq_true rfl⟩) ⟨q_blind, va_recv hK hP (ci := 1) (q0 := 0) rfl rfl, fun U hU hW => ⟨rfl, q_pay hU hW hPc hKc hDc hN⟩⟩ rfl rfl hl.1 rfl (lv_room (Nat.le_of_ble_eq_true rfl)) dX1_setPair_6 ⟨Nat.le_of_ble_eq_true rfl, Nat.le_of_ble_eq_true rfl⟩) hS (fun q _ h => hFc q h) hFc (fun r_1 u9 t H locs ht hvm hw_2 hB hz1 hk1 hS => ?_)
  obtain ⟨words2_3, rfl⟩ : ∃ z, z = u9 := ⟨_, rfl⟩
  obtain ⟨hP1, hK1, hD1⟩ := hB
  rw [ht] at hP1
  obtain ⟨hP, hD⟩ := va_join (wr := []) (w1 := [(hM, .inr (1, [.ref hW, .ref hT, .int cnt])), (hW, .inl (cW, 2048, .inl words2_3))]) hP hD [0, 1] [] rfl rfl (by decide) (by decide) hk1 hFc hP1 hD1
  have hP : va_P (dC, dI) vwCl [(hM, .inr (1, [.ref hW, .ref hT, .int cnt])), (hW, .inl (cW, 2048, .inl words2_3))] H := hP
  have hD : va_D A [(hM, .inr (1, [.ref hW, .ref hT, .int cnt])), (hW, .inl (cW, 2048, .inl words2_3))] := hD
  refine W.widen (k := 0) (n := 0) (by decide) (by decide) ?_
  try dsimp only at hw_2
  obtain rfl := hw_2
  refine lv_aload_n hx hb dX1_setPair_9 rfl (lv_at hl 0 rfl) ?_
  refine lv_iload_n hx hb dX1_setPair_10 rfl (lv_at hl 1 rfl) ?_
  refine lv_iconst (v := 2) hx hb dX1_setPair_11 (by decide) ?_
  refine lv_iadd hx hb dX1_setPair_12 ?_
  refine lv_iload_n hx hb dX1_setPair_13 rfl (lv_at hl 2 rfl) ?_
  have hPc := hP.sub (ws' := [(hM, .inr (1, [.ref hW, .ref hT, .int cnt])), (hW, .inl (cW, 2048, .inl words2_3))]) [0, 1] rfl
  have hDc := hD.sub (ws' := [(hM, .inr (1, [.ref hW, .ref hT, .int cnt])), (hW, .inl (cW, 2048, .inl words2_3))]) [0, 1] (by decide) rfl
  have hKc := hK.sub (tys' := [(cW, .int)]) [0] rfl
  have hFc := va_free (wc := [(hM, .inr (1, [.ref hW, .ref hT, .int cnt])), (hW, .inl (cW, 2048, .inl words2_3))]) hD hS hA [0, 1] rfl
  refine va_calli (va_runV (C := RX1) (b := hM) (As := [.int (pl + 2), .int v]) (rest := [.int (ct pl)]) ⟨hx, hb, hml, hown, hts⟩ (c_X1_setIfThere l dC dI H.size hM hW hT cnt cW words2_3 (pl + 2) v) (cwV 2 hts gX1_setPair_X1_setIfThere rfl rfl rfl (by decide +kernel) ⟨Nat.le_of_ble_eq_true rfl, Nat.le_of_ble_eq_true rfl⟩) ⟨q_blind, va_recv hK hP (ci := 1) (q0 := 0) rfl rfl, fun U hU hW => ⟨rfl, q_pay hU hW hPc hKc hDc hN⟩⟩ rfl rfl hl.1 rfl (lv_room (Nat.le_of_ble_eq_true rfl)) dX1_setPair_14 ⟨Nat.le_of_ble_eq_true rfl, Nat.le_of_ble_eq_true rfl⟩) hS (fun q _ h => hFc q h) hFc (fun r_4 u9 t H locs ht hvm hw_5 hB hz1 hk1 hS => ?_)
  obtain ⟨words2_6, rfl⟩ : ∃ z, z = u9 := ⟨_, rfl⟩
  obtain ⟨hP1, hK1, hD1⟩ := hB
  rw [ht] at hP1
  obtain ⟨hP, hD⟩ := va_join (wr := []) (w1 := [(hM, .inr (1, [.ref hW, .ref hT, .int cnt])), (hW, .inl (cW, 2048, .inl words2_6))]) hP hD [0, 1] [] rfl rfl (by decide) (by decide) hk1 hFc hP1 hD1
  have hP : va_P (dC, dI) vwCl [(hM, .inr (1, [.ref hW, .ref hT, .int cnt])), (hW, .inl (cW, 2048, .inl words2_6))] H := hP
  have hD : va_D A [(hM, .inr (1, [.ref hW, .ref hT, .int cnt])), (hW, .inl (cW, 2048, .inl words2_6))] := hD
  refine W.widen (k := 0) (n := 0) (by decide) (by decide) ?_
  try dsimp only at hw_5
  obtain rfl := hw_5
  refine lv_iadd hx hb dX1_setPair_17 ?_
  have hP9 := hP.sub (ws' := [(hM, .inr (1, [.ref hW, .ref hT, .int cnt])), (hW, .inl (cW, 2048, .inl words2_6))]) [0, 1] rfl
  have hD9 := hD.sub (ws' := [(hM, .inr (1, [.ref hW, .ref hT, .int cnt])), (hW, .inl (cW, 2048, .inl words2_6))]) [0, 1] (by decide) rfl
  have hK9 := hK.sub (tys' := [(cW, .int)]) [0] rfl
  exact W.iret (v := (ct pl) + (ct (pl + 2))) hx hb hr (fun t ht hW => ⟨⟨(ct pl) + (ct (pl + 2)), words2_6, rfl, rfl, by rw [ht]; exact hP9, va_K.moved hW.alike hK9, hD9⟩, hS.F ht⟩) hS.2.2 dX1_setPair_18
set_option maxHeartbeats 4000000 in
set_option maxRecDepth 100000 in
theorem c_X1_init (l : Launch) (dC : Nat → ClassId) (dI : Nat → Nat → Nat) (sz : Nat) (hM : Nat)  : Met l yX1_init wsX1_init ({ frames := 1, cells := 2, slots := 2448, locals := 12 }) (va_Pc [.ref hM] (q_pre dC dI sz [(hM, .inr (1, [.null, .null, .int 0]))] [])) (va_Qv (fun (u9 : Nat × Nat × ClassId × ClassId) => True) (q_at dC dI (va_A [(hM, .inr (1, [.null, .null, .int 0]))] sz) (fun (u9 : Nat × Nat × ClassId × ClassId) => [(u9.2.2.1, .int), (u9.2.2.2, .int)]) (fun (u9 : Nat × Nat × ClassId × ClassId) => [(hM, .inr (1, [.ref u9.1, .ref u9.2.1, .int 0])), (u9.1, .inl (u9.2.2.1, 2048, .inl (fun _ => 0))), (u9.2.1, .inl (u9.2.2.2, 400, .inl (fun _ => 0)))])) (va_A [(hM, .inr (1, [.null, .null, .int 0]))] sz)) 2 2448 (va_A [(hM, .inr (1, [.null, .null, .int 0]))] sz) := by
  refine Met.ofW (cc := cX1_init) (maxL := 1) (ret := none) (by decide) rfl ?_
  intro p e s m args below meth c s₁ B hml hv
  obtain ⟨rfl, hsz, hP, hK, hD0, hN⟩ := hv
  have hx := B.exec
  have hb := B.bytes
  have hr := B.returns
  have hts := atoms_spec (ws := wsX1_init) B.pre
  have hown : s.vm.findClass RX1 = some m.cls := findClass_of_methodNamed B.named
  have hlocks := B.notSynchronized
  have hin : meth.name = "<init>" := (name_of_methodNamed B.named B.method).1
  subst hsz
  have hD := hD0.self (sz := s.heap.size)
  generalize hAe : va_A [(hM, .inr (1, [.null, .null, .int 0]))] s.heap.size = A at hD ⊢
  have hA : ∀ q : Nat, s.heap.size ≤ q → A q := fun q h => by rw [← hAe]; exact Or.inr h
  have hS : va_S A s.heap s.heap [] := va_S.rf
  have hP : va_P (dC, dI) vwCl [(hM, .inr (1, [.null, .null, .int 0]))] s.heap := hP
  have hl := lv_entry ([.ref hM]) (n := 1) (Nat.le_of_ble_eq_true rfl)
  rw [lg_entry_eq]
  generalize (lg_sl ([.ref hM]) ++ List.replicate (1 - (lg_sl ([.ref hM])).length) Slot.unset).toArray = ls at hl ⊢
  have hl : lv_has ls 1 [(0, .ref hM)] := hl
  refine lv_aload_n hx hb dX1_init_0 rfl (lv_at hl 0 rfl) ?_
  refine W.objInit hx hb hown (hts (.methodLink RX1 3 objectInit) (by decide +kernel)) (hts (.instanceMethod objectInit) (by decide +kernel)) (hts (.code objectInit ⟨#[0xb1]⟩ 1 none) (by decide +kernel)) rfl (by rw [hml]; exact hl.1) rfl dX1_init_1 (Nat.le_of_ble_eq_true rfl) (Nat.le_of_ble_eq_true rfl) ?_
  refine W.eq (g2 := F0 m 4 ls []) rfl ?_
  refine lv_aload_n hx hb dX1_init_4 rfl (lv_at hl 0 rfl) ?_
  refine lv_sipush (v := 2048) hx hb dX1_init_5 (by decide) ?_
  refine va_newa (a0 := (2048, .inl (fun _ => 0))) (N' := 2048) (ty := .int) hx hb (hts (.arrayClass .int) (by decide +kernel)) rfl hK hP hD hS hA (fun _ => q_zi _ _) (by decide) (by decide) (Nat.le_of_ble_eq_true rfl) (Nat.le_of_ble_eq_true rfl) (Nat.le_of_ble_eq_true rfl) dX1_init_8 (fun q_1 cA_2 H hK hP hD hS => ?_)
  have hP : va_P (dC, dI) vwCl [(hM, .inr (1, [.null, .null, .int 0])), (q_1, .inl (cA_2, 2048, .inl (fun _ => 0)))] H := hP
  have hD : va_D A [(hM, .inr (1, [.null, .null, .int 0])), (q_1, .inl (cA_2, 2048, .inl (fun _ => 0)))] := hD
  have hK : va_K (dC, dI) vwCl [(cA_2, .int)] s := hK
  refine W.widen (k := 1) (n := 2048) (by omega) (by omega) ?_
  refine va_putF (D := (dC, dI)) (ci := 1) (v := .ref q_1) (ty := .array .int) (C := RX1) (T := TX1) (N := 3) hx hb hts (by decide +kernel) tyX1 tyX1_ok nmX1 hown hK hP hD hS 0 rfl rfl 0 (by decide) (hts (.fieldLink RX1 9 "WordGuest$Memory" "words" "[I") (by decide +kernel)) (fun _ h9 => h9) rfl hin rfl (by decide +kernel) rfl rfl (Nat.le_of_ble_eq_true rfl) dX1_init_10 (fun H locs hP hD hS => ?_)
  have hP : va_P (dC, dI) vwCl [(hM, .inr (1, [.ref q_1, .null, .int 0])), (q_1, .inl (cA_2, 2048, .inl (fun _ => 0)))] H := hP
  have hD : va_D A [(hM, .inr (1, [.ref q_1, .null, .int 0])), (q_1, .inl (cA_2, 2048, .inl (fun _ => 0)))] := hD
  refine lv_aload_n hx hb dX1_init_13 rfl (lv_at hl 0 rfl) ?_
  refine lv_sipush (v := 400) hx hb dX1_init_14 (by decide) ?_
  refine va_newa (a0 := (400, .inl (fun _ => 0))) (N' := 400) (ty := .int) hx hb (hts (.arrayClass .int) (by decide +kernel)) rfl hK hP hD hS hA (fun _ => q_zi _ _) (by decide) (by decide) (Nat.le_of_ble_eq_true rfl) (Nat.le_of_ble_eq_true rfl) (Nat.le_of_ble_eq_true rfl) dX1_init_17 (fun q_3 cA_4 H hK hP hD hS => ?_)
  have hP : va_P (dC, dI) vwCl [(hM, .inr (1, [.ref q_1, .null, .int 0])), (q_1, .inl (cA_2, 2048, .inl (fun _ => 0))), (q_3, .inl (cA_4, 400, .inl (fun _ => 0)))] H := hP
  have hD : va_D A [(hM, .inr (1, [.ref q_1, .null, .int 0])), (q_1, .inl (cA_2, 2048, .inl (fun _ => 0))), (q_3, .inl (cA_4, 400, .inl (fun _ => 0)))] := hD
  have hK : va_K (dC, dI) vwCl [(cA_2, .int), (cA_4, .int)] s := hK
  refine W.widen (k := 2) (n := 2448) (by omega) (by omega) ?_
  refine va_putF (D := (dC, dI)) (ci := 1) (v := .ref q_3) (ty := .array .int) (C := RX1) (T := TX1) (N := 3) hx hb hts (by decide +kernel) tyX1 tyX1_ok nmX1 hown hK hP hD hS 0 rfl rfl 1 (by decide) (hts (.fieldLink RX1 15 "WordGuest$Memory" "told" "[I") (by decide +kernel)) (fun _ h9 => h9) rfl hin rfl (by decide +kernel) rfl rfl (Nat.le_of_ble_eq_true rfl) dX1_init_19 (fun H locs hP hD hS => ?_)
  have hP : va_P (dC, dI) vwCl [(hM, .inr (1, [.ref q_1, .ref q_3, .int 0])), (q_1, .inl (cA_2, 2048, .inl (fun _ => 0))), (q_3, .inl (cA_4, 400, .inl (fun _ => 0)))] H := hP
  have hD : va_D A [(hM, .inr (1, [.ref q_1, .ref q_3, .int 0])), (q_1, .inl (cA_2, 2048, .inl (fun _ => 0))), (q_3, .inl (cA_4, 400, .inl (fun _ => 0)))] := hD
  have hP9 := hP.sub (ws' := [(hM, .inr (1, [.ref q_1, .ref q_3, .int 0])), (q_1, .inl (cA_2, 2048, .inl (fun _ => 0))), (q_3, .inl (cA_4, 400, .inl (fun _ => 0)))]) [0, 1, 2] rfl
  have hD9 := hD.sub (ws' := [(hM, .inr (1, [.ref q_1, .ref q_3, .int 0])), (q_1, .inl (cA_2, 2048, .inl (fun _ => 0))), (q_3, .inl (cA_4, 400, .inl (fun _ => 0)))]) [0, 1, 2] (by decide) rfl
  have hK9 := hK.sub (tys' := [(cA_2, .int), (cA_4, .int)]) [0, 1] rfl
  exact W.vret hx hb hr (fun t ht hW => ⟨⟨(q_1, q_3, cA_2, cA_4), rfl, trivial, by rw [ht]; exact hP9, va_K.moved hW.alike hK9, hD9⟩, hS.F ht⟩) hS.2.2 dX1_init_22
end
section
set_option maxHeartbeats 4000000 in
set_option maxRecDepth 100000 in
theorem c_X0_init (l : Launch) (dC : Nat → ClassId) (dI : Nat → Nat → Nat) (sz : Nat) (hF : Nat)  : Met l yX0_init wsX0_init ({ frames := 1, cells := 0, slots := 0, locals := 12 }) (va_Pc [.ref hF] (q_pre dC dI sz [(hF, .inr (0, [.int 0, .int 0, .int 0, .int 0]))] [])) (va_Qv (fun (u9 : Unit) => True) (q_at dC dI (va_A [(hF, .inr (0, [.int 0, .int 0, .int 0, .int 0]))] sz) (fun (u9 : Unit) => []) (fun (u9 : Unit) => [(hF, .inr (0, [.int 0, .int 0, .int 0, .int 0]))])) (va_A [(hF, .inr (0, [.int 0, .int 0, .int 0, .int 0]))] sz)) 0 0 (va_A [(hF, .inr (0, [.int 0, .int 0, .int 0, .int 0]))] sz) := by
  refine Met.ofW (cc := cX0_init) (maxL := 1) (ret := none) (by decide) rfl ?_
  intro p e s m args below meth c s₁ B hml hv
  obtain ⟨rfl, hsz, hP, hK, hD0, hN⟩ := hv
  have hx := B.exec
  have hb := B.bytes
  have hr := B.returns
  have hts := atoms_spec (ws := wsX0_init) B.pre
  have hown : s.vm.findClass RX0 = some m.cls := findClass_of_methodNamed B.named
  have hlocks := B.notSynchronized
  have hin : meth.name = "<init>" := (name_of_methodNamed B.named B.method).1
  subst hsz
  have hD := hD0.self (sz := s.heap.size)
  generalize hAe : va_A [(hF, .inr (0, [.int 0, .int 0, .int 0, .int 0]))] s.heap.size = A at hD ⊢
  have hA : ∀ q : Nat, s.heap.size ≤ q → A q := fun q h => by rw [← hAe]; exact Or.inr h
  have hS : va_S A s.heap s.heap [] := va_S.rf
  have hP : va_P (dC, dI) vwCl [(hF, .inr (0, [.int 0, .int 0, .int 0, .int 0]))] s.heap := hP
  have hl := lv_entry ([.ref hF]) (n := 1) (Nat.le_of_ble_eq_true rfl)
  rw [lg_entry_eq]
  generalize (lg_sl ([.ref hF]) ++ List.replicate (1 - (lg_sl ([.ref hF])).length) Slot.unset).toArray = ls at hl ⊢
  have hl : lv_has ls 1 [(0, .ref hF)] := hl
  refine lv_aload_n hx hb dX0_init_0 rfl (lv_at hl 0 rfl) ?_
  refine W.objInit hx hb hown (hts (.methodLink RX0 1 objectInit) (by decide +kernel)) (hts (.instanceMethod objectInit) (by decide +kernel)) (hts (.code objectInit ⟨#[0xb1]⟩ 1 none) (by decide +kernel)) rfl (by rw [hml]; exact hl.1) rfl dX0_init_1 (Nat.le_of_ble_eq_true rfl) (Nat.le_of_ble_eq_true rfl) ?_
  refine W.eq (g2 := F0 m 4 ls []) rfl ?_
  have hP9 := hP.sub (ws' := [(hF, .inr (0, [.int 0, .int 0, .int 0, .int 0]))]) [0] rfl
  have hD9 := hD.sub (ws' := [(hF, .inr (0, [.int 0, .int 0, .int 0, .int 0]))]) [0] (by decide) rfl
  have hK9 := hK.sub (tys' := []) [] rfl
  exact W.vret hx hb hr (fun t ht hW => ⟨⟨(), rfl, trivial, by rw [ht]; exact hP9, va_K.moved hW.alike hK9, hD9⟩, hS.F ht⟩) hS.2.2 dX0_init_4
set_option maxHeartbeats 4000000 in
set_option maxRecDepth 100000 in
theorem c_X0_number (l : Launch) (dC : Nat → ClassId) (dI : Nat → Nat → Nat) (sz : Nat) (hF : Nat)  : Met l yX0_number wsX0_number ({ frames := 0, cells := 0, slots := 0, locals := 0 }) (va_Pc [.ref hF] (q_pre dC dI sz [(hF, .inr (0, [.int 0, .int 0, .int 0, .int 0]))] [])) (va_Qi (fun (r : Int32) (u9 : Unit) => r = 0) (q_at dC dI (va_A [(hF, .inr (0, [.int 0, .int 0, .int 0, .int 0]))] sz) (fun (u9 : Unit) => []) (fun (u9 : Unit) => [(hF, .inr (0, [.int 0, .int 0, .int 0, .int 0]))])) (va_A [(hF, .inr (0, [.int 0, .int 0, .int 0, .int 0]))] sz)) 0 0 (va_A [(hF, .inr (0, [.int 0, .int 0, .int 0, .int 0]))] sz) := by
  refine Met.ofW (cc := cX0_number) (maxL := 1) (ret := (some .int)) (by decide) rfl ?_
  intro p e s m args below meth c s₁ B hml hv
  obtain ⟨rfl, hsz, hP, hK, hD0, hN⟩ := hv
  have hx := B.exec
  have hb := B.bytes
  have hr := B.returns
  have hts := atoms_spec (ws := wsX0_number) B.pre
  have hown : s.vm.findClass RX0 = some m.cls := findClass_of_methodNamed B.named
  have hlocks := B.notSynchronized
  subst hsz
  have hD := hD0.self (sz := s.heap.size)
  generalize hAe : va_A [(hF, .inr (0, [.int 0, .int 0, .int 0, .int 0]))] s.heap.size = A at hD ⊢
  have hA : ∀ q : Nat, s.heap.size ≤ q → A q := fun q h => by rw [← hAe]; exact Or.inr h
  have hS : va_S A s.heap s.heap [] := va_S.rf
  have hP : va_P (dC, dI) vwCl [(hF, .inr (0, [.int 0, .int 0, .int 0, .int 0]))] s.heap := hP
  have hl := lv_entry ([.ref hF]) (n := 1) (Nat.le_of_ble_eq_true rfl)
  rw [lg_entry_eq]
  generalize (lg_sl ([.ref hF]) ++ List.replicate (1 - (lg_sl ([.ref hF])).length) Slot.unset).toArray = ls at hl ⊢
  have hl : lv_has ls 1 [(0, .ref hF)] := hl
  refine lv_aload_n hx hb dX0_number_0 rfl (lv_at hl 0 rfl) ?_
  refine va_get (D := (dC, dI)) (ci := 0) (v := .int 0) (C := RX0) (T := TX0) (N := 4) hx hb hts (by decide +kernel) hown hK hP 0 rfl rfl 0 (by decide) (hts (.fieldLink RX0 7 "WordGuest$Flags" "n" "Z") (by decide +kernel)) (fun _ h9 => h9) rfl dX0_number_1 ?_
  refine lv_if_eq (tgt := 12) hx hb dX0_number_4 (by decide) (fun c_1 => ?_) (fun c9 => absurd (by decide) c9)
  refine lv_iconst (v := 0) hx hb dX0_number_12 (by decide) ?_
  refine lv_aload_n hx hb dX0_number_13 rfl (lv_at hl 0 rfl) ?_
  refine va_get (D := (dC, dI)) (ci := 0) (v := .int 0) (C := RX0) (T := TX0) (N := 4) hx hb hts (by decide +kernel) hown hK hP 0 rfl rfl 1 (by decide) (hts (.fieldLink RX0 13 "WordGuest$Flags" "z" "Z") (by decide +kernel)) (fun _ h9 => h9) rfl dX0_number_14 ?_
  refine lv_if_eq (tgt := 24) hx hb dX0_number_17 (by decide) (fun c_2 => ?_) (fun c9 => absurd (by decide) c9)
  refine lv_iconst (v := 0) hx hb dX0_number_24 (by decide) ?_
  refine lv_ior hx hb dX0_number_25 ?_
  refine q_toc (y := 0) (by decide) ?_
  refine lv_aload_n hx hb dX0_number_26 rfl (lv_at hl 0 rfl) ?_
  refine va_get (D := (dC, dI)) (ci := 0) (v := .int 0) (C := RX0) (T := TX0) (N := 4) hx hb hts (by decide +kernel) hown hK hP 0 rfl rfl 2 (by decide) (hts (.fieldLink RX0 16 "WordGuest$Flags" "v" "Z") (by decide +kernel)) (fun _ h9 => h9) rfl dX0_number_27 ?_
  refine lv_if_eq (tgt := 37) hx hb dX0_number_30 (by decide) (fun c_3 => ?_) (fun c9 => absurd (by decide) c9)
  refine lv_iconst (v := 0) hx hb dX0_number_37 (by decide) ?_
  refine lv_ior hx hb dX0_number_38 ?_
  refine q_toc (y := 0) (by decide) ?_
  refine lv_aload_n hx hb dX0_number_39 rfl (lv_at hl 0 rfl) ?_
  refine va_get (D := (dC, dI)) (ci := 0) (v := .int 0) (C := RX0) (T := TX0) (N := 4) hx hb hts (by decide +kernel) hown hK hP 0 rfl rfl 3 (by decide) (hts (.fieldLink RX0 19 "WordGuest$Flags" "c" "Z") (by decide +kernel)) (fun _ h9 => h9) rfl dX0_number_40 ?_
  refine lv_if_eq (tgt := 50) hx hb dX0_number_43 (by decide) (fun c_4 => ?_) (fun c9 => absurd (by decide) c9)
  refine lv_iconst (v := 0) hx hb dX0_number_50 (by decide) ?_
  refine lv_ior hx hb dX0_number_51 ?_
  refine q_toc (y := 0) (by decide) ?_
  have hP9 := hP.sub (ws' := [(hF, .inr (0, [.int 0, .int 0, .int 0, .int 0]))]) [0] rfl
  have hD9 := hD.sub (ws' := [(hF, .inr (0, [.int 0, .int 0, .int 0, .int 0]))]) [0] (by decide) rfl
  have hK9 := hK.sub (tys' := []) [] rfl
  exact W.iret (v := 0) hx hb hr (fun t ht hW => ⟨⟨0, (), rfl, rfl, by rw [ht]; exact hP9, va_K.moved hW.alike hK9, hD9⟩, hS.F ht⟩) hS.2.2 dX0_number_52
set_option maxHeartbeats 4000000 in
set_option maxRecDepth 100000 in
theorem c_X0_become (l : Launch) (dC : Nat → ClassId) (dI : Nat → Nat → Nat) (sz : Nat) (hF : Nat) (n : Int32) (z : Int32) (v : Int32) (c9 : Int32) (k : Int32)  : Met l yX0_become wsX0_become ({ frames := 0, cells := 0, slots := 0, locals := 0 }) (va_Pc [.ref hF, .int k] (q_pre dC dI sz [(hF, .inr (0, [.int n, .int z, .int v, .int c9]))] [])) (va_Qv (fun (u9 : Int32 × Int32 × Int32 × Int32) => True) (q_at dC dI (va_A [(hF, .inr (0, [.int n, .int z, .int v, .int c9]))] sz) (fun (u9 : Int32 × Int32 × Int32 × Int32) => []) (fun (u9 : Int32 × Int32 × Int32 × Int32) => [(hF, .inr (0, [.int u9.1, .int u9.2.1, .int u9.2.2.1, .int u9.2.2.2]))])) (va_A [(hF, .inr (0, [.int n, .int z, .int v, .int c9]))] sz)) 0 0 (va_A [(hF, .inr (0, [.int n, .int z, .int v, .int c9]))] sz) := by
  refine Met.ofW (cc := cX0_become) (maxL := 2) (ret := none) (by decide) rfl ?_
  intro p e s m args below meth c s₁ B hml hv
  obtain ⟨rfl, hsz, hP, hK, hD0, hN⟩ := hv
  have hx := B.exec
  have hb := B.bytes
  have hr := B.returns
  have hts := atoms_spec (ws := wsX0_become) B.pre
  have hown : s.vm.findClass RX0 = some m.cls := findClass_of_methodNamed B.named
  have hlocks := B.notSynchronized
  subst hsz
  have hD := hD0.self (sz := s.heap.size)
  generalize hAe : va_A [(hF, .inr (0, [.int n, .int z, .int v, .int c9]))] s.heap.size = A at hD ⊢
  have hA : ∀ q : Nat, s.heap.size ≤ q → A q := fun q h => by rw [← hAe]; exact Or.inr h
  have hS : va_S A s.heap s.heap [] := va_S.rf
  have hP : va_P (dC, dI) vwCl [(hF, .inr (0, [.int n, .int z, .int v, .int c9]))] s.heap := hP
  have hl := lv_entry ([.ref hF, .int k]) (n := 2) (Nat.le_of_ble_eq_true rfl)
  rw [lg_entry_eq]
  generalize (lg_sl ([.ref hF, .int k]) ++ List.replicate (2 - (lg_sl ([.ref hF, .int k])).length) Slot.unset).toArray = ls at hl ⊢
  have hl : lv_has ls 2 [(0, .ref hF), (1, .int k)] := hl
  refine lv_aload_n hx hb dX0_become_0 rfl (lv_at hl 0 rfl) ?_
  refine lv_iload_n hx hb dX0_become_1 rfl (lv_at hl 1 rfl) ?_
  refine lv_bipush (v := 8) hx hb dX0_become_2 (by decide) ?_
  refine lv_iand hx hb dX0_become_4 ?_
  refine q_bool 13 [.ref hF] (fun b_2 hb_3 => ?_) (fun jn => ?_)
  · refine va_put (D := (dC, dI)) (ci := 0) (v := .int b_2) (ty := .boolean) (C := RX0) (T := TX0) (N := 4) hx hb hts (by decide +kernel) tyX0 tyX0_ok nmX0 hown hK hP hD hS 0 rfl rfl 0 (by decide) (hts (.fieldLink RX0 7 "WordGuest$Flags" "n" "Z") (by decide +kernel)) (fun _ h9 => h9) rfl (by decide +kernel) (q_nz hb_3) (q_fz hb_3) (Nat.le_of_ble_eq_true rfl) dX0_become_13 (fun H locs hP hD hS => ?_)
    have hP : va_P (dC, dI) vwCl [(hF, .inr (0, [.int b_2, .int z, .int v, .int c9]))] H := hP
    have hD : va_D A [(hF, .inr (0, [.int b_2, .int z, .int v, .int c9]))] := hD
    refine lv_aload_n hx hb dX0_become_16 rfl (lv_at hl 0 rfl) ?_
    refine lv_iload_n hx hb dX0_become_17 rfl (lv_at hl 1 rfl) ?_
    refine lv_iconst (v := 4) hx hb dX0_become_18 (by decide) ?_
    refine lv_iand hx hb dX0_become_19 ?_
    refine q_bool 28 [.ref hF] (fun b_5 hb_6 => ?_) (fun jn => ?_)
    · refine va_put (D := (dC, dI)) (ci := 0) (v := .int b_5) (ty := .boolean) (C := RX0) (T := TX0) (N := 4) hx hb hts (by decide +kernel) tyX0 tyX0_ok nmX0 hown hK hP hD hS 0 rfl rfl 1 (by decide) (hts (.fieldLink RX0 13 "WordGuest$Flags" "z" "Z") (by decide +kernel)) (fun _ h9 => h9) rfl (by decide +kernel) (q_nz hb_6) (q_fz hb_6) (Nat.le_of_ble_eq_true rfl) dX0_become_28 (fun H locs hP hD hS => ?_)
      have hP : va_P (dC, dI) vwCl [(hF, .inr (0, [.int b_2, .int b_5, .int v, .int c9]))] H := hP
      have hD : va_D A [(hF, .inr (0, [.int b_2, .int b_5, .int v, .int c9]))] := hD
      refine lv_aload_n hx hb dX0_become_31 rfl (lv_at hl 0 rfl) ?_
      refine lv_iload_n hx hb dX0_become_32 rfl (lv_at hl 1 rfl) ?_
      refine lv_iconst (v := 2) hx hb dX0_become_33 (by decide) ?_
      refine lv_iand hx hb dX0_become_34 ?_
      refine q_bool 43 [.ref hF] (fun b_8 hb_9 => ?_) (fun jn => ?_)
      · refine va_put (D := (dC, dI)) (ci := 0) (v := .int b_8) (ty := .boolean) (C := RX0) (T := TX0) (N := 4) hx hb hts (by decide +kernel) tyX0 tyX0_ok nmX0 hown hK hP hD hS 0 rfl rfl 2 (by decide) (hts (.fieldLink RX0 16 "WordGuest$Flags" "v" "Z") (by decide +kernel)) (fun _ h9 => h9) rfl (by decide +kernel) (q_nz hb_9) (q_fz hb_9) (Nat.le_of_ble_eq_true rfl) dX0_become_43 (fun H locs hP hD hS => ?_)
        have hP : va_P (dC, dI) vwCl [(hF, .inr (0, [.int b_2, .int b_5, .int b_8, .int c9]))] H := hP
        have hD : va_D A [(hF, .inr (0, [.int b_2, .int b_5, .int b_8, .int c9]))] := hD
        refine lv_aload_n hx hb dX0_become_46 rfl (lv_at hl 0 rfl) ?_
        refine lv_iload_n hx hb dX0_become_47 rfl (lv_at hl 1 rfl) ?_
        refine lv_iconst (v := 1) hx hb dX0_become_48 (by decide) ?_
        refine lv_iand hx hb dX0_become_49 ?_
        refine q_bool 58 [.ref hF] (fun b_11 hb_12 => ?_) (fun jn => ?_)
        · refine va_put (D := (dC, dI)) (ci := 0) (v := .int b_11) (ty := .boolean) (C := RX0) (T := TX0) (N := 4) hx hb hts (by decide +kernel) tyX0 tyX0_ok nmX0 hown hK hP hD hS 0 rfl rfl 3 (by decide) (hts (.fieldLink RX0 19 "WordGuest$Flags" "c" "Z") (by decide +kernel)) (fun _ h9 => h9) rfl (by decide +kernel) (q_nz hb_12) (q_fz hb_12) (Nat.le_of_ble_eq_true rfl) dX0_become_58 (fun H locs hP hD hS => ?_)
          have hP : va_P (dC, dI) vwCl [(hF, .inr (0, [.int b_2, .int b_5, .int b_8, .int b_11]))] H := hP
          have hD : va_D A [(hF, .inr (0, [.int b_2, .int b_5, .int b_8, .int b_11]))] := hD
          have hP9 := hP.sub (ws' := [(hF, .inr (0, [.int b_2, .int b_5, .int b_8, .int b_11]))]) [0] rfl
          have hD9 := hD.sub (ws' := [(hF, .inr (0, [.int b_2, .int b_5, .int b_8, .int b_11]))]) [0] (by decide) rfl
          have hK9 := hK.sub (tys' := []) [] rfl
          exact W.vret hx hb hr (fun t ht hW => ⟨⟨(b_2, b_5, b_8, b_11), rfl, trivial, by rw [ht]; exact hP9, va_K.moved hW.alike hK9, hD9⟩, hS.F ht⟩) hS.2.2 dX0_become_61
        refine lv_if_eq (tgt := 57) hx hb dX0_become_50 (by decide) (fun c_10 => ?_) (fun c_10 => ?_)
        · refine lv_iconst (v := 0) hx hb dX0_become_57 (by decide) ?_
          exact jn 0 (Or.inl rfl)
        · refine lv_iconst (v := 1) hx hb dX0_become_53 (by decide) ?_
          refine lv_goto (tgt := 58) hx hb dX0_become_54 (by decide) ?_
          exact jn 1 (Or.inr rfl)
      refine lv_if_eq (tgt := 42) hx hb dX0_become_35 (by decide) (fun c_7 => ?_) (fun c_7 => ?_)
      · refine lv_iconst (v := 0) hx hb dX0_become_42 (by decide) ?_
        exact jn 0 (Or.inl rfl)
      · refine lv_iconst (v := 1) hx hb dX0_become_38 (by decide) ?_
        refine lv_goto (tgt := 43) hx hb dX0_become_39 (by decide) ?_
        exact jn 1 (Or.inr rfl)
    refine lv_if_eq (tgt := 27) hx hb dX0_become_20 (by decide) (fun c_4 => ?_) (fun c_4 => ?_)
    · refine lv_iconst (v := 0) hx hb dX0_become_27 (by decide) ?_
      exact jn 0 (Or.inl rfl)
    · refine lv_iconst (v := 1) hx hb dX0_become_23 (by decide) ?_
      refine lv_goto (tgt := 28) hx hb dX0_become_24 (by decide) ?_
      exact jn 1 (Or.inr rfl)
  refine lv_if_eq (tgt := 12) hx hb dX0_become_5 (by decide) (fun c_1 => ?_) (fun c_1 => ?_)
  · refine lv_iconst (v := 0) hx hb dX0_become_12 (by decide) ?_
    exact jn 0 (Or.inl rfl)
  · refine lv_iconst (v := 1) hx hb dX0_become_8 (by decide) ?_
    refine lv_goto (tgt := 13) hx hb dX0_become_9 (by decide) ?_
    exact jn 1 (Or.inr rfl)
end

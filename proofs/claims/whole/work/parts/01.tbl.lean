-- ===== PART A: goes FIRST, ahead of the names: the tables' words, and 'selects' of the private methods out of them =====
/-- a private method of a class that the tables say can be made, by its rows of tables_1 -/
def lw_okq (q : MethodName × Nat) : Prop := (q.1.cls ≠ "java/lang/invoke/MethodHandle" ∧ q.1.cls ≠ "java/lang/invoke/VarHandle") ∧ Cond.instantiable q.1.cls q.2 ∈ tables_1 ∧ Cond.privateMethod q.1 ∈ tables_1 ∧ Cond.instanceMethod q.1 ∈ tables_1
theorem lw_p0 : lw_okq (⟨"MiddleBridge", "addBytes", "(I)V"⟩, 12) := ⟨⟨by decide +kernel, by decide +kernel⟩, List.mem_of_getElem? (i := 18) (by decide +kernel), List.mem_of_getElem? (i := 310) (by decide +kernel), List.mem_of_getElem? (i := 311) (by decide +kernel)⟩
theorem lw_p1 : lw_okq (⟨"MiddleBridge", "take", "(II)Z"⟩, 12) := ⟨⟨by decide +kernel, by decide +kernel⟩, List.mem_of_getElem? (i := 18) (by decide +kernel), List.mem_of_getElem? (i := 321) (by decide +kernel), List.mem_of_getElem? (i := 322) (by decide +kernel)⟩
theorem lw_p2 : lw_okq (⟨"MiddleBridge$Text", "begin", "([II)V"⟩, 4) := ⟨⟨by decide +kernel, by decide +kernel⟩, List.mem_of_getElem? (i := 26) (by decide +kernel), List.mem_of_getElem? (i := 325) (by decide +kernel), List.mem_of_getElem? (i := 326) (by decide +kernel)⟩
theorem lw_p3 : lw_okq (⟨"MiddleBridge$LawReader", "readAll", "(LMiddleBridge$Text;)V"⟩, 1) := ⟨⟨by decide +kernel, by decide +kernel⟩, List.mem_of_getElem? (i := 89) (by decide +kernel), List.mem_of_getElem? (i := 338) (by decide +kernel), List.mem_of_getElem? (i := 339) (by decide +kernel)⟩
theorem lw_p4 : lw_okq (⟨"MiddleBridge$Law", "empty", "()V"⟩, 9) := ⟨⟨by decide +kernel, by decide +kernel⟩, List.mem_of_getElem? (i := 95) (by decide +kernel), List.mem_of_getElem? (i := 342) (by decide +kernel), List.mem_of_getElem? (i := 343) (by decide +kernel)⟩
theorem lw_p5 : lw_okq (⟨"MiddleBridge$LawReader", "readRule", "(LMiddleBridge$Text;)V"⟩, 1) := ⟨⟨by decide +kernel, by decide +kernel⟩, List.mem_of_getElem? (i := 89) (by decide +kernel), List.mem_of_getElem? (i := 346) (by decide +kernel), List.mem_of_getElem? (i := 347) (by decide +kernel)⟩
theorem lw_p6 : lw_okq (⟨"MiddleBridge$Text", "sign", "()I"⟩, 4) := ⟨⟨by decide +kernel, by decide +kernel⟩, List.mem_of_getElem? (i := 26) (by decide +kernel), List.mem_of_getElem? (i := 350) (by decide +kernel), List.mem_of_getElem? (i := 351) (by decide +kernel)⟩
theorem lw_p7 : lw_okq (⟨"MiddleBridge$Text", "at", "(I)I"⟩, 4) := ⟨⟨by decide +kernel, by decide +kernel⟩, List.mem_of_getElem? (i := 26) (by decide +kernel), List.mem_of_getElem? (i := 354) (by decide +kernel), List.mem_of_getElem? (i := 355) (by decide +kernel)⟩
theorem lw_p8 : lw_okq (⟨"MiddleBridge$Text", "refuse", "(II)V"⟩, 4) := ⟨⟨by decide +kernel, by decide +kernel⟩, List.mem_of_getElem? (i := 26) (by decide +kernel), List.mem_of_getElem? (i := 358) (by decide +kernel), List.mem_of_getElem? (i := 359) (by decide +kernel)⟩
theorem lw_p9 : lw_okq (⟨"MiddleBridge$Law", "beginRule", "(I)V"⟩, 9) := ⟨⟨by decide +kernel, by decide +kernel⟩, List.mem_of_getElem? (i := 95) (by decide +kernel), List.mem_of_getElem? (i := 362) (by decide +kernel), List.mem_of_getElem? (i := 363) (by decide +kernel)⟩
theorem lw_p10 : lw_okq (⟨"MiddleBridge$LawReader", "readSum", "(LMiddleBridge$Text;I)V"⟩, 1) := ⟨⟨by decide +kernel, by decide +kernel⟩, List.mem_of_getElem? (i := 89) (by decide +kernel), List.mem_of_getElem? (i := 367) (by decide +kernel), List.mem_of_getElem? (i := 368) (by decide +kernel)⟩
theorem lw_p11 : lw_okq (⟨"MiddleBridge$LawReader", "readProduct", "(LMiddleBridge$Text;I)V"⟩, 1) := ⟨⟨by decide +kernel, by decide +kernel⟩, List.mem_of_getElem? (i := 89) (by decide +kernel), List.mem_of_getElem? (i := 371) (by decide +kernel), List.mem_of_getElem? (i := 372) (by decide +kernel)⟩
theorem lw_p12 : lw_okq (⟨"MiddleBridge$LawReader", "readFactor", "(LMiddleBridge$Text;I)V"⟩, 1) := ⟨⟨by decide +kernel, by decide +kernel⟩, List.mem_of_getElem? (i := 89) (by decide +kernel), List.mem_of_getElem? (i := 375) (by decide +kernel), List.mem_of_getElem? (i := 376) (by decide +kernel)⟩
theorem lw_p13 : lw_okq (⟨"MiddleBridge$Text", "sound", "()Z"⟩, 4) := ⟨⟨by decide +kernel, by decide +kernel⟩, List.mem_of_getElem? (i := 26) (by decide +kernel), List.mem_of_getElem? (i := 382) (by decide +kernel), List.mem_of_getElem? (i := 383) (by decide +kernel)⟩
theorem lw_p14 : lw_okq (⟨"MiddleBridge$Text", "pass", "(I)V"⟩, 4) := ⟨⟨by decide +kernel, by decide +kernel⟩, List.mem_of_getElem? (i := 26) (by decide +kernel), List.mem_of_getElem? (i := 386) (by decide +kernel), List.mem_of_getElem? (i := 387) (by decide +kernel)⟩
theorem lw_p15 : lw_okq (⟨"MiddleBridge$Text", "digit", "()Z"⟩, 4) := ⟨⟨by decide +kernel, by decide +kernel⟩, List.mem_of_getElem? (i := 26) (by decide +kernel), List.mem_of_getElem? (i := 393) (by decide +kernel), List.mem_of_getElem? (i := 394) (by decide +kernel)⟩
def lw_privs_1 : List (MethodName × Nat) := [(⟨"MiddleBridge", "addBytes", "(I)V"⟩, 12), (⟨"MiddleBridge", "take", "(II)Z"⟩, 12), (⟨"MiddleBridge$Text", "begin", "([II)V"⟩, 4), (⟨"MiddleBridge$LawReader", "readAll", "(LMiddleBridge$Text;)V"⟩, 1), (⟨"MiddleBridge$Law", "empty", "()V"⟩, 9), (⟨"MiddleBridge$LawReader", "readRule", "(LMiddleBridge$Text;)V"⟩, 1), (⟨"MiddleBridge$Text", "sign", "()I"⟩, 4), (⟨"MiddleBridge$Text", "at", "(I)I"⟩, 4), (⟨"MiddleBridge$Text", "refuse", "(II)V"⟩, 4), (⟨"MiddleBridge$Law", "beginRule", "(I)V"⟩, 9), (⟨"MiddleBridge$LawReader", "readSum", "(LMiddleBridge$Text;I)V"⟩, 1), (⟨"MiddleBridge$LawReader", "readProduct", "(LMiddleBridge$Text;I)V"⟩, 1), (⟨"MiddleBridge$LawReader", "readFactor", "(LMiddleBridge$Text;I)V"⟩, 1), (⟨"MiddleBridge$Text", "sound", "()Z"⟩, 4), (⟨"MiddleBridge$Text", "pass", "(I)V"⟩, 4), (⟨"MiddleBridge$Text", "digit", "()Z"⟩, 4)]
theorem lw_r1 : ∀ q ∈ lw_privs_1, lw_okq q := List.forall_mem_cons.mpr ⟨lw_p0, List.forall_mem_cons.mpr ⟨lw_p1, List.forall_mem_cons.mpr ⟨lw_p2, List.forall_mem_cons.mpr ⟨lw_p3, List.forall_mem_cons.mpr ⟨lw_p4, List.forall_mem_cons.mpr ⟨lw_p5, List.forall_mem_cons.mpr ⟨lw_p6, List.forall_mem_cons.mpr ⟨lw_p7, List.forall_mem_cons.mpr ⟨lw_p8, List.forall_mem_cons.mpr ⟨lw_p9, List.forall_mem_cons.mpr ⟨lw_p10, List.forall_mem_cons.mpr ⟨lw_p11, List.forall_mem_cons.mpr ⟨lw_p12, List.forall_mem_cons.mpr ⟨lw_p13, List.forall_mem_cons.mpr ⟨lw_p14, List.forall_mem_cons.mpr ⟨lw_p15, fun _ h => absurd h List.not_mem_nil⟩⟩⟩⟩⟩⟩⟩⟩⟩⟩⟩⟩⟩⟩⟩⟩
theorem lw_p16 : lw_okq (⟨"MiddleBridge$Text", "readNumber", "(I)I"⟩, 4) := ⟨⟨by decide +kernel, by decide +kernel⟩, List.mem_of_getElem? (i := 26) (by decide +kernel), List.mem_of_getElem? (i := 397) (by decide +kernel), List.mem_of_getElem? (i := 398) (by decide +kernel)⟩
theorem lw_p17 : lw_okq (⟨"MiddleBridge$Law", "add", "(II)I"⟩, 9) := ⟨⟨by decide +kernel, by decide +kernel⟩, List.mem_of_getElem? (i := 95) (by decide +kernel), List.mem_of_getElem? (i := 402) (by decide +kernel), List.mem_of_getElem? (i := 403) (by decide +kernel)⟩
theorem lw_p18 : lw_okq (⟨"MiddleBridge$Text", "either", "(III)I"⟩, 4) := ⟨⟨by decide +kernel, by decide +kernel⟩, List.mem_of_getElem? (i := 26) (by decide +kernel), List.mem_of_getElem? (i := 409) (by decide +kernel), List.mem_of_getElem? (i := 410) (by decide +kernel)⟩
theorem lw_p19 : lw_okq (⟨"MiddleBridge$Law", "beginTest", "()V"⟩, 9) := ⟨⟨by decide +kernel, by decide +kernel⟩, List.mem_of_getElem? (i := 95) (by decide +kernel), List.mem_of_getElem? (i := 413) (by decide +kernel), List.mem_of_getElem? (i := 414) (by decide +kernel)⟩
theorem lw_p20 : lw_okq (⟨"MiddleBridge$LawReader", "readParts", "(LMiddleBridge$Text;I)V"⟩, 1) := ⟨⟨by decide +kernel, by decide +kernel⟩, List.mem_of_getElem? (i := 89) (by decide +kernel), List.mem_of_getElem? (i := 417) (by decide +kernel), List.mem_of_getElem? (i := 418) (by decide +kernel)⟩
theorem lw_p21 : lw_okq (⟨"MiddleBridge$LawReader", "readPart", "(LMiddleBridge$Text;I)V"⟩, 1) := ⟨⟨by decide +kernel, by decide +kernel⟩, List.mem_of_getElem? (i := 89) (by decide +kernel), List.mem_of_getElem? (i := 421) (by decide +kernel), List.mem_of_getElem? (i := 422) (by decide +kernel)⟩
theorem lw_p22 : lw_okq (⟨"MiddleBridge$LawReader", "readTest", "(LMiddleBridge$Text;I)V"⟩, 1) := ⟨⟨by decide +kernel, by decide +kernel⟩, List.mem_of_getElem? (i := 89) (by decide +kernel), List.mem_of_getElem? (i := 425) (by decide +kernel), List.mem_of_getElem? (i := 426) (by decide +kernel)⟩
theorem lw_p23 : lw_okq (⟨"MiddleBridge$Text", "goesOn", "(I)Z"⟩, 4) := ⟨⟨by decide +kernel, by decide +kernel⟩, List.mem_of_getElem? (i := 26) (by decide +kernel), List.mem_of_getElem? (i := 429) (by decide +kernel), List.mem_of_getElem? (i := 430) (by decide +kernel)⟩
theorem lw_p24 : lw_okq (⟨"MiddleBridge$Law", "aim", "(I)V"⟩, 9) := ⟨⟨by decide +kernel, by decide +kernel⟩, List.mem_of_getElem? (i := 95) (by decide +kernel), List.mem_of_getElem? (i := 434) (by decide +kernel), List.mem_of_getElem? (i := 435) (by decide +kernel)⟩
theorem lw_p25 : lw_okq (⟨"MiddleBridge$Law", "endRule", "()V"⟩, 9) := ⟨⟨by decide +kernel, by decide +kernel⟩, List.mem_of_getElem? (i := 95) (by decide +kernel), List.mem_of_getElem? (i := 438) (by decide +kernel), List.mem_of_getElem? (i := 439) (by decide +kernel)⟩
theorem lw_p26 : lw_okq (⟨"MiddleBridge$Text", "mustEnd", "()V"⟩, 4) := ⟨⟨by decide +kernel, by decide +kernel⟩, List.mem_of_getElem? (i := 26) (by decide +kernel), List.mem_of_getElem? (i := 442) (by decide +kernel), List.mem_of_getElem? (i := 443) (by decide +kernel)⟩
theorem lw_p27 : lw_okq (⟨"MiddleBridge$LawReader", "exchange", "(LMiddleBridge$Law;)LMiddleBridge$Law;"⟩, 1) := ⟨⟨by decide +kernel, by decide +kernel⟩, List.mem_of_getElem? (i := 89) (by decide +kernel), List.mem_of_getElem? (i := 447) (by decide +kernel), List.mem_of_getElem? (i := 448) (by decide +kernel)⟩
theorem lw_p28 : lw_okq (⟨"MiddleBridge$PlanReader", "readAll", "(LMiddleBridge$Text;)V"⟩, 2) := ⟨⟨by decide +kernel, by decide +kernel⟩, List.mem_of_getElem? (i := 51) (by decide +kernel), List.mem_of_getElem? (i := 455) (by decide +kernel), List.mem_of_getElem? (i := 456) (by decide +kernel)⟩
theorem lw_p29 : lw_okq (⟨"MiddleBridge$PlanReader", "readItems", "(LMiddleBridge$Text;I)V"⟩, 2) := ⟨⟨by decide +kernel, by decide +kernel⟩, List.mem_of_getElem? (i := 51) (by decide +kernel), List.mem_of_getElem? (i := 459) (by decide +kernel), List.mem_of_getElem? (i := 460) (by decide +kernel)⟩
theorem lw_p30 : lw_okq (⟨"MiddleBridge$PlanReader", "readItem", "(LMiddleBridge$Text;I)V"⟩, 2) := ⟨⟨by decide +kernel, by decide +kernel⟩, List.mem_of_getElem? (i := 51) (by decide +kernel), List.mem_of_getElem? (i := 463) (by decide +kernel), List.mem_of_getElem? (i := 464) (by decide +kernel)⟩
theorem lw_p31 : lw_okq (⟨"MiddleBridge$PlanReader", "readTimes", "(LMiddleBridge$Text;)I"⟩, 2) := ⟨⟨by decide +kernel, by decide +kernel⟩, List.mem_of_getElem? (i := 51) (by decide +kernel), List.mem_of_getElem? (i := 467) (by decide +kernel), List.mem_of_getElem? (i := 468) (by decide +kernel)⟩
def lw_privs_2 : List (MethodName × Nat) := [(⟨"MiddleBridge$Text", "readNumber", "(I)I"⟩, 4), (⟨"MiddleBridge$Law", "add", "(II)I"⟩, 9), (⟨"MiddleBridge$Text", "either", "(III)I"⟩, 4), (⟨"MiddleBridge$Law", "beginTest", "()V"⟩, 9), (⟨"MiddleBridge$LawReader", "readParts", "(LMiddleBridge$Text;I)V"⟩, 1), (⟨"MiddleBridge$LawReader", "readPart", "(LMiddleBridge$Text;I)V"⟩, 1), (⟨"MiddleBridge$LawReader", "readTest", "(LMiddleBridge$Text;I)V"⟩, 1), (⟨"MiddleBridge$Text", "goesOn", "(I)Z"⟩, 4), (⟨"MiddleBridge$Law", "aim", "(I)V"⟩, 9), (⟨"MiddleBridge$Law", "endRule", "()V"⟩, 9), (⟨"MiddleBridge$Text", "mustEnd", "()V"⟩, 4), (⟨"MiddleBridge$LawReader", "exchange", "(LMiddleBridge$Law;)LMiddleBridge$Law;"⟩, 1), (⟨"MiddleBridge$PlanReader", "readAll", "(LMiddleBridge$Text;)V"⟩, 2), (⟨"MiddleBridge$PlanReader", "readItems", "(LMiddleBridge$Text;I)V"⟩, 2), (⟨"MiddleBridge$PlanReader", "readItem", "(LMiddleBridge$Text;I)V"⟩, 2), (⟨"MiddleBridge$PlanReader", "readTimes", "(LMiddleBridge$Text;)I"⟩, 2)]
theorem lw_r2 : ∀ q ∈ lw_privs_2, lw_okq q := List.forall_mem_cons.mpr ⟨lw_p16, List.forall_mem_cons.mpr ⟨lw_p17, List.forall_mem_cons.mpr ⟨lw_p18, List.forall_mem_cons.mpr ⟨lw_p19, List.forall_mem_cons.mpr ⟨lw_p20, List.forall_mem_cons.mpr ⟨lw_p21, List.forall_mem_cons.mpr ⟨lw_p22, List.forall_mem_cons.mpr ⟨lw_p23, List.forall_mem_cons.mpr ⟨lw_p24, List.forall_mem_cons.mpr ⟨lw_p25, List.forall_mem_cons.mpr ⟨lw_p26, List.forall_mem_cons.mpr ⟨lw_p27, List.forall_mem_cons.mpr ⟨lw_p28, List.forall_mem_cons.mpr ⟨lw_p29, List.forall_mem_cons.mpr ⟨lw_p30, List.forall_mem_cons.mpr ⟨lw_p31, fun _ h => absurd h List.not_mem_nil⟩⟩⟩⟩⟩⟩⟩⟩⟩⟩⟩⟩⟩⟩⟩⟩
theorem lw_p32 : lw_okq (⟨"MiddleBridge$PlanReader", "readGroup", "(LMiddleBridge$Text;I)V"⟩, 2) := ⟨⟨by decide +kernel, by decide +kernel⟩, List.mem_of_getElem? (i := 51) (by decide +kernel), List.mem_of_getElem? (i := 474) (by decide +kernel), List.mem_of_getElem? (i := 475) (by decide +kernel)⟩
theorem lw_p33 : lw_okq (⟨"MiddleBridge$Text", "readBounded", "(III)I"⟩, 4) := ⟨⟨by decide +kernel, by decide +kernel⟩, List.mem_of_getElem? (i := 26) (by decide +kernel), List.mem_of_getElem? (i := 480) (by decide +kernel), List.mem_of_getElem? (i := 481) (by decide +kernel)⟩
theorem lw_p34 : lw_okq (⟨"MiddleBridge$PlanReader", "addArch", "(I)V"⟩, 2) := ⟨⟨by decide +kernel, by decide +kernel⟩, List.mem_of_getElem? (i := 51) (by decide +kernel), List.mem_of_getElem? (i := 486) (by decide +kernel), List.mem_of_getElem? (i := 487) (by decide +kernel)⟩
theorem lw_p35 : lw_okq (⟨"MiddleBridge$PlanReader", "repeat", "(II)V"⟩, 2) := ⟨⟨by decide +kernel, by decide +kernel⟩, List.mem_of_getElem? (i := 51) (by decide +kernel), List.mem_of_getElem? (i := 492) (by decide +kernel), List.mem_of_getElem? (i := 493) (by decide +kernel)⟩
theorem lw_p36 : lw_okq (⟨"MiddleBridge$Works", "built", "(I)LMiddleBridge$Plan;"⟩, 6) := ⟨⟨by decide +kernel, by decide +kernel⟩, List.mem_of_getElem? (i := 135) (by decide +kernel), List.mem_of_getElem? (i := 501) (by decide +kernel), List.mem_of_getElem? (i := 502) (by decide +kernel)⟩
theorem lw_p37 : lw_okq (⟨"MiddleBridge$Plan", "renew", "([II)V"⟩, 2) := ⟨⟨by decide +kernel, by decide +kernel⟩, List.mem_of_getElem? (i := 141) (by decide +kernel), List.mem_of_getElem? (i := 505) (by decide +kernel), List.mem_of_getElem? (i := 506) (by decide +kernel)⟩
theorem lw_p38 : lw_okq (⟨"MiddleBridge$OrdersReader", "readAll", "(LMiddleBridge$Text;)V"⟩, 5) := ⟨⟨by decide +kernel, by decide +kernel⟩, List.mem_of_getElem? (i := 66) (by decide +kernel), List.mem_of_getElem? (i := 517) (by decide +kernel), List.mem_of_getElem? (i := 518) (by decide +kernel)⟩
theorem lw_p39 : lw_okq (⟨"MiddleBridge$OrdersReader", "readLine", "(LMiddleBridge$Text;)V"⟩, 5) := ⟨⟨by decide +kernel, by decide +kernel⟩, List.mem_of_getElem? (i := 66) (by decide +kernel), List.mem_of_getElem? (i := 521) (by decide +kernel), List.mem_of_getElem? (i := 522) (by decide +kernel)⟩
theorem lw_p40 : lw_okq (⟨"MiddleBridge$OrdersReader", "readDeed", "(LMiddleBridge$Text;Z)V"⟩, 5) := ⟨⟨by decide +kernel, by decide +kernel⟩, List.mem_of_getElem? (i := 66) (by decide +kernel), List.mem_of_getElem? (i := 528) (by decide +kernel), List.mem_of_getElem? (i := 529) (by decide +kernel)⟩
theorem lw_p41 : lw_okq (⟨"MiddleBridge$OrdersReader", "obey", "(LMiddleBridge$State;)V"⟩, 5) := ⟨⟨by decide +kernel, by decide +kernel⟩, List.mem_of_getElem? (i := 66) (by decide +kernel), List.mem_of_getElem? (i := 538) (by decide +kernel), List.mem_of_getElem? (i := 539) (by decide +kernel)⟩
theorem lw_p42 : lw_okq (⟨"MiddleBridge$State", "putBench", "(III)V"⟩, 8) := ⟨⟨by decide +kernel, by decide +kernel⟩, List.mem_of_getElem? (i := 157) (by decide +kernel), List.mem_of_getElem? (i := 543) (by decide +kernel), List.mem_of_getElem? (i := 544) (by decide +kernel)⟩
theorem lw_p43 : lw_okq (⟨"MiddleBridge$State", "addStore", "(I)V"⟩, 8) := ⟨⟨by decide +kernel, by decide +kernel⟩, List.mem_of_getElem? (i := 157) (by decide +kernel), List.mem_of_getElem? (i := 548) (by decide +kernel), List.mem_of_getElem? (i := 549) (by decide +kernel)⟩
theorem lw_p44 : lw_okq (⟨"MiddleBridge$State", "addDebt", "(I)V"⟩, 8) := ⟨⟨by decide +kernel, by decide +kernel⟩, List.mem_of_getElem? (i := 157) (by decide +kernel), List.mem_of_getElem? (i := 558) (by decide +kernel), List.mem_of_getElem? (i := 559) (by decide +kernel)⟩
theorem lw_p45 : lw_okq (⟨"MiddleBridge$State", "lay", "(II)V"⟩, 8) := ⟨⟨by decide +kernel, by decide +kernel⟩, List.mem_of_getElem? (i := 157) (by decide +kernel), List.mem_of_getElem? (i := 563) (by decide +kernel), List.mem_of_getElem? (i := 564) (by decide +kernel)⟩
theorem lw_p46 : lw_okq (⟨"MiddleBridge$State", "laidOn", "(I)I"⟩, 8) := ⟨⟨by decide +kernel, by decide +kernel⟩, List.mem_of_getElem? (i := 157) (by decide +kernel), List.mem_of_getElem? (i := 567) (by decide +kernel), List.mem_of_getElem? (i := 568) (by decide +kernel)⟩
theorem lw_p47 : lw_okq (⟨"MiddleBridge$State", "setLaid", "(II)V"⟩, 8) := ⟨⟨by decide +kernel, by decide +kernel⟩, List.mem_of_getElem? (i := 157) (by decide +kernel), List.mem_of_getElem? (i := 571) (by decide +kernel), List.mem_of_getElem? (i := 572) (by decide +kernel)⟩
def lw_privs_3 : List (MethodName × Nat) := [(⟨"MiddleBridge$PlanReader", "readGroup", "(LMiddleBridge$Text;I)V"⟩, 2), (⟨"MiddleBridge$Text", "readBounded", "(III)I"⟩, 4), (⟨"MiddleBridge$PlanReader", "addArch", "(I)V"⟩, 2), (⟨"MiddleBridge$PlanReader", "repeat", "(II)V"⟩, 2), (⟨"MiddleBridge$Works", "built", "(I)LMiddleBridge$Plan;"⟩, 6), (⟨"MiddleBridge$Plan", "renew", "([II)V"⟩, 2), (⟨"MiddleBridge$OrdersReader", "readAll", "(LMiddleBridge$Text;)V"⟩, 5), (⟨"MiddleBridge$OrdersReader", "readLine", "(LMiddleBridge$Text;)V"⟩, 5), (⟨"MiddleBridge$OrdersReader", "readDeed", "(LMiddleBridge$Text;Z)V"⟩, 5), (⟨"MiddleBridge$OrdersReader", "obey", "(LMiddleBridge$State;)V"⟩, 5), (⟨"MiddleBridge$State", "putBench", "(III)V"⟩, 8), (⟨"MiddleBridge$State", "addStore", "(I)V"⟩, 8), (⟨"MiddleBridge$State", "addDebt", "(I)V"⟩, 8), (⟨"MiddleBridge$State", "lay", "(II)V"⟩, 8), (⟨"MiddleBridge$State", "laidOn", "(I)I"⟩, 8), (⟨"MiddleBridge$State", "setLaid", "(II)V"⟩, 8)]
theorem lw_r3 : ∀ q ∈ lw_privs_3, lw_okq q := List.forall_mem_cons.mpr ⟨lw_p32, List.forall_mem_cons.mpr ⟨lw_p33, List.forall_mem_cons.mpr ⟨lw_p34, List.forall_mem_cons.mpr ⟨lw_p35, List.forall_mem_cons.mpr ⟨lw_p36, List.forall_mem_cons.mpr ⟨lw_p37, List.forall_mem_cons.mpr ⟨lw_p38, List.forall_mem_cons.mpr ⟨lw_p39, List.forall_mem_cons.mpr ⟨lw_p40, List.forall_mem_cons.mpr ⟨lw_p41, List.forall_mem_cons.mpr ⟨lw_p42, List.forall_mem_cons.mpr ⟨lw_p43, List.forall_mem_cons.mpr ⟨lw_p44, List.forall_mem_cons.mpr ⟨lw_p45, List.forall_mem_cons.mpr ⟨lw_p46, List.forall_mem_cons.mpr ⟨lw_p47, fun _ h => absurd h List.not_mem_nil⟩⟩⟩⟩⟩⟩⟩⟩⟩⟩⟩⟩⟩⟩⟩⟩
theorem lw_p48 : lw_okq (⟨"MiddleBridge$Works", "passDays", "(I)I"⟩, 6) := ⟨⟨by decide +kernel, by decide +kernel⟩, List.mem_of_getElem? (i := 135) (by decide +kernel), List.mem_of_getElem? (i := 579) (by decide +kernel), List.mem_of_getElem? (i := 580) (by decide +kernel)⟩
theorem lw_p49 : lw_okq (⟨"MiddleBridge$Works", "passDay", "()I"⟩, 6) := ⟨⟨by decide +kernel, by decide +kernel⟩, List.mem_of_getElem? (i := 135) (by decide +kernel), List.mem_of_getElem? (i := 583) (by decide +kernel), List.mem_of_getElem? (i := 584) (by decide +kernel)⟩
theorem lw_p50 : lw_okq (⟨"MiddleBridge$Works", "deliver", "()V"⟩, 6) := ⟨⟨by decide +kernel, by decide +kernel⟩, List.mem_of_getElem? (i := 135) (by decide +kernel), List.mem_of_getElem? (i := 587) (by decide +kernel), List.mem_of_getElem? (i := 588) (by decide +kernel)⟩
theorem lw_p51 : lw_okq (⟨"MiddleBridge$State", "nextDraw", "()I"⟩, 8) := ⟨⟨by decide +kernel, by decide +kernel⟩, List.mem_of_getElem? (i := 157) (by decide +kernel), List.mem_of_getElem? (i := 591) (by decide +kernel), List.mem_of_getElem? (i := 592) (by decide +kernel)⟩
theorem lw_p52 : lw_okq (⟨"MiddleBridge$Works", "tellAll", "(I)V"⟩, 6) := ⟨⟨by decide +kernel, by decide +kernel⟩, List.mem_of_getElem? (i := 135) (by decide +kernel), List.mem_of_getElem? (i := 596) (by decide +kernel), List.mem_of_getElem? (i := 597) (by decide +kernel)⟩
theorem lw_p53 : lw_okq (⟨"MiddleBridge$Law", "amount", "(II[I)I"⟩, 9) := ⟨⟨by decide +kernel, by decide +kernel⟩, List.mem_of_getElem? (i := 95) (by decide +kernel), List.mem_of_getElem? (i := 601) (by decide +kernel), List.mem_of_getElem? (i := 602) (by decide +kernel)⟩
theorem lw_p54 : lw_okq (⟨"MiddleBridge$Law", "reckon", "(II[I)I"⟩, 9) := ⟨⟨by decide +kernel, by decide +kernel⟩, List.mem_of_getElem? (i := 95) (by decide +kernel), List.mem_of_getElem? (i := 606) (by decide +kernel), List.mem_of_getElem? (i := 607) (by decide +kernel)⟩
theorem lw_p55 : lw_okq (⟨"MiddleBridge$Works", "work", "(I)I"⟩, 6) := ⟨⟨by decide +kernel, by decide +kernel⟩, List.mem_of_getElem? (i := 135) (by decide +kernel), List.mem_of_getElem? (i := 617) (by decide +kernel), List.mem_of_getElem? (i := 618) (by decide +kernel)⟩
theorem lw_p56 : lw_okq (⟨"MiddleBridge$Works", "reached", "(I)Z"⟩, 6) := ⟨⟨by decide +kernel, by decide +kernel⟩, List.mem_of_getElem? (i := 135) (by decide +kernel), List.mem_of_getElem? (i := 621) (by decide +kernel), List.mem_of_getElem? (i := 622) (by decide +kernel)⟩
theorem lw_p57 : lw_okq (⟨"MiddleBridge$Works", "standing", "(I)I"⟩, 6) := ⟨⟨by decide +kernel, by decide +kernel⟩, List.mem_of_getElem? (i := 135) (by decide +kernel), List.mem_of_getElem? (i := 626) (by decide +kernel), List.mem_of_getElem? (i := 627) (by decide +kernel)⟩
theorem lw_p58 : lw_okq (⟨"MiddleBridge$Plan", "standingBy", "(I)I"⟩, 2) := ⟨⟨by decide +kernel, by decide +kernel⟩, List.mem_of_getElem? (i := 141) (by decide +kernel), List.mem_of_getElem? (i := 631) (by decide +kernel), List.mem_of_getElem? (i := 632) (by decide +kernel)⟩
theorem lw_p59 : lw_okq (⟨"MiddleBridge$Works", "tellSide", "(I)V"⟩, 6) := ⟨⟨by decide +kernel, by decide +kernel⟩, List.mem_of_getElem? (i := 135) (by decide +kernel), List.mem_of_getElem? (i := 635) (by decide +kernel), List.mem_of_getElem? (i := 636) (by decide +kernel)⟩
theorem lw_p60 : lw_okq (⟨"MiddleBridge$Works", "toBuild", "(I)I"⟩, 6) := ⟨⟨by decide +kernel, by decide +kernel⟩, List.mem_of_getElem? (i := 135) (by decide +kernel), List.mem_of_getElem? (i := 639) (by decide +kernel), List.mem_of_getElem? (i := 640) (by decide +kernel)⟩
theorem lw_p61 : lw_okq (⟨"MiddleBridge$Works", "lacking", "(I)I"⟩, 6) := ⟨⟨by decide +kernel, by decide +kernel⟩, List.mem_of_getElem? (i := 135) (by decide +kernel), List.mem_of_getElem? (i := 643) (by decide +kernel), List.mem_of_getElem? (i := 644) (by decide +kernel)⟩
theorem lw_p62 : lw_okq (⟨"MiddleBridge$Plan", "stonesUpTo", "(I)I"⟩, 2) := ⟨⟨by decide +kernel, by decide +kernel⟩, List.mem_of_getElem? (i := 141) (by decide +kernel), List.mem_of_getElem? (i := 647) (by decide +kernel), List.mem_of_getElem? (i := 648) (by decide +kernel)⟩
theorem lw_p63 : lw_okq (⟨"MiddleBridge$Law", "someHolds", "(I[I)Z"⟩, 9) := ⟨⟨by decide +kernel, by decide +kernel⟩, List.mem_of_getElem? (i := 95) (by decide +kernel), List.mem_of_getElem? (i := 651) (by decide +kernel), List.mem_of_getElem? (i := 652) (by decide +kernel)⟩
def lw_privs_4 : List (MethodName × Nat) := [(⟨"MiddleBridge$Works", "passDays", "(I)I"⟩, 6), (⟨"MiddleBridge$Works", "passDay", "()I"⟩, 6), (⟨"MiddleBridge$Works", "deliver", "()V"⟩, 6), (⟨"MiddleBridge$State", "nextDraw", "()I"⟩, 8), (⟨"MiddleBridge$Works", "tellAll", "(I)V"⟩, 6), (⟨"MiddleBridge$Law", "amount", "(II[I)I"⟩, 9), (⟨"MiddleBridge$Law", "reckon", "(II[I)I"⟩, 9), (⟨"MiddleBridge$Works", "work", "(I)I"⟩, 6), (⟨"MiddleBridge$Works", "reached", "(I)Z"⟩, 6), (⟨"MiddleBridge$Works", "standing", "(I)I"⟩, 6), (⟨"MiddleBridge$Plan", "standingBy", "(I)I"⟩, 2), (⟨"MiddleBridge$Works", "tellSide", "(I)V"⟩, 6), (⟨"MiddleBridge$Works", "toBuild", "(I)I"⟩, 6), (⟨"MiddleBridge$Works", "lacking", "(I)I"⟩, 6), (⟨"MiddleBridge$Plan", "stonesUpTo", "(I)I"⟩, 2), (⟨"MiddleBridge$Law", "someHolds", "(I[I)Z"⟩, 9)]
theorem lw_r4 : ∀ q ∈ lw_privs_4, lw_okq q := List.forall_mem_cons.mpr ⟨lw_p48, List.forall_mem_cons.mpr ⟨lw_p49, List.forall_mem_cons.mpr ⟨lw_p50, List.forall_mem_cons.mpr ⟨lw_p51, List.forall_mem_cons.mpr ⟨lw_p52, List.forall_mem_cons.mpr ⟨lw_p53, List.forall_mem_cons.mpr ⟨lw_p54, List.forall_mem_cons.mpr ⟨lw_p55, List.forall_mem_cons.mpr ⟨lw_p56, List.forall_mem_cons.mpr ⟨lw_p57, List.forall_mem_cons.mpr ⟨lw_p58, List.forall_mem_cons.mpr ⟨lw_p59, List.forall_mem_cons.mpr ⟨lw_p60, List.forall_mem_cons.mpr ⟨lw_p61, List.forall_mem_cons.mpr ⟨lw_p62, List.forall_mem_cons.mpr ⟨lw_p63, fun _ h => absurd h List.not_mem_nil⟩⟩⟩⟩⟩⟩⟩⟩⟩⟩⟩⟩⟩⟩⟩⟩
theorem lw_p64 : lw_okq (⟨"MiddleBridge$Works", "mayBeLaid", "(I)I"⟩, 6) := ⟨⟨by decide +kernel, by decide +kernel⟩, List.mem_of_getElem? (i := 135) (by decide +kernel), List.mem_of_getElem? (i := 655) (by decide +kernel), List.mem_of_getElem? (i := 656) (by decide +kernel)⟩
theorem lw_p65 : lw_okq (⟨"MiddleBridge$Plan", "whole", "()I"⟩, 2) := ⟨⟨by decide +kernel, by decide +kernel⟩, List.mem_of_getElem? (i := 141) (by decide +kernel), List.mem_of_getElem? (i := 659) (by decide +kernel), List.mem_of_getElem? (i := 660) (by decide +kernel)⟩
theorem lw_p66 : lw_okq (⟨"MiddleBridge$Works", "fall", "()V"⟩, 6) := ⟨⟨by decide +kernel, by decide +kernel⟩, List.mem_of_getElem? (i := 135) (by decide +kernel), List.mem_of_getElem? (i := 666) (by decide +kernel), List.mem_of_getElem? (i := 667) (by decide +kernel)⟩
theorem lw_p67 : lw_okq (⟨"MiddleBridge$Works", "weight", "(I)I"⟩, 6) := ⟨⟨by decide +kernel, by decide +kernel⟩, List.mem_of_getElem? (i := 135) (by decide +kernel), List.mem_of_getElem? (i := 670) (by decide +kernel), List.mem_of_getElem? (i := 671) (by decide +kernel)⟩
theorem lw_p68 : lw_okq (⟨"MiddleBridge$Plan", "stonesOf", "(I)I"⟩, 2) := ⟨⟨by decide +kernel, by decide +kernel⟩, List.mem_of_getElem? (i := 141) (by decide +kernel), List.mem_of_getElem? (i := 674) (by decide +kernel), List.mem_of_getElem? (i := 675) (by decide +kernel)⟩
theorem lw_p69 : lw_okq (⟨"MiddleBridge$State", "benchAt", "(II)I"⟩, 8) := ⟨⟨by decide +kernel, by decide +kernel⟩, List.mem_of_getElem? (i := 157) (by decide +kernel), List.mem_of_getElem? (i := 678) (by decide +kernel), List.mem_of_getElem? (i := 679) (by decide +kernel)⟩
theorem lw_p70 : lw_okq (⟨"MiddleBridge$State", "copy", "(LMiddleBridge$State;)V"⟩, 8) := ⟨⟨by decide +kernel, by decide +kernel⟩, List.mem_of_getElem? (i := 157) (by decide +kernel), List.mem_of_getElem? (i := 691) (by decide +kernel), List.mem_of_getElem? (i := 692) (by decide +kernel)⟩
theorem lw_p71 : lw_okq (⟨"MiddleBridge", "triedIs", "(II)I"⟩, 12) := ⟨⟨by decide +kernel, by decide +kernel⟩, List.mem_of_getElem? (i := 18) (by decide +kernel), List.mem_of_getElem? (i := 696) (by decide +kernel), List.mem_of_getElem? (i := 697) (by decide +kernel)⟩
theorem lw_p72 : lw_okq (⟨"MiddleBridge$Works", "daysTillBank", "(I)I"⟩, 6) := ⟨⟨by decide +kernel, by decide +kernel⟩, List.mem_of_getElem? (i := 135) (by decide +kernel), List.mem_of_getElem? (i := 720) (by decide +kernel), List.mem_of_getElem? (i := 721) (by decide +kernel)⟩
theorem lw_p73 : lw_okq (⟨"MiddleBridge$Works", "sideAtBank", "()I"⟩, 6) := ⟨⟨by decide +kernel, by decide +kernel⟩, List.mem_of_getElem? (i := 135) (by decide +kernel), List.mem_of_getElem? (i := 724) (by decide +kernel), List.mem_of_getElem? (i := 725) (by decide +kernel)⟩
theorem lw_p74 : lw_okq (⟨"MiddleBridge$Works", "mostAhead", "(I)I"⟩, 6) := ⟨⟨by decide +kernel, by decide +kernel⟩, List.mem_of_getElem? (i := 135) (by decide +kernel), List.mem_of_getElem? (i := 732) (by decide +kernel), List.mem_of_getElem? (i := 733) (by decide +kernel)⟩
theorem lw_p75 : lw_okq (⟨"MiddleBridge$Works", "daysTillDebt", "(II)I"⟩, 6) := ⟨⟨by decide +kernel, by decide +kernel⟩, List.mem_of_getElem? (i := 135) (by decide +kernel), List.mem_of_getElem? (i := 741) (by decide +kernel), List.mem_of_getElem? (i := 742) (by decide +kernel)⟩
theorem lw_p76 : lw_okq (⟨"MiddleBridge$Puzzles", "ordersOfBuilding", "(LMiddleBridge$Works;)I"⟩, 5) := ⟨⟨by decide +kernel, by decide +kernel⟩, List.mem_of_getElem? (i := 239) (by decide +kernel), List.mem_of_getElem? (i := 761) (by decide +kernel), List.mem_of_getElem? (i := 762) (by decide +kernel)⟩
theorem lw_p77 : lw_okq (⟨"MiddleBridge$Puzzles", "lastPile", "(LMiddleBridge$Text;II)I"⟩, 5) := ⟨⟨by decide +kernel, by decide +kernel⟩, List.mem_of_getElem? (i := 239) (by decide +kernel), List.mem_of_getElem? (i := 787) (by decide +kernel), List.mem_of_getElem? (i := 788) (by decide +kernel)⟩
theorem lw_p78 : lw_okq (⟨"MiddleBridge$Puzzles", "pilesWithLast", "(LMiddleBridge$Text;II)I"⟩, 5) := ⟨⟨by decide +kernel, by decide +kernel⟩, List.mem_of_getElem? (i := 239) (by decide +kernel), List.mem_of_getElem? (i := 791) (by decide +kernel), List.mem_of_getElem? (i := 792) (by decide +kernel)⟩
theorem lw_p79 : lw_okq (⟨"MiddleBridge$Puzzles", "pilesUpTo", "(I)I"⟩, 5) := ⟨⟨by decide +kernel, by decide +kernel⟩, List.mem_of_getElem? (i := 239) (by decide +kernel), List.mem_of_getElem? (i := 796) (by decide +kernel), List.mem_of_getElem? (i := 797) (by decide +kernel)⟩
def lw_privs_5 : List (MethodName × Nat) := [(⟨"MiddleBridge$Works", "mayBeLaid", "(I)I"⟩, 6), (⟨"MiddleBridge$Plan", "whole", "()I"⟩, 2), (⟨"MiddleBridge$Works", "fall", "()V"⟩, 6), (⟨"MiddleBridge$Works", "weight", "(I)I"⟩, 6), (⟨"MiddleBridge$Plan", "stonesOf", "(I)I"⟩, 2), (⟨"MiddleBridge$State", "benchAt", "(II)I"⟩, 8), (⟨"MiddleBridge$State", "copy", "(LMiddleBridge$State;)V"⟩, 8), (⟨"MiddleBridge", "triedIs", "(II)I"⟩, 12), (⟨"MiddleBridge$Works", "daysTillBank", "(I)I"⟩, 6), (⟨"MiddleBridge$Works", "sideAtBank", "()I"⟩, 6), (⟨"MiddleBridge$Works", "mostAhead", "(I)I"⟩, 6), (⟨"MiddleBridge$Works", "daysTillDebt", "(II)I"⟩, 6), (⟨"MiddleBridge$Puzzles", "ordersOfBuilding", "(LMiddleBridge$Works;)I"⟩, 5), (⟨"MiddleBridge$Puzzles", "lastPile", "(LMiddleBridge$Text;II)I"⟩, 5), (⟨"MiddleBridge$Puzzles", "pilesWithLast", "(LMiddleBridge$Text;II)I"⟩, 5), (⟨"MiddleBridge$Puzzles", "pilesUpTo", "(I)I"⟩, 5)]
theorem lw_r5 : ∀ q ∈ lw_privs_5, lw_okq q := List.forall_mem_cons.mpr ⟨lw_p64, List.forall_mem_cons.mpr ⟨lw_p65, List.forall_mem_cons.mpr ⟨lw_p66, List.forall_mem_cons.mpr ⟨lw_p67, List.forall_mem_cons.mpr ⟨lw_p68, List.forall_mem_cons.mpr ⟨lw_p69, List.forall_mem_cons.mpr ⟨lw_p70, List.forall_mem_cons.mpr ⟨lw_p71, List.forall_mem_cons.mpr ⟨lw_p72, List.forall_mem_cons.mpr ⟨lw_p73, List.forall_mem_cons.mpr ⟨lw_p74, List.forall_mem_cons.mpr ⟨lw_p75, List.forall_mem_cons.mpr ⟨lw_p76, List.forall_mem_cons.mpr ⟨lw_p77, List.forall_mem_cons.mpr ⟨lw_p78, List.forall_mem_cons.mpr ⟨lw_p79, fun _ h => absurd h List.not_mem_nil⟩⟩⟩⟩⟩⟩⟩⟩⟩⟩⟩⟩⟩⟩⟩⟩
theorem lw_p80 : lw_okq (⟨"MiddleBridge$Puzzles", "leastMinutes", "(LMiddleBridge$Text;I)I"⟩, 5) := ⟨⟨by decide +kernel, by decide +kernel⟩, List.mem_of_getElem? (i := 239) (by decide +kernel), List.mem_of_getElem? (i := 832) (by decide +kernel), List.mem_of_getElem? (i := 833) (by decide +kernel)⟩
theorem lw_p81 : lw_okq (⟨"MiddleBridge$Puzzles", "sortMinutes", "(LMiddleBridge$Text;I)V"⟩, 5) := ⟨⟨by decide +kernel, by decide +kernel⟩, List.mem_of_getElem? (i := 239) (by decide +kernel), List.mem_of_getElem? (i := 836) (by decide +kernel), List.mem_of_getElem? (i := 837) (by decide +kernel)⟩
theorem lw_p82 : lw_okq (⟨"MiddleBridge$Text", "tellsEachOnce", "(II)Z"⟩, 4) := ⟨⟨by decide +kernel, by decide +kernel⟩, List.mem_of_getElem? (i := 26) (by decide +kernel), List.mem_of_getElem? (i := 844) (by decide +kernel), List.mem_of_getElem? (i := 845) (by decide +kernel)⟩
theorem lw_p83 : lw_okq (⟨"MiddleBridge$Puzzles", "weds", "(LMiddleBridge$Text;II)I"⟩, 5) := ⟨⟨by decide +kernel, by decide +kernel⟩, List.mem_of_getElem? (i := 239) (by decide +kernel), List.mem_of_getElem? (i := 848) (by decide +kernel), List.mem_of_getElem? (i := 849) (by decide +kernel)⟩
theorem lw_p84 : lw_okq (⟨"MiddleBridge$Puzzles", "firstSingle", "(I)I"⟩, 5) := ⟨⟨by decide +kernel, by decide +kernel⟩, List.mem_of_getElem? (i := 239) (by decide +kernel), List.mem_of_getElem? (i := 855) (by decide +kernel), List.mem_of_getElem? (i := 856) (by decide +kernel)⟩
theorem lw_p85 : lw_okq (⟨"MiddleBridge$Bell", "fewestChanges", "(LMiddleBridge$Text;I)I"⟩, 2) := ⟨⟨by decide +kernel, by decide +kernel⟩, List.mem_of_getElem? (i := 226) (by decide +kernel), List.mem_of_getElem? (i := 863) (by decide +kernel), List.mem_of_getElem? (i := 864) (by decide +kernel)⟩
theorem lw_p86 : lw_okq (⟨"MiddleBridge$Bell", "ringFrom", "(III)I"⟩, 2) := ⟨⟨by decide +kernel, by decide +kernel⟩, List.mem_of_getElem? (i := 226) (by decide +kernel), List.mem_of_getElem? (i := 873) (by decide +kernel), List.mem_of_getElem? (i := 874) (by decide +kernel)⟩
theorem lw_p87 : lw_okq (⟨"MiddleBridge", "checkedIs", "(I)I"⟩, 12) := ⟨⟨by decide +kernel, by decide +kernel⟩, List.mem_of_getElem? (i := 18) (by decide +kernel), List.mem_of_getElem? (i := 917) (by decide +kernel), List.mem_of_getElem? (i := 918) (by decide +kernel)⟩
theorem lw_p88 : lw_okq (⟨"MiddleBridgeModel", "types", "(I)V"⟩, 51) := ⟨⟨by decide +kernel, by decide +kernel⟩, List.mem_of_getElem? (i := 926) (by decide +kernel), List.mem_of_getElem? (i := 1100) (by decide +kernel), List.mem_of_getElem? (i := 1101) (by decide +kernel)⟩
theorem lw_p89 : lw_okq (⟨"MiddleBridgeModel", "beginsText", "(I)V"⟩, 51) := ⟨⟨by decide +kernel, by decide +kernel⟩, List.mem_of_getElem? (i := 926) (by decide +kernel), List.mem_of_getElem? (i := 1108) (by decide +kernel), List.mem_of_getElem? (i := 1109) (by decide +kernel)⟩
theorem lw_p90 : lw_okq (⟨"MiddleBridgeModel", "readsRule", "()Z"⟩, 51) := ⟨⟨by decide +kernel, by decide +kernel⟩, List.mem_of_getElem? (i := 926) (by decide +kernel), List.mem_of_getElem? (i := 1112) (by decide +kernel), List.mem_of_getElem? (i := 1113) (by decide +kernel)⟩
theorem lw_p91 : lw_okq (⟨"MiddleBridgeModel", "here", "()I"⟩, 51) := ⟨⟨by decide +kernel, by decide +kernel⟩, List.mem_of_getElem? (i := 926) (by decide +kernel), List.mem_of_getElem? (i := 1116) (by decide +kernel), List.mem_of_getElem? (i := 1117) (by decide +kernel)⟩
theorem lw_p92 : lw_okq (⟨"MiddleBridgeModel", "wrongAt", "(II)Z"⟩, 51) := ⟨⟨by decide +kernel, by decide +kernel⟩, List.mem_of_getElem? (i := 926) (by decide +kernel), List.mem_of_getElem? (i := 1120) (by decide +kernel), List.mem_of_getElem? (i := 1121) (by decide +kernel)⟩
theorem lw_p93 : lw_okq (⟨"MiddleBridgeModel", "readsSum", "()Z"⟩, 51) := ⟨⟨by decide +kernel, by decide +kernel⟩, List.mem_of_getElem? (i := 926) (by decide +kernel), List.mem_of_getElem? (i := 1124) (by decide +kernel), List.mem_of_getElem? (i := 1125) (by decide +kernel)⟩
theorem lw_p94 : lw_okq (⟨"MiddleBridgeModel", "readsFactor", "()Z"⟩, 51) := ⟨⟨by decide +kernel, by decide +kernel⟩, List.mem_of_getElem? (i := 926) (by decide +kernel), List.mem_of_getElem? (i := 1128) (by decide +kernel), List.mem_of_getElem? (i := 1129) (by decide +kernel)⟩
theorem lw_p95 : lw_okq (⟨"MiddleBridgeModel", "opens", "(I)Z"⟩, 51) := ⟨⟨by decide +kernel, by decide +kernel⟩, List.mem_of_getElem? (i := 926) (by decide +kernel), List.mem_of_getElem? (i := 1132) (by decide +kernel), List.mem_of_getElem? (i := 1133) (by decide +kernel)⟩
def lw_privs_6 : List (MethodName × Nat) := [(⟨"MiddleBridge$Puzzles", "leastMinutes", "(LMiddleBridge$Text;I)I"⟩, 5), (⟨"MiddleBridge$Puzzles", "sortMinutes", "(LMiddleBridge$Text;I)V"⟩, 5), (⟨"MiddleBridge$Text", "tellsEachOnce", "(II)Z"⟩, 4), (⟨"MiddleBridge$Puzzles", "weds", "(LMiddleBridge$Text;II)I"⟩, 5), (⟨"MiddleBridge$Puzzles", "firstSingle", "(I)I"⟩, 5), (⟨"MiddleBridge$Bell", "fewestChanges", "(LMiddleBridge$Text;I)I"⟩, 2), (⟨"MiddleBridge$Bell", "ringFrom", "(III)I"⟩, 2), (⟨"MiddleBridge", "checkedIs", "(I)I"⟩, 12), (⟨"MiddleBridgeModel", "types", "(I)V"⟩, 51), (⟨"MiddleBridgeModel", "beginsText", "(I)V"⟩, 51), (⟨"MiddleBridgeModel", "readsRule", "()Z"⟩, 51), (⟨"MiddleBridgeModel", "here", "()I"⟩, 51), (⟨"MiddleBridgeModel", "wrongAt", "(II)Z"⟩, 51), (⟨"MiddleBridgeModel", "readsSum", "()Z"⟩, 51), (⟨"MiddleBridgeModel", "readsFactor", "()Z"⟩, 51), (⟨"MiddleBridgeModel", "opens", "(I)Z"⟩, 51)]
theorem lw_r6 : ∀ q ∈ lw_privs_6, lw_okq q := List.forall_mem_cons.mpr ⟨lw_p80, List.forall_mem_cons.mpr ⟨lw_p81, List.forall_mem_cons.mpr ⟨lw_p82, List.forall_mem_cons.mpr ⟨lw_p83, List.forall_mem_cons.mpr ⟨lw_p84, List.forall_mem_cons.mpr ⟨lw_p85, List.forall_mem_cons.mpr ⟨lw_p86, List.forall_mem_cons.mpr ⟨lw_p87, List.forall_mem_cons.mpr ⟨lw_p88, List.forall_mem_cons.mpr ⟨lw_p89, List.forall_mem_cons.mpr ⟨lw_p90, List.forall_mem_cons.mpr ⟨lw_p91, List.forall_mem_cons.mpr ⟨lw_p92, List.forall_mem_cons.mpr ⟨lw_p93, List.forall_mem_cons.mpr ⟨lw_p94, List.forall_mem_cons.mpr ⟨lw_p95, fun _ h => absurd h List.not_mem_nil⟩⟩⟩⟩⟩⟩⟩⟩⟩⟩⟩⟩⟩⟩⟩⟩
theorem lw_p96 : lw_okq (⟨"MiddleBridgeModel", "isDigit", "()Z"⟩, 51) := ⟨⟨by decide +kernel, by decide +kernel⟩, List.mem_of_getElem? (i := 926) (by decide +kernel), List.mem_of_getElem? (i := 1137) (by decide +kernel), List.mem_of_getElem? (i := 1138) (by decide +kernel)⟩
theorem lw_p97 : lw_okq (⟨"MiddleBridgeModel", "readsNumber", "()Z"⟩, 51) := ⟨⟨by decide +kernel, by decide +kernel⟩, List.mem_of_getElem? (i := 926) (by decide +kernel), List.mem_of_getElem? (i := 1141) (by decide +kernel), List.mem_of_getElem? (i := 1142) (by decide +kernel)⟩
theorem lw_p98 : lw_okq (⟨"MiddleBridgeModel", "notes", "(II)V"⟩, 51) := ⟨⟨by decide +kernel, by decide +kernel⟩, List.mem_of_getElem? (i := 926) (by decide +kernel), List.mem_of_getElem? (i := 1145) (by decide +kernel), List.mem_of_getElem? (i := 1146) (by decide +kernel)⟩
theorem lw_p99 : lw_okq (⟨"MiddleBridgeModel", "closesSums", "(Z)V"⟩, 51) := ⟨⟨by decide +kernel, by decide +kernel⟩, List.mem_of_getElem? (i := 926) (by decide +kernel), List.mem_of_getElem? (i := 1155) (by decide +kernel), List.mem_of_getElem? (i := 1156) (by decide +kernel)⟩
theorem lw_p100 : lw_okq (⟨"MiddleBridgeModel", "waitTop", "()I"⟩, 51) := ⟨⟨by decide +kernel, by decide +kernel⟩, List.mem_of_getElem? (i := 926) (by decide +kernel), List.mem_of_getElem? (i := 1159) (by decide +kernel), List.mem_of_getElem? (i := 1160) (by decide +kernel)⟩
theorem lw_p101 : lw_okq (⟨"MiddleBridgeModel", "hasOpenSum", "(I)Z"⟩, 51) := ⟨⟨by decide +kernel, by decide +kernel⟩, List.mem_of_getElem? (i := 926) (by decide +kernel), List.mem_of_getElem? (i := 1163) (by decide +kernel), List.mem_of_getElem? (i := 1164) (by decide +kernel)⟩
theorem lw_p102 : lw_okq (⟨"MiddleBridgeModel", "readsCondition", "()Z"⟩, 51) := ⟨⟨by decide +kernel, by decide +kernel⟩, List.mem_of_getElem? (i := 926) (by decide +kernel), List.mem_of_getElem? (i := 1167) (by decide +kernel), List.mem_of_getElem? (i := 1168) (by decide +kernel)⟩
theorem lw_p103 : lw_okq (⟨"MiddleBridgeModel", "readsCompared", "()Z"⟩, 51) := ⟨⟨by decide +kernel, by decide +kernel⟩, List.mem_of_getElem? (i := 926) (by decide +kernel), List.mem_of_getElem? (i := 1171) (by decide +kernel), List.mem_of_getElem? (i := 1172) (by decide +kernel)⟩
theorem lw_p104 : lw_okq (⟨"MiddleBridgeModel", "endsPiece", "()V"⟩, 51) := ⟨⟨by decide +kernel, by decide +kernel⟩, List.mem_of_getElem? (i := 926) (by decide +kernel), List.mem_of_getElem? (i := 1175) (by decide +kernel), List.mem_of_getElem? (i := 1176) (by decide +kernel)⟩
theorem lw_p105 : lw_okq (⟨"MiddleBridgeModel", "lands", "(Z)V"⟩, 51) := ⟨⟨by decide +kernel, by decide +kernel⟩, List.mem_of_getElem? (i := 926) (by decide +kernel), List.mem_of_getElem? (i := 1179) (by decide +kernel), List.mem_of_getElem? (i := 1180) (by decide +kernel)⟩
theorem lw_p106 : lw_okq (⟨"MiddleBridgeModel", "jumps", "(I)V"⟩, 51) := ⟨⟨by decide +kernel, by decide +kernel⟩, List.mem_of_getElem? (i := 926) (by decide +kernel), List.mem_of_getElem? (i := 1183) (by decide +kernel), List.mem_of_getElem? (i := 1184) (by decide +kernel)⟩
theorem lw_p107 : lw_okq (⟨"MiddleBridgeModel", "takes", "(I)Z"⟩, 51) := ⟨⟨by decide +kernel, by decide +kernel⟩, List.mem_of_getElem? (i := 926) (by decide +kernel), List.mem_of_getElem? (i := 1187) (by decide +kernel), List.mem_of_getElem? (i := 1188) (by decide +kernel)⟩
theorem lw_p108 : lw_okq (⟨"MiddleBridgeModel", "readsItem", "()Z"⟩, 51) := ⟨⟨by decide +kernel, by decide +kernel⟩, List.mem_of_getElem? (i := 926) (by decide +kernel), List.mem_of_getElem? (i := 1198) (by decide +kernel), List.mem_of_getElem? (i := 1199) (by decide +kernel)⟩
theorem lw_p109 : lw_okq (⟨"MiddleBridgeModel", "readsTimes", "()V"⟩, 51) := ⟨⟨by decide +kernel, by decide +kernel⟩, List.mem_of_getElem? (i := 926) (by decide +kernel), List.mem_of_getElem? (i := 1202) (by decide +kernel), List.mem_of_getElem? (i := 1203) (by decide +kernel)⟩
theorem lw_p110 : lw_okq (⟨"MiddleBridgeModel", "octet", "(I)I"⟩, 51) := ⟨⟨by decide +kernel, by decide +kernel⟩, List.mem_of_getElem? (i := 926) (by decide +kernel), List.mem_of_getElem? (i := 1206) (by decide +kernel), List.mem_of_getElem? (i := 1207) (by decide +kernel)⟩
theorem lw_p111 : lw_okq (⟨"MiddleBridgeModel", "readsAmount", "(I)Z"⟩, 51) := ⟨⟨by decide +kernel, by decide +kernel⟩, List.mem_of_getElem? (i := 926) (by decide +kernel), List.mem_of_getElem? (i := 1210) (by decide +kernel), List.mem_of_getElem? (i := 1211) (by decide +kernel)⟩
def lw_privs_7 : List (MethodName × Nat) := [(⟨"MiddleBridgeModel", "isDigit", "()Z"⟩, 51), (⟨"MiddleBridgeModel", "readsNumber", "()Z"⟩, 51), (⟨"MiddleBridgeModel", "notes", "(II)V"⟩, 51), (⟨"MiddleBridgeModel", "closesSums", "(Z)V"⟩, 51), (⟨"MiddleBridgeModel", "waitTop", "()I"⟩, 51), (⟨"MiddleBridgeModel", "hasOpenSum", "(I)Z"⟩, 51), (⟨"MiddleBridgeModel", "readsCondition", "()Z"⟩, 51), (⟨"MiddleBridgeModel", "readsCompared", "()Z"⟩, 51), (⟨"MiddleBridgeModel", "endsPiece", "()V"⟩, 51), (⟨"MiddleBridgeModel", "lands", "(Z)V"⟩, 51), (⟨"MiddleBridgeModel", "jumps", "(I)V"⟩, 51), (⟨"MiddleBridgeModel", "takes", "(I)Z"⟩, 51), (⟨"MiddleBridgeModel", "readsItem", "()Z"⟩, 51), (⟨"MiddleBridgeModel", "readsTimes", "()V"⟩, 51), (⟨"MiddleBridgeModel", "octet", "(I)I"⟩, 51), (⟨"MiddleBridgeModel", "readsAmount", "(I)Z"⟩, 51)]
theorem lw_r7 : ∀ q ∈ lw_privs_7, lw_okq q := List.forall_mem_cons.mpr ⟨lw_p96, List.forall_mem_cons.mpr ⟨lw_p97, List.forall_mem_cons.mpr ⟨lw_p98, List.forall_mem_cons.mpr ⟨lw_p99, List.forall_mem_cons.mpr ⟨lw_p100, List.forall_mem_cons.mpr ⟨lw_p101, List.forall_mem_cons.mpr ⟨lw_p102, List.forall_mem_cons.mpr ⟨lw_p103, List.forall_mem_cons.mpr ⟨lw_p104, List.forall_mem_cons.mpr ⟨lw_p105, List.forall_mem_cons.mpr ⟨lw_p106, List.forall_mem_cons.mpr ⟨lw_p107, List.forall_mem_cons.mpr ⟨lw_p108, List.forall_mem_cons.mpr ⟨lw_p109, List.forall_mem_cons.mpr ⟨lw_p110, List.forall_mem_cons.mpr ⟨lw_p111, fun _ h => absurd h List.not_mem_nil⟩⟩⟩⟩⟩⟩⟩⟩⟩⟩⟩⟩⟩⟩⟩⟩
theorem lw_p112 : lw_okq (⟨"MiddleBridgeModel", "repeats", "(III)Z"⟩, 51) := ⟨⟨by decide +kernel, by decide +kernel⟩, List.mem_of_getElem? (i := 926) (by decide +kernel), List.mem_of_getElem? (i := 1214) (by decide +kernel), List.mem_of_getElem? (i := 1215) (by decide +kernel)⟩
theorem lw_p113 : lw_okq (⟨"MiddleBridgeModel", "readsLine", "()Z"⟩, 51) := ⟨⟨by decide +kernel, by decide +kernel⟩, List.mem_of_getElem? (i := 926) (by decide +kernel), List.mem_of_getElem? (i := 1225) (by decide +kernel), List.mem_of_getElem? (i := 1226) (by decide +kernel)⟩
theorem lw_p114 : lw_okq (⟨"MiddleBridgeModel", "readsMore", "(II)Z"⟩, 51) := ⟨⟨by decide +kernel, by decide +kernel⟩, List.mem_of_getElem? (i := 926) (by decide +kernel), List.mem_of_getElem? (i := 1229) (by decide +kernel), List.mem_of_getElem? (i := 1230) (by decide +kernel)⟩
theorem lw_p115 : lw_okq (⟨"MiddleBridgeModel", "readsBench", "(I)Z"⟩, 51) := ⟨⟨by decide +kernel, by decide +kernel⟩, List.mem_of_getElem? (i := 926) (by decide +kernel), List.mem_of_getElem? (i := 1240) (by decide +kernel), List.mem_of_getElem? (i := 1241) (by decide +kernel)⟩
theorem lw_p116 : lw_okq (⟨"MiddleBridgeModel", "daysGo", "(I)V"⟩, 51) := ⟨⟨by decide +kernel, by decide +kernel⟩, List.mem_of_getElem? (i := 926) (by decide +kernel), List.mem_of_getElem? (i := 1248) (by decide +kernel), List.mem_of_getElem? (i := 1249) (by decide +kernel)⟩
theorem lw_p117 : lw_okq (⟨"MiddleBridgeModel", "beginsDays", "()V"⟩, 51) := ⟨⟨by decide +kernel, by decide +kernel⟩, List.mem_of_getElem? (i := 926) (by decide +kernel), List.mem_of_getElem? (i := 1252) (by decide +kernel), List.mem_of_getElem? (i := 1253) (by decide +kernel)⟩
theorem lw_p118 : lw_okq (⟨"MiddleBridgeModel", "dayGoes", "()V"⟩, 51) := ⟨⟨by decide +kernel, by decide +kernel⟩, List.mem_of_getElem? (i := 926) (by decide +kernel), List.mem_of_getElem? (i := 1256) (by decide +kernel), List.mem_of_getElem? (i := 1257) (by decide +kernel)⟩
theorem lw_p119 : lw_okq (⟨"MiddleBridgeModel", "draws", "()I"⟩, 51) := ⟨⟨by decide +kernel, by decide +kernel⟩, List.mem_of_getElem? (i := 926) (by decide +kernel), List.mem_of_getElem? (i := 1260) (by decide +kernel), List.mem_of_getElem? (i := 1261) (by decide +kernel)⟩
theorem lw_p120 : lw_okq (⟨"MiddleBridgeModel", "feels", "(I)V"⟩, 51) := ⟨⟨by decide +kernel, by decide +kernel⟩, List.mem_of_getElem? (i := 926) (by decide +kernel), List.mem_of_getElem? (i := 1265) (by decide +kernel), List.mem_of_getElem? (i := 1266) (by decide +kernel)⟩
theorem lw_p121 : lw_okq (⟨"MiddleBridgeModel", "byLaw", "(II)I"⟩, 51) := ⟨⟨by decide +kernel, by decide +kernel⟩, List.mem_of_getElem? (i := 926) (by decide +kernel), List.mem_of_getElem? (i := 1269) (by decide +kernel), List.mem_of_getElem? (i := 1270) (by decide +kernel)⟩
theorem lw_p122 : lw_okq (⟨"MiddleBridgeModel", "comesTo", "(II)I"⟩, 51) := ⟨⟨by decide +kernel, by decide +kernel⟩, List.mem_of_getElem? (i := 926) (by decide +kernel), List.mem_of_getElem? (i := 1273) (by decide +kernel), List.mem_of_getElem? (i := 1274) (by decide +kernel)⟩
theorem lw_p123 : lw_okq (⟨"MiddleBridgeModel", "touchesNow", "(I)Z"⟩, 51) := ⟨⟨by decide +kernel, by decide +kernel⟩, List.mem_of_getElem? (i := 926) (by decide +kernel), List.mem_of_getElem? (i := 1280) (by decide +kernel), List.mem_of_getElem? (i := 1281) (by decide +kernel)⟩
theorem lw_p124 : lw_okq (⟨"MiddleBridgeModel", "leftToBuild", "(I)I"⟩, 51) := ⟨⟨by decide +kernel, by decide +kernel⟩, List.mem_of_getElem? (i := 926) (by decide +kernel), List.mem_of_getElem? (i := 1284) (by decide +kernel), List.mem_of_getElem? (i := 1285) (by decide +kernel)⟩
theorem lw_p125 : lw_okq (⟨"MiddleBridgeModel", "standing", "(I)I"⟩, 51) := ⟨⟨by decide +kernel, by decide +kernel⟩, List.mem_of_getElem? (i := 926) (by decide +kernel), List.mem_of_getElem? (i := 1288) (by decide +kernel), List.mem_of_getElem? (i := 1289) (by decide +kernel)⟩
theorem lw_p126 : lw_okq (⟨"MiddleBridgeModel", "stonesTo", "(II)I"⟩, 51) := ⟨⟨by decide +kernel, by decide +kernel⟩, List.mem_of_getElem? (i := 926) (by decide +kernel), List.mem_of_getElem? (i := 1292) (by decide +kernel), List.mem_of_getElem? (i := 1293) (by decide +kernel)⟩
theorem lw_p127 : lw_okq (⟨"MiddleBridgeModel", "works", "(I)V"⟩, 51) := ⟨⟨by decide +kernel, by decide +kernel⟩, List.mem_of_getElem? (i := 926) (by decide +kernel), List.mem_of_getElem? (i := 1296) (by decide +kernel), List.mem_of_getElem? (i := 1297) (by decide +kernel)⟩
def lw_privs_8 : List (MethodName × Nat) := [(⟨"MiddleBridgeModel", "repeats", "(III)Z"⟩, 51), (⟨"MiddleBridgeModel", "readsLine", "()Z"⟩, 51), (⟨"MiddleBridgeModel", "readsMore", "(II)Z"⟩, 51), (⟨"MiddleBridgeModel", "readsBench", "(I)Z"⟩, 51), (⟨"MiddleBridgeModel", "daysGo", "(I)V"⟩, 51), (⟨"MiddleBridgeModel", "beginsDays", "()V"⟩, 51), (⟨"MiddleBridgeModel", "dayGoes", "()V"⟩, 51), (⟨"MiddleBridgeModel", "draws", "()I"⟩, 51), (⟨"MiddleBridgeModel", "feels", "(I)V"⟩, 51), (⟨"MiddleBridgeModel", "byLaw", "(II)I"⟩, 51), (⟨"MiddleBridgeModel", "comesTo", "(II)I"⟩, 51), (⟨"MiddleBridgeModel", "touchesNow", "(I)Z"⟩, 51), (⟨"MiddleBridgeModel", "leftToBuild", "(I)I"⟩, 51), (⟨"MiddleBridgeModel", "standing", "(I)I"⟩, 51), (⟨"MiddleBridgeModel", "stonesTo", "(II)I"⟩, 51), (⟨"MiddleBridgeModel", "works", "(I)V"⟩, 51)]
theorem lw_r8 : ∀ q ∈ lw_privs_8, lw_okq q := List.forall_mem_cons.mpr ⟨lw_p112, List.forall_mem_cons.mpr ⟨lw_p113, List.forall_mem_cons.mpr ⟨lw_p114, List.forall_mem_cons.mpr ⟨lw_p115, List.forall_mem_cons.mpr ⟨lw_p116, List.forall_mem_cons.mpr ⟨lw_p117, List.forall_mem_cons.mpr ⟨lw_p118, List.forall_mem_cons.mpr ⟨lw_p119, List.forall_mem_cons.mpr ⟨lw_p120, List.forall_mem_cons.mpr ⟨lw_p121, List.forall_mem_cons.mpr ⟨lw_p122, List.forall_mem_cons.mpr ⟨lw_p123, List.forall_mem_cons.mpr ⟨lw_p124, List.forall_mem_cons.mpr ⟨lw_p125, List.forall_mem_cons.mpr ⟨lw_p126, List.forall_mem_cons.mpr ⟨lw_p127, fun _ h => absurd h List.not_mem_nil⟩⟩⟩⟩⟩⟩⟩⟩⟩⟩⟩⟩⟩⟩⟩⟩
theorem lw_p128 : lw_okq (⟨"MiddleBridgeModel", "nextNeeds", "(I)I"⟩, 51) := ⟨⟨by decide +kernel, by decide +kernel⟩, List.mem_of_getElem? (i := 926) (by decide +kernel), List.mem_of_getElem? (i := 1300) (by decide +kernel), List.mem_of_getElem? (i := 1301) (by decide +kernel)⟩
theorem lw_p129 : lw_okq (⟨"MiddleBridgeModel", "holdsAny", "(I)Z"⟩, 51) := ⟨⟨by decide +kernel, by decide +kernel⟩, List.mem_of_getElem? (i := 926) (by decide +kernel), List.mem_of_getElem? (i := 1304) (by decide +kernel), List.mem_of_getElem? (i := 1305) (by decide +kernel)⟩
theorem lw_p130 : lw_okq (⟨"MiddleBridgeModel", "mayCome", "(I)I"⟩, 51) := ⟨⟨by decide +kernel, by decide +kernel⟩, List.mem_of_getElem? (i := 926) (by decide +kernel), List.mem_of_getElem? (i := 1308) (by decide +kernel), List.mem_of_getElem? (i := 1309) (by decide +kernel)⟩
theorem lw_p131 : lw_okq (⟨"MiddleBridgeModel", "whole", "(I)I"⟩, 51) := ⟨⟨by decide +kernel, by decide +kernel⟩, List.mem_of_getElem? (i := 926) (by decide +kernel), List.mem_of_getElem? (i := 1312) (by decide +kernel), List.mem_of_getElem? (i := 1313) (by decide +kernel)⟩
theorem lw_p132 : lw_okq (⟨"MiddleBridgeModel", "tiltNow", "()I"⟩, 51) := ⟨⟨by decide +kernel, by decide +kernel⟩, List.mem_of_getElem? (i := 926) (by decide +kernel), List.mem_of_getElem? (i := 1316) (by decide +kernel), List.mem_of_getElem? (i := 1317) (by decide +kernel)⟩
theorem lw_p133 : lw_okq (⟨"MiddleBridgeModel", "weightOf", "(I)I"⟩, 51) := ⟨⟨by decide +kernel, by decide +kernel⟩, List.mem_of_getElem? (i := 926) (by decide +kernel), List.mem_of_getElem? (i := 1320) (by decide +kernel), List.mem_of_getElem? (i := 1321) (by decide +kernel)⟩
theorem lw_p134 : lw_okq (⟨"MiddleBridgeModel", "whoTouches", "()I"⟩, 51) := ⟨⟨by decide +kernel, by decide +kernel⟩, List.mem_of_getElem? (i := 926) (by decide +kernel), List.mem_of_getElem? (i := 1343) (by decide +kernel), List.mem_of_getElem? (i := 1344) (by decide +kernel)⟩
theorem lw_p135 : lw_okq (⟨"MiddleBridgeModel", "sumOf", "(II)I"⟩, 51) := ⟨⟨by decide +kernel, by decide +kernel⟩, List.mem_of_getElem? (i := 926) (by decide +kernel), List.mem_of_getElem? (i := 1360) (by decide +kernel), List.mem_of_getElem? (i := 1361) (by decide +kernel)⟩
theorem lw_p136 : lw_okq (⟨"MiddleBridgeModel", "mayStand", "(II)Z"⟩, 51) := ⟨⟨by decide +kernel, by decide +kernel⟩, List.mem_of_getElem? (i := 926) (by decide +kernel), List.mem_of_getElem? (i := 1374) (by decide +kernel), List.mem_of_getElem? (i := 1375) (by decide +kernel)⟩
theorem lw_p137 : lw_okq (⟨"MiddleBridgeModel", "isAllLit", "(III)Z"⟩, 51) := ⟨⟨by decide +kernel, by decide +kernel⟩, List.mem_of_getElem? (i := 926) (by decide +kernel), List.mem_of_getElem? (i := 1398) (by decide +kernel), List.mem_of_getElem? (i := 1399) (by decide +kernel)⟩
theorem lw_p138 : lw_okq (⟨"MiddleBridgeModel", "sorts", "(I)V"⟩, 51) := ⟨⟨by decide +kernel, by decide +kernel⟩, List.mem_of_getElem? (i := 926) (by decide +kernel), List.mem_of_getElem? (i := 1410) (by decide +kernel), List.mem_of_getElem? (i := 1411) (by decide +kernel)⟩
theorem lw_p139 : lw_okq (⟨"MiddleBridgeModel", "isOnceEach", "(II)Z"⟩, 51) := ⟨⟨by decide +kernel, by decide +kernel⟩, List.mem_of_getElem? (i := 926) (by decide +kernel), List.mem_of_getElem? (i := 1418) (by decide +kernel), List.mem_of_getElem? (i := 1419) (by decide +kernel)⟩
theorem lw_p140 : lw_okq (⟨"MiddleBridgeModel", "whoAsks", "(I)I"⟩, 51) := ⟨⟨by decide +kernel, by decide +kernel⟩, List.mem_of_getElem? (i := 926) (by decide +kernel), List.mem_of_getElem? (i := 1422) (by decide +kernel), List.mem_of_getElem? (i := 1423) (by decide +kernel)⟩
theorem lw_p141 : lw_okq (⟨"MiddleBridgeModel", "likes", "(III)I"⟩, 51) := ⟨⟨by decide +kernel, by decide +kernel⟩, List.mem_of_getElem? (i := 926) (by decide +kernel), List.mem_of_getElem? (i := 1426) (by decide +kernel), List.mem_of_getElem? (i := 1427) (by decide +kernel)⟩
theorem lw_p142 : lw_okq (⟨"MiddleBridgeModel", "unfolds", "(II)V"⟩, 51) := ⟨⟨by decide +kernel, by decide +kernel⟩, List.mem_of_getElem? (i := 926) (by decide +kernel), List.mem_of_getElem? (i := 1434) (by decide +kernel), List.mem_of_getElem? (i := 1435) (by decide +kernel)⟩
theorem lw_p143 : lw_okq (⟨"MiddleBridgeModel", "changedBy", "(II)I"⟩, 51) := ⟨⟨by decide +kernel, by decide +kernel⟩, List.mem_of_getElem? (i := 926) (by decide +kernel), List.mem_of_getElem? (i := 1438) (by decide +kernel), List.mem_of_getElem? (i := 1439) (by decide +kernel)⟩
def lw_privs_9 : List (MethodName × Nat) := [(⟨"MiddleBridgeModel", "nextNeeds", "(I)I"⟩, 51), (⟨"MiddleBridgeModel", "holdsAny", "(I)Z"⟩, 51), (⟨"MiddleBridgeModel", "mayCome", "(I)I"⟩, 51), (⟨"MiddleBridgeModel", "whole", "(I)I"⟩, 51), (⟨"MiddleBridgeModel", "tiltNow", "()I"⟩, 51), (⟨"MiddleBridgeModel", "weightOf", "(I)I"⟩, 51), (⟨"MiddleBridgeModel", "whoTouches", "()I"⟩, 51), (⟨"MiddleBridgeModel", "sumOf", "(II)I"⟩, 51), (⟨"MiddleBridgeModel", "mayStand", "(II)Z"⟩, 51), (⟨"MiddleBridgeModel", "isAllLit", "(III)Z"⟩, 51), (⟨"MiddleBridgeModel", "sorts", "(I)V"⟩, 51), (⟨"MiddleBridgeModel", "isOnceEach", "(II)Z"⟩, 51), (⟨"MiddleBridgeModel", "whoAsks", "(I)I"⟩, 51), (⟨"MiddleBridgeModel", "likes", "(III)I"⟩, 51), (⟨"MiddleBridgeModel", "unfolds", "(II)V"⟩, 51), (⟨"MiddleBridgeModel", "changedBy", "(II)I"⟩, 51)]
theorem lw_r9 : ∀ q ∈ lw_privs_9, lw_okq q := List.forall_mem_cons.mpr ⟨lw_p128, List.forall_mem_cons.mpr ⟨lw_p129, List.forall_mem_cons.mpr ⟨lw_p130, List.forall_mem_cons.mpr ⟨lw_p131, List.forall_mem_cons.mpr ⟨lw_p132, List.forall_mem_cons.mpr ⟨lw_p133, List.forall_mem_cons.mpr ⟨lw_p134, List.forall_mem_cons.mpr ⟨lw_p135, List.forall_mem_cons.mpr ⟨lw_p136, List.forall_mem_cons.mpr ⟨lw_p137, List.forall_mem_cons.mpr ⟨lw_p138, List.forall_mem_cons.mpr ⟨lw_p139, List.forall_mem_cons.mpr ⟨lw_p140, List.forall_mem_cons.mpr ⟨lw_p141, List.forall_mem_cons.mpr ⟨lw_p142, List.forall_mem_cons.mpr ⟨lw_p143, fun _ h => absurd h List.not_mem_nil⟩⟩⟩⟩⟩⟩⟩⟩⟩⟩⟩⟩⟩⟩⟩⟩
def lw_privs : List (MethodName × Nat) := lw_privs_1 ++ (lw_privs_2 ++ (lw_privs_3 ++ (lw_privs_4 ++ (lw_privs_5 ++ (lw_privs_6 ++ (lw_privs_7 ++ (lw_privs_8 ++ (lw_privs_9))))))))
def lw_tbl : List Cond := k2_sels lw_privs ++ tables_1
theorem lw_privs_ok : ∀ q ∈ lw_privs, lw_okq q := by
  show ∀ q ∈ lw_privs_1 ++ (lw_privs_2 ++ (lw_privs_3 ++ (lw_privs_4 ++ (lw_privs_5 ++ (lw_privs_6 ++ (lw_privs_7 ++ (lw_privs_8 ++ (lw_privs_9)))))))), lw_okq q
  exact List.forall_mem_append.mpr ⟨lw_r1, List.forall_mem_append.mpr ⟨lw_r2, List.forall_mem_append.mpr ⟨lw_r3, List.forall_mem_append.mpr ⟨lw_r4, List.forall_mem_append.mpr ⟨lw_r5, List.forall_mem_append.mpr ⟨lw_r6, List.forall_mem_append.mpr ⟨lw_r7, List.forall_mem_append.mpr ⟨lw_r8, lw_r9⟩⟩⟩⟩⟩⟩⟩⟩
def RX0 : String := "MiddleBridge$Bell"
def TX0 : u_T := fun k => match k with
  | 0 => ("MiddleBridge$Bell", "found", "[I", true)
  | _ => ("MiddleBridge$Bell", "changesTo", "[I", true)
def tyX0 : Nat → FieldType := fun k => match k with
  | 0 => .array .int
  | _ => .array .int
abbrev wsX00 : List Cond := u_ws RX0 TX0 2
theorem nmX0 : ∀ a, a < 2 → ∀ b, b < 2 → a ≠ b → (TX0 a).2.1 ≠ (TX0 b).2.1 := by decide +kernel
theorem tyX0_ok : ∀ k, k < 2 → parseFieldDescriptor (TX0 k).2.2.1 = some (tyX0 k) := by decide +kernel
abbrev cX0_init : ByteArray := prog_2_method_1_code
def yX0_init : MethodName := ⟨RX0, "<init>", "()V"⟩
abbrev cX0_fewestChanges : ByteArray := prog_2_method_2_code
def yX0_fewestChanges : MethodName := ⟨RX0, "fewestChanges", "(LMiddleBridge$Text;I)I"⟩
abbrev cX0_ringFrom : ByteArray := prog_2_method_3_code
def yX0_ringFrom : MethodName := ⟨RX0, "ringFrom", "(III)I"⟩
abbrev cX0_swapped : ByteArray := prog_2_method_4_code
def yX0_swapped : MethodName := ⟨RX0, "swapped", "(III)I"⟩
abbrev cX0_placeOf : ByteArray := prog_2_method_5_code
def yX0_placeOf : MethodName := ⟨RX0, "placeOf", "(II)I"⟩
def RX1 : String := "MiddleBridge$Law"
def TX1 : u_T := fun k => match k with
  | 0 => ("MiddleBridge$Law", "kinds", "[I", true)
  | 1 => ("MiddleBridge$Law", "amountAt", "[I", true)
  | 2 => ("MiddleBridge$Law", "testAt", "[I", true)
  | 3 => ("MiddleBridge$Law", "endAt", "[I", true)
  | 4 => ("MiddleBridge$Law", "signs", "[I", true)
  | 5 => ("MiddleBridge$Law", "values", "[I", true)
  | 6 => ("MiddleBridge$Law", "heap", "[I", true)
  | 7 => ("MiddleBridge$Law", "size", "I", false)
  | _ => ("MiddleBridge$Law", "steps", "I", false)
def tyX1 : Nat → FieldType := fun k => match k with
  | 0 => .array .int
  | 1 => .array .int
  | 2 => .array .int
  | 3 => .array .int
  | 4 => .array .int
  | 5 => .array .int
  | 6 => .array .int
  | 7 => .int
  | _ => .int
abbrev wsX10 : List Cond := u_ws RX1 TX1 9
theorem nmX1 : ∀ a, a < 9 → ∀ b, b < 9 → a ≠ b → (TX1 a).2.1 ≠ (TX1 b).2.1 := by decide +kernel
theorem tyX1_ok : ∀ k, k < 9 → parseFieldDescriptor (TX1 k).2.2.1 = some (tyX1 k) := by decide +kernel
abbrev cX1_init : ByteArray := prog_3_method_1_code
def yX1_init : MethodName := ⟨RX1, "<init>", "()V"⟩
abbrev cX1_empty : ByteArray := prog_3_method_2_code
def yX1_empty : MethodName := ⟨RX1, "empty", "()V"⟩
abbrev cX1_beginRule : ByteArray := prog_3_method_3_code
def yX1_beginRule : MethodName := ⟨RX1, "beginRule", "(I)V"⟩
abbrev cX1_beginTest : ByteArray := prog_3_method_4_code
def yX1_beginTest : MethodName := ⟨RX1, "beginTest", "()V"⟩
abbrev cX1_endRule : ByteArray := prog_3_method_5_code
def yX1_endRule : MethodName := ⟨RX1, "endRule", "()V"⟩
abbrev cX1_add : ByteArray := prog_3_method_6_code
def yX1_add : MethodName := ⟨RX1, "add", "(II)I"⟩
abbrev cX1_aim : ByteArray := prog_3_method_7_code
def yX1_aim : MethodName := ⟨RX1, "aim", "(I)V"⟩
abbrev cX1_someHolds : ByteArray := prog_3_method_8_code
def yX1_someHolds : MethodName := ⟨RX1, "someHolds", "(I[I)Z"⟩
abbrev cX1_amount : ByteArray := prog_3_method_9_code
def yX1_amount : MethodName := ⟨RX1, "amount", "(II[I)I"⟩
abbrev cX1_reckon : ByteArray := prog_3_method_10_code
def yX1_reckon : MethodName := ⟨RX1, "reckon", "(II[I)I"⟩
abbrev cX1_joined : ByteArray := prog_3_method_11_code
def yX1_joined : MethodName := ⟨RX1, "joined", "(III)I"⟩
def RX2 : String := "MiddleBridge$LawReader"
def TX2 : u_T := fun k => match k with
  | _ => ("MiddleBridge$LawReader", "law", "LMiddleBridge$Law;", false)
def tyX2 : Nat → FieldType := fun k => match k with
  | _ => .object "MiddleBridge$Law"
abbrev wsX20 : List Cond := u_ws RX2 TX2 1
theorem nmX2 : ∀ a, a < 1 → ∀ b, b < 1 → a ≠ b → (TX2 a).2.1 ≠ (TX2 b).2.1 := by decide +kernel
theorem tyX2_ok : ∀ k, k < 1 → parseFieldDescriptor (TX2 k).2.2.1 = some (tyX2 k) := by decide +kernel
abbrev cX2_init : ByteArray := prog_4_method_1_code
def yX2_init : MethodName := ⟨RX2, "<init>", "()V"⟩
abbrev cX2_readAll : ByteArray := prog_4_method_2_code
def yX2_readAll : MethodName := ⟨RX2, "readAll", "(LMiddleBridge$Text;)V"⟩
abbrev cX2_exchange : ByteArray := prog_4_method_3_code
def yX2_exchange : MethodName := ⟨RX2, "exchange", "(LMiddleBridge$Law;)LMiddleBridge$Law;"⟩
abbrev cX2_readRule : ByteArray := prog_4_method_4_code
def yX2_readRule : MethodName := ⟨RX2, "readRule", "(LMiddleBridge$Text;)V"⟩
abbrev cX2_readParts : ByteArray := prog_4_method_5_code
def yX2_readParts : MethodName := ⟨RX2, "readParts", "(LMiddleBridge$Text;I)V"⟩
abbrev cX2_readPart : ByteArray := prog_4_method_6_code
def yX2_readPart : MethodName := ⟨RX2, "readPart", "(LMiddleBridge$Text;I)V"⟩
abbrev cX2_readTest : ByteArray := prog_4_method_7_code
def yX2_readTest : MethodName := ⟨RX2, "readTest", "(LMiddleBridge$Text;I)V"⟩
abbrev cX2_readSum : ByteArray := prog_4_method_8_code
def yX2_readSum : MethodName := ⟨RX2, "readSum", "(LMiddleBridge$Text;I)V"⟩
abbrev cX2_readProduct : ByteArray := prog_4_method_9_code
def yX2_readProduct : MethodName := ⟨RX2, "readProduct", "(LMiddleBridge$Text;I)V"⟩
abbrev cX2_readFactor : ByteArray := prog_4_method_10_code
def yX2_readFactor : MethodName := ⟨RX2, "readFactor", "(LMiddleBridge$Text;I)V"⟩
abbrev cX2_opens : ByteArray := prog_4_method_11_code
def yX2_opens : MethodName := ⟨RX2, "opens", "(LMiddleBridge$Text;I)Z"⟩
def RX3 : String := "MiddleBridge$Letters"
def TX3 : u_T := fun k => match k with
  | _ => ("", "", "", false)
def tyX3 : Nat → FieldType := fun k => match k with
  | _ => .int
abbrev wsX30 : List Cond := u_ws RX3 TX3 0
theorem nmX3 : ∀ a, a < 0 → ∀ b, b < 0 → a ≠ b → (TX3 a).2.1 ≠ (TX3 b).2.1 := by decide +kernel
theorem tyX3_ok : ∀ k, k < 0 → parseFieldDescriptor (TX3 k).2.2.1 = some (tyX3 k) := by decide +kernel
abbrev cX3_placeOf : ByteArray := prog_5_method_2_code
def yX3_placeOf : MethodName := ⟨RX3, "placeOf", "(I)I"⟩
def RX4 : String := "MiddleBridge$OrdersReader"
def TX4 : u_T := fun k => match k with
  | 0 => ("MiddleBridge$OrdersReader", "letters", "[I", true)
  | 1 => ("MiddleBridge$OrdersReader", "deeds", "[I", true)
  | 2 => ("MiddleBridge$OrdersReader", "arches", "[I", true)
  | 3 => ("MiddleBridge$OrdersReader", "numbers", "[I", true)
  | _ => ("MiddleBridge$OrdersReader", "lines", "I", false)
def tyX4 : Nat → FieldType := fun k => match k with
  | 0 => .array .int
  | 1 => .array .int
  | 2 => .array .int
  | 3 => .array .int
  | _ => .int
abbrev wsX40 : List Cond := u_ws RX4 TX4 5
theorem nmX4 : ∀ a, a < 5 → ∀ b, b < 5 → a ≠ b → (TX4 a).2.1 ≠ (TX4 b).2.1 := by decide +kernel
theorem tyX4_ok : ∀ k, k < 5 → parseFieldDescriptor (TX4 k).2.2.1 = some (tyX4 k) := by decide +kernel
abbrev cX4_init : ByteArray := prog_6_method_1_code
def yX4_init : MethodName := ⟨RX4, "<init>", "()V"⟩
abbrev cX4_readAll : ByteArray := prog_6_method_2_code
def yX4_readAll : MethodName := ⟨RX4, "readAll", "(LMiddleBridge$Text;)V"⟩
abbrev cX4_readLine : ByteArray := prog_6_method_3_code
def yX4_readLine : MethodName := ⟨RX4, "readLine", "(LMiddleBridge$Text;)V"⟩
abbrev cX4_readDeed : ByteArray := prog_6_method_4_code
def yX4_readDeed : MethodName := ⟨RX4, "readDeed", "(LMiddleBridge$Text;Z)V"⟩
abbrev cX4_obey : ByteArray := prog_6_method_5_code
def yX4_obey : MethodName := ⟨RX4, "obey", "(LMiddleBridge$State;)V"⟩
def RX5 : String := "MiddleBridge$Plan"
def TX5 : u_T := fun k => match k with
  | 0 => ("MiddleBridge$Plan", "sums", "[I", true)
  | _ => ("MiddleBridge$Plan", "arches", "I", false)
def tyX5 : Nat → FieldType := fun k => match k with
  | 0 => .array .int
  | _ => .int
abbrev wsX50 : List Cond := u_ws RX5 TX5 2
theorem nmX5 : ∀ a, a < 2 → ∀ b, b < 2 → a ≠ b → (TX5 a).2.1 ≠ (TX5 b).2.1 := by decide +kernel
theorem tyX5_ok : ∀ k, k < 2 → parseFieldDescriptor (TX5 k).2.2.1 = some (tyX5 k) := by decide +kernel
abbrev cX5_init : ByteArray := prog_7_method_1_code
def yX5_init : MethodName := ⟨RX5, "<init>", "()V"⟩
abbrev cX5_renew : ByteArray := prog_7_method_2_code
def yX5_renew : MethodName := ⟨RX5, "renew", "([II)V"⟩
abbrev cX5_stonesOf : ByteArray := prog_7_method_3_code
def yX5_stonesOf : MethodName := ⟨RX5, "stonesOf", "(I)I"⟩
abbrev cX5_stonesUpTo : ByteArray := prog_7_method_4_code
def yX5_stonesUpTo : MethodName := ⟨RX5, "stonesUpTo", "(I)I"⟩
abbrev cX5_whole : ByteArray := prog_7_method_5_code
def yX5_whole : MethodName := ⟨RX5, "whole", "()I"⟩
abbrev cX5_standingBy : ByteArray := prog_7_method_6_code
def yX5_standingBy : MethodName := ⟨RX5, "standingBy", "(I)I"⟩
def RX6 : String := "MiddleBridge$PlanReader"
def TX6 : u_T := fun k => match k with
  | 0 => ("MiddleBridge$PlanReader", "stones", "[I", true)
  | _ => ("MiddleBridge$PlanReader", "arches", "I", false)
def tyX6 : Nat → FieldType := fun k => match k with
  | 0 => .array .int
  | _ => .int
abbrev wsX60 : List Cond := u_ws RX6 TX6 2
theorem nmX6 : ∀ a, a < 2 → ∀ b, b < 2 → a ≠ b → (TX6 a).2.1 ≠ (TX6 b).2.1 := by decide +kernel
theorem tyX6_ok : ∀ k, k < 2 → parseFieldDescriptor (TX6 k).2.2.1 = some (tyX6 k) := by decide +kernel
abbrev cX6_init : ByteArray := prog_8_method_1_code
def yX6_init : MethodName := ⟨RX6, "<init>", "()V"⟩
abbrev cX6_readAll : ByteArray := prog_8_method_2_code
def yX6_readAll : MethodName := ⟨RX6, "readAll", "(LMiddleBridge$Text;)V"⟩
abbrev cX6_readItems : ByteArray := prog_8_method_3_code
def yX6_readItems : MethodName := ⟨RX6, "readItems", "(LMiddleBridge$Text;I)V"⟩
abbrev cX6_readItem : ByteArray := prog_8_method_4_code
def yX6_readItem : MethodName := ⟨RX6, "readItem", "(LMiddleBridge$Text;I)V"⟩
abbrev cX6_readTimes : ByteArray := prog_8_method_5_code
def yX6_readTimes : MethodName := ⟨RX6, "readTimes", "(LMiddleBridge$Text;)I"⟩
abbrev cX6_readGroup : ByteArray := prog_8_method_6_code
def yX6_readGroup : MethodName := ⟨RX6, "readGroup", "(LMiddleBridge$Text;I)V"⟩
abbrev cX6_repeat : ByteArray := prog_8_method_7_code
def yX6_repeat : MethodName := ⟨RX6, "repeat", "(II)V"⟩
abbrev cX6_addArch : ByteArray := prog_8_method_8_code
def yX6_addArch : MethodName := ⟨RX6, "addArch", "(I)V"⟩
def RX7 : String := "MiddleBridge$Puzzles"
def TX7 : u_T := fun k => match k with
  | 0 => ("MiddleBridge$Puzzles", "ways", "[I", true)
  | 1 => ("MiddleBridge$Puzzles", "pilesTo", "[I", true)
  | 2 => ("MiddleBridge$Puzzles", "minutes", "[I", true)
  | 3 => ("MiddleBridge$Puzzles", "asked", "[I", true)
  | _ => ("MiddleBridge$Puzzles", "husbands", "[I", true)
def tyX7 : Nat → FieldType := fun k => match k with
  | 0 => .array .int
  | 1 => .array .int
  | 2 => .array .int
  | 3 => .array .int
  | _ => .array .int
abbrev wsX70 : List Cond := u_ws RX7 TX7 5
theorem nmX7 : ∀ a, a < 5 → ∀ b, b < 5 → a ≠ b → (TX7 a).2.1 ≠ (TX7 b).2.1 := by decide +kernel
theorem tyX7_ok : ∀ k, k < 5 → parseFieldDescriptor (TX7 k).2.2.1 = some (tyX7 k) := by decide +kernel
abbrev cX7_init : ByteArray := prog_9_method_1_code
def yX7_init : MethodName := ⟨RX7, "<init>", "()V"⟩
abbrev cX7_evenest : ByteArray := prog_9_method_2_code
def yX7_evenest : MethodName := ⟨RX7, "evenest", "(LMiddleBridge$Text;IIIII)I"⟩
abbrev cX7_ordersOfBuilding : ByteArray := prog_9_method_3_code
def yX7_ordersOfBuilding : MethodName := ⟨RX7, "ordersOfBuilding", "(LMiddleBridge$Works;)I"⟩
abbrev cX7_fliesOver : ByteArray := prog_9_method_4_code
def yX7_fliesOver : MethodName := ⟨RX7, "fliesOver", "(IIIII)Z"⟩
abbrev cX7_lastPile : ByteArray := prog_9_method_5_code
def yX7_lastPile : MethodName := ⟨RX7, "lastPile", "(LMiddleBridge$Text;II)I"⟩
abbrev cX7_pilesUpTo : ByteArray := prog_9_method_6_code
def yX7_pilesUpTo : MethodName := ⟨RX7, "pilesUpTo", "(I)I"⟩
abbrev cX7_pilesWithLast : ByteArray := prog_9_method_7_code
def yX7_pilesWithLast : MethodName := ⟨RX7, "pilesWithLast", "(LMiddleBridge$Text;II)I"⟩
abbrev cX7_fewestLamps : ByteArray := prog_9_method_8_code
def yX7_fewestLamps : MethodName := ⟨RX7, "fewestLamps", "(LMiddleBridge$Text;II)I"⟩
abbrev cX7_litBy : ByteArray := prog_9_method_9_code
def yX7_litBy : MethodName := ⟨RX7, "litBy", "(LMiddleBridge$Text;III)I"⟩
abbrev cX7_claimed : ByteArray := prog_9_method_10_code
def yX7_claimed : MethodName := ⟨RX7, "claimed", "(LMiddleBridge$Text;II)I"⟩
abbrev cX7_claimsOf : ByteArray := prog_9_method_11_code
def yX7_claimsOf : MethodName := ⟨RX7, "claimsOf", "(LMiddleBridge$Text;III)I"⟩
abbrev cX7_leastMinutes : ByteArray := prog_9_method_12_code
def yX7_leastMinutes : MethodName := ⟨RX7, "leastMinutes", "(LMiddleBridge$Text;I)I"⟩
abbrev cX7_sortMinutes : ByteArray := prog_9_method_13_code
def yX7_sortMinutes : MethodName := ⟨RX7, "sortMinutes", "(LMiddleBridge$Text;I)V"⟩
abbrev cX7_weds : ByteArray := prog_9_method_14_code
def yX7_weds : MethodName := ⟨RX7, "weds", "(LMiddleBridge$Text;II)I"⟩
abbrev cX7_firstSingle : ByteArray := prog_9_method_15_code
def yX7_firstSingle : MethodName := ⟨RX7, "firstSingle", "(I)I"⟩
abbrev cX7_likes : ByteArray := prog_9_method_16_code
def yX7_likes : MethodName := ⟨RX7, "likes", "(LMiddleBridge$Text;IIII)Z"⟩
abbrev cX7_mixtures : ByteArray := prog_9_method_17_code
def yX7_mixtures : MethodName := ⟨RX7, "mixtures", "(II)I"⟩
abbrev cX7_leastMixture : ByteArray := prog_9_method_18_code
def yX7_leastMixture : MethodName := ⟨RX7, "leastMixture", "(II)I"⟩
abbrev cX7_longestRun : ByteArray := prog_9_method_19_code
def yX7_longestRun : MethodName := ⟨RX7, "longestRun", "(II)I"⟩
abbrev cX7_yearsTillPaid : ByteArray := prog_9_method_20_code
def yX7_yearsTillPaid : MethodName := ⟨RX7, "yearsTillPaid", "(III)I"⟩
def RX8 : String := "MiddleBridge$State"
def TX8 : u_T := fun k => match k with
  | 0 => ("MiddleBridge$State", "laidLeft", "I", false)
  | 1 => ("MiddleBridge$State", "laidRight", "I", false)
  | 2 => ("MiddleBridge$State", "benches", "[I", true)
  | 3 => ("MiddleBridge$State", "store", "I", false)
  | 4 => ("MiddleBridge$State", "debt", "I", false)
  | 5 => ("MiddleBridge$State", "day", "I", false)
  | 6 => ("MiddleBridge$State", "fallen", "I", false)
  | _ => ("MiddleBridge$State", "drawn", "I", false)
def tyX8 : Nat → FieldType := fun k => match k with
  | 0 => .int
  | 1 => .int
  | 2 => .array .int
  | 3 => .int
  | 4 => .int
  | 5 => .int
  | 6 => .int
  | _ => .int
abbrev wsX80 : List Cond := u_ws RX8 TX8 8
theorem nmX8 : ∀ a, a < 8 → ∀ b, b < 8 → a ≠ b → (TX8 a).2.1 ≠ (TX8 b).2.1 := by decide +kernel
theorem tyX8_ok : ∀ k, k < 8 → parseFieldDescriptor (TX8 k).2.2.1 = some (tyX8 k) := by decide +kernel
abbrev cX8_init : ByteArray := prog_10_method_1_code
def yX8_init : MethodName := ⟨RX8, "<init>", "()V"⟩
abbrev cX8_copy : ByteArray := prog_10_method_2_code
def yX8_copy : MethodName := ⟨RX8, "copy", "(LMiddleBridge$State;)V"⟩
abbrev cX8_laidOn : ByteArray := prog_10_method_3_code
def yX8_laidOn : MethodName := ⟨RX8, "laidOn", "(I)I"⟩
abbrev cX8_setLaid : ByteArray := prog_10_method_4_code
def yX8_setLaid : MethodName := ⟨RX8, "setLaid", "(II)V"⟩
abbrev cX8_lay : ByteArray := prog_10_method_5_code
def yX8_lay : MethodName := ⟨RX8, "lay", "(II)V"⟩
abbrev cX8_benchAt : ByteArray := prog_10_method_6_code
def yX8_benchAt : MethodName := ⟨RX8, "benchAt", "(II)I"⟩
abbrev cX8_putBench : ByteArray := prog_10_method_7_code
def yX8_putBench : MethodName := ⟨RX8, "putBench", "(III)V"⟩
abbrev cX8_addStore : ByteArray := prog_10_method_8_code
def yX8_addStore : MethodName := ⟨RX8, "addStore", "(I)V"⟩
abbrev cX8_addDebt : ByteArray := prog_10_method_9_code
def yX8_addDebt : MethodName := ⟨RX8, "addDebt", "(I)V"⟩
abbrev cX8_nextDraw : ByteArray := prog_10_method_10_code
def yX8_nextDraw : MethodName := ⟨RX8, "nextDraw", "()I"⟩
abbrev cX8_bounded : ByteArray := prog_10_method_11_code
def yX8_bounded : MethodName := ⟨RX8, "bounded", "(II)I"⟩
def RX9 : String := "MiddleBridge$Text"
def TX9 : u_T := fun k => match k with
  | 0 => ("MiddleBridge$Text", "bytes", "[I", true)
  | 1 => ("MiddleBridge$Text", "length", "I", false)
  | 2 => ("MiddleBridge$Text", "place", "I", false)
  | _ => ("MiddleBridge$Text", "fault", "I", false)
def tyX9 : Nat → FieldType := fun k => match k with
  | 0 => .array .int
  | 1 => .int
  | 2 => .int
  | _ => .int
abbrev wsX90 : List Cond := u_ws RX9 TX9 4
theorem nmX9 : ∀ a, a < 4 → ∀ b, b < 4 → a ≠ b → (TX9 a).2.1 ≠ (TX9 b).2.1 := by decide +kernel
theorem tyX9_ok : ∀ k, k < 4 → parseFieldDescriptor (TX9 k).2.2.1 = some (tyX9 k) := by decide +kernel
abbrev cX9_init : ByteArray := prog_11_method_1_code
def yX9_init : MethodName := ⟨RX9, "<init>", "()V"⟩
abbrev cX9_begin : ByteArray := prog_11_method_2_code
def yX9_begin : MethodName := ⟨RX9, "begin", "([II)V"⟩
abbrev cX9_at : ByteArray := prog_11_method_3_code
def yX9_at : MethodName := ⟨RX9, "at", "(I)I"⟩
abbrev cX9_sign : ByteArray := prog_11_method_4_code
def yX9_sign : MethodName := ⟨RX9, "sign", "()I"⟩
abbrev cX9_sound : ByteArray := prog_11_method_5_code
def yX9_sound : MethodName := ⟨RX9, "sound", "()Z"⟩
abbrev cX9_digit : ByteArray := prog_11_method_6_code
def yX9_digit : MethodName := ⟨RX9, "digit", "()Z"⟩
abbrev cX9_refuse : ByteArray := prog_11_method_7_code
def yX9_refuse : MethodName := ⟨RX9, "refuse", "(II)V"⟩
abbrev cX9_pass : ByteArray := prog_11_method_8_code
def yX9_pass : MethodName := ⟨RX9, "pass", "(I)V"⟩
abbrev cX9_either : ByteArray := prog_11_method_9_code
def yX9_either : MethodName := ⟨RX9, "either", "(III)I"⟩
abbrev cX9_goesOn : ByteArray := prog_11_method_10_code
def yX9_goesOn : MethodName := ⟨RX9, "goesOn", "(I)Z"⟩
abbrev cX9_mustEnd : ByteArray := prog_11_method_11_code
def yX9_mustEnd : MethodName := ⟨RX9, "mustEnd", "()V"⟩
abbrev cX9_readNumber : ByteArray := prog_11_method_12_code
def yX9_readNumber : MethodName := ⟨RX9, "readNumber", "(I)I"⟩
abbrev cX9_readBounded : ByteArray := prog_11_method_13_code
def yX9_readBounded : MethodName := ⟨RX9, "readBounded", "(III)I"⟩
abbrev cX9_tellsEachOnce : ByteArray := prog_11_method_14_code
def yX9_tellsEachOnce : MethodName := ⟨RX9, "tellsEachOnce", "(II)Z"⟩
def RX10 : String := "MiddleBridge$Works"
def TX10 : u_T := fun k => match k with
  | 0 => ("MiddleBridge$Works", "left", "LMiddleBridge$Plan;", true)
  | 1 => ("MiddleBridge$Works", "right", "LMiddleBridge$Plan;", true)
  | 2 => ("MiddleBridge$Works", "now", "LMiddleBridge$State;", true)
  | 3 => ("MiddleBridge$Works", "letters", "[I", true)
  | 4 => ("MiddleBridge$Works", "rules", "LMiddleBridge$Law;", false)
  | _ => ("MiddleBridge$Works", "most", "I", false)
def tyX10 : Nat → FieldType := fun k => match k with
  | 0 => .object "MiddleBridge$Plan"
  | 1 => .object "MiddleBridge$Plan"
  | 2 => .object "MiddleBridge$State"
  | 3 => .array .int
  | 4 => .object "MiddleBridge$Law"
  | _ => .int
abbrev wsX100 : List Cond := u_ws RX10 TX10 6
theorem nmX10 : ∀ a, a < 6 → ∀ b, b < 6 → a ≠ b → (TX10 a).2.1 ≠ (TX10 b).2.1 := by decide +kernel
theorem tyX10_ok : ∀ k, k < 6 → parseFieldDescriptor (TX10 k).2.2.1 = some (tyX10 k) := by decide +kernel
abbrev cX10_init : ByteArray := prog_12_method_1_code
def yX10_init : MethodName := ⟨RX10, "<init>", "()V"⟩
abbrev cX10_built : ByteArray := prog_12_method_2_code
def yX10_built : MethodName := ⟨RX10, "built", "(I)LMiddleBridge$Plan;"⟩
abbrev cX10_standing : ByteArray := prog_12_method_3_code
def yX10_standing : MethodName := ⟨RX10, "standing", "(I)I"⟩
abbrev cX10_toBuild : ByteArray := prog_12_method_4_code
def yX10_toBuild : MethodName := ⟨RX10, "toBuild", "(I)I"⟩
abbrev cX10_reached : ByteArray := prog_12_method_5_code
def yX10_reached : MethodName := ⟨RX10, "reached", "(I)Z"⟩
abbrev cX10_lacking : ByteArray := prog_12_method_6_code
def yX10_lacking : MethodName := ⟨RX10, "lacking", "(I)I"⟩
abbrev cX10_weight : ByteArray := prog_12_method_7_code
def yX10_weight : MethodName := ⟨RX10, "weight", "(I)I"⟩
abbrev cX10_passDays : ByteArray := prog_12_method_8_code
def yX10_passDays : MethodName := ⟨RX10, "passDays", "(I)I"⟩
abbrev cX10_passDay : ByteArray := prog_12_method_9_code
def yX10_passDay : MethodName := ⟨RX10, "passDay", "()I"⟩
abbrev cX10_deliver : ByteArray := prog_12_method_10_code
def yX10_deliver : MethodName := ⟨RX10, "deliver", "()V"⟩
abbrev cX10_work : ByteArray := prog_12_method_11_code
def yX10_work : MethodName := ⟨RX10, "work", "(I)I"⟩
abbrev cX10_mayBeLaid : ByteArray := prog_12_method_12_code
def yX10_mayBeLaid : MethodName := ⟨RX10, "mayBeLaid", "(I)I"⟩
abbrev cX10_fall : ByteArray := prog_12_method_13_code
def yX10_fall : MethodName := ⟨RX10, "fall", "()V"⟩
abbrev cX10_tellAll : ByteArray := prog_12_method_14_code
def yX10_tellAll : MethodName := ⟨RX10, "tellAll", "(I)V"⟩
abbrev cX10_tellSide : ByteArray := prog_12_method_15_code
def yX10_tellSide : MethodName := ⟨RX10, "tellSide", "(I)V"⟩
abbrev cX10_daysTillBank : ByteArray := prog_12_method_16_code
def yX10_daysTillBank : MethodName := ⟨RX10, "daysTillBank", "(I)I"⟩
abbrev cX10_sideAtBank : ByteArray := prog_12_method_17_code
def yX10_sideAtBank : MethodName := ⟨RX10, "sideAtBank", "()I"⟩
abbrev cX10_mostAhead : ByteArray := prog_12_method_18_code
def yX10_mostAhead : MethodName := ⟨RX10, "mostAhead", "(I)I"⟩
abbrev cX10_daysTillDebt : ByteArray := prog_12_method_19_code
def yX10_daysTillDebt : MethodName := ⟨RX10, "daysTillDebt", "(II)I"⟩
def RX11 : String := "MiddleBridge"
def TX11 : u_T := fun k => match k with
  | 0 => ("MiddleBridge", "tape", "[I", true)
  | 1 => ("MiddleBridge", "tapeLength", "I", false)
  | 2 => ("MiddleBridge", "text", "LMiddleBridge$Text;", true)
  | 3 => ("MiddleBridge", "planReader", "LMiddleBridge$PlanReader;", true)
  | 4 => ("MiddleBridge", "ordersReader", "LMiddleBridge$OrdersReader;", true)
  | 5 => ("MiddleBridge", "lawReader", "LMiddleBridge$LawReader;", true)
  | 6 => ("MiddleBridge", "works", "LMiddleBridge$Works;", true)
  | 7 => ("MiddleBridge", "kept", "LMiddleBridge$State;", true)
  | 8 => ("MiddleBridge", "saved", "LMiddleBridge$State;", true)
  | 9 => ("MiddleBridge", "bell", "LMiddleBridge$Bell;", true)
  | 10 => ("MiddleBridge", "puzzles", "LMiddleBridge$Puzzles;", true)
  | _ => ("MiddleBridge", "wasKept", "Z", false)
def tyX11 : Nat → FieldType := fun k => match k with
  | 0 => .array .int
  | 1 => .int
  | 2 => .object "MiddleBridge$Text"
  | 3 => .object "MiddleBridge$PlanReader"
  | 4 => .object "MiddleBridge$OrdersReader"
  | 5 => .object "MiddleBridge$LawReader"
  | 6 => .object "MiddleBridge$Works"
  | 7 => .object "MiddleBridge$State"
  | 8 => .object "MiddleBridge$State"
  | 9 => .object "MiddleBridge$Bell"
  | 10 => .object "MiddleBridge$Puzzles"
  | _ => .boolean
abbrev wsX110 : List Cond := u_ws RX11 TX11 12
theorem nmX11 : ∀ a, a < 12 → ∀ b, b < 12 → a ≠ b → (TX11 a).2.1 ≠ (TX11 b).2.1 := by decide +kernel
theorem tyX11_ok : ∀ k, k < 12 → parseFieldDescriptor (TX11 k).2.2.1 = some (tyX11 k) := by decide +kernel
abbrev cX11_init : ByteArray := prog_1_method_1_code
def yX11_init : MethodName := ⟨RX11, "<init>", "()V"⟩
abbrev cX11_tilt : ByteArray := prog_1_method_2_code
def yX11_tilt : MethodName := ⟨RX11, "tilt", "(I)Z"⟩
abbrev cX11_feed : ByteArray := prog_1_method_3_code
def yX11_feed : MethodName := ⟨RX11, "feed", "(IIIII)I"⟩
abbrev cX11_law : ByteArray := prog_1_method_4_code
def yX11_law : MethodName := ⟨RX11, "law", "(I)I"⟩
abbrev cX11_plan : ByteArray := prog_1_method_5_code
def yX11_plan : MethodName := ⟨RX11, "plan", "(II)I"⟩
abbrev cX11_orders : ByteArray := prog_1_method_6_code
def yX11_orders : MethodName := ⟨RX11, "orders", "(I)I"⟩
abbrev cX11_days : ByteArray := prog_1_method_7_code
def yX11_days : MethodName := ⟨RX11, "days", "(I)I"⟩
abbrev cX11_tried : ByteArray := prog_1_method_8_code
def yX11_tried : MethodName := ⟨RX11, "tried", "(II)I"⟩
abbrev cX11_sideIs : ByteArray := prog_1_method_9_code
def yX11_sideIs : MethodName := ⟨RX11, "sideIs", "(II)I"⟩
abbrev cX11_archIs : ByteArray := prog_1_method_10_code
def yX11_archIs : MethodName := ⟨RX11, "archIs", "(III)I"⟩
abbrev cX11_touches : ByteArray := prog_1_method_11_code
def yX11_touches : MethodName := ⟨RX11, "touches", "(II)I"⟩
abbrev cX11_ahead : ByteArray := prog_1_method_12_code
def yX11_ahead : MethodName := ⟨RX11, "ahead", "(I)I"⟩
abbrev cX11_beyond : ByteArray := prog_1_method_13_code
def yX11_beyond : MethodName := ⟨RX11, "beyond", "(II)I"⟩
abbrev cX11_even : ByteArray := prog_1_method_14_code
def yX11_even : MethodName := ⟨RX11, "even", "(II)I"⟩
abbrev cX11_inARow : ByteArray := prog_1_method_15_code
def yX11_inARow : MethodName := ⟨RX11, "inARow", "()I"⟩
abbrev cX11_ball : ByteArray := prog_1_method_16_code
def yX11_ball : MethodName := ⟨RX11, "ball", "(IIIII)I"⟩
abbrev cX11_leastSpeed : ByteArray := prog_1_method_17_code
def yX11_leastSpeed : MethodName := ⟨RX11, "leastSpeed", "(IIII)I"⟩
abbrev cX11_piles : ByteArray := prog_1_method_18_code
def yX11_piles : MethodName := ⟨RX11, "piles", "(III)I"⟩
abbrev cX11_lamps : ByteArray := prog_1_method_19_code
def yX11_lamps : MethodName := ⟨RX11, "lamps", "(III)I"⟩
abbrev cX11_claims : ByteArray := prog_1_method_20_code
def yX11_claims : MethodName := ⟨RX11, "claims", "(II)I"⟩
abbrev cX11_rowed : ByteArray := prog_1_method_21_code
def yX11_rowed : MethodName := ⟨RX11, "rowed", "(I)I"⟩
abbrev cX11_wed : ByteArray := prog_1_method_22_code
def yX11_wed : MethodName := ⟨RX11, "wed", "(II)I"⟩
abbrev cX11_changes : ByteArray := prog_1_method_23_code
def yX11_changes : MethodName := ⟨RX11, "changes", "(I)I"⟩
abbrev cX11_dialect : ByteArray := prog_1_method_24_code
def yX11_dialect : MethodName := ⟨RX11, "dialect", "(III)I"⟩
abbrev cX11_owed : ByteArray := prog_1_method_25_code
def yX11_owed : MethodName := ⟨RX11, "owed", "(II)I"⟩
abbrev cX11_seed : ByteArray := prog_1_method_26_code
def yX11_seed : MethodName := ⟨RX11, "seed", "(I)Z"⟩
abbrev cX11_keep : ByteArray := prog_1_method_27_code
def yX11_keep : MethodName := ⟨RX11, "keep", "()I"⟩
abbrev cX11_undo : ByteArray := prog_1_method_28_code
def yX11_undo : MethodName := ⟨RX11, "undo", "()Z"⟩
abbrev cX11_check : ByteArray := prog_1_method_29_code
def yX11_check : MethodName := ⟨RX11, "check", "()I"⟩
abbrev cX11_count : ByteArray := prog_1_method_30_code
def yX11_count : MethodName := ⟨RX11, "count", "(I)I"⟩
abbrev cX11_triedIs : ByteArray := prog_1_method_31_code
def yX11_triedIs : MethodName := ⟨RX11, "triedIs", "(II)I"⟩
abbrev cX11_checkedIs : ByteArray := prog_1_method_32_code
def yX11_checkedIs : MethodName := ⟨RX11, "checkedIs", "(I)I"⟩
abbrev cX11_addBytes : ByteArray := prog_1_method_33_code
def yX11_addBytes : MethodName := ⟨RX11, "addBytes", "(I)V"⟩
abbrev cX11_take : ByteArray := prog_1_method_34_code
def yX11_take : MethodName := ⟨RX11, "take", "(II)Z"⟩
abbrev cX11_throwable : ByteArray := prog_1_method_35_code
def yX11_throwable : MethodName := ⟨RX11, "throwable", "(IIII)Z"⟩
abbrev cX11_within : ByteArray := prog_1_method_36_code
def yX11_within : MethodName := ⟨RX11, "within", "(III)Z"⟩
abbrev cX11_get : ByteArray := prog_1_method_37_code
def yX11_get : MethodName := ⟨RX11, "get", "([II)I"⟩
abbrev cX11_put : ByteArray := prog_1_method_38_code
def yX11_put : MethodName := ⟨RX11, "put", "([III)V"⟩
def RX12 : String := "MiddleBridgeModel"
def TX12 : u_T := fun k => match k with
  | 0 => ("MiddleBridgeModel", "now", "[I", true)
  | 1 => ("MiddleBridgeModel", "aside", "[I", true)
  | 2 => ("MiddleBridgeModel", "kept", "[I", true)
  | 3 => ("MiddleBridgeModel", "archMany", "[I", true)
  | 4 => ("MiddleBridgeModel", "stonesOf", "[I", true)
  | 5 => ("MiddleBridgeModel", "tiltMost", "I", false)
  | 6 => ("MiddleBridgeModel", "tape", "[B", true)
  | 7 => ("MiddleBridgeModel", "taped", "I", false)
  | 8 => ("MiddleBridgeModel", "place0", "I", false)
  | 9 => ("MiddleBridgeModel", "length0", "I", false)
  | 10 => ("MiddleBridgeModel", "fault", "I", false)
  | 11 => ("MiddleBridgeModel", "number0", "I", false)
  | 12 => ("MiddleBridgeModel", "open", "I", false)
  | 13 => ("MiddleBridgeModel", "codeMany", "I", false)
  | 14 => ("MiddleBridgeModel", "waiting", "I", false)
  | 15 => ("MiddleBridgeModel", "saidMany", "I", false)
  | 16 => ("MiddleBridgeModel", "clauses", "I", false)
  | 17 => ("MiddleBridgeModel", "said", "[I", true)
  | 18 => ("MiddleBridgeModel", "waitsAt", "[I", true)
  | 19 => ("MiddleBridgeModel", "saidLetter", "[I", true)
  | 20 => ("MiddleBridgeModel", "saidFrom", "[I", true)
  | 21 => ("MiddleBridgeModel", "saidHalf", "[I", true)
  | 22 => ("MiddleBridgeModel", "saidTo", "[I", true)
  | 23 => ("MiddleBridgeModel", "codes", "[I", true)
  | 24 => ("MiddleBridgeModel", "clauseOf", "[I", true)
  | 25 => ("MiddleBridgeModel", "codeFrom", "[I", true)
  | 26 => ("MiddleBridgeModel", "codeHalf", "[I", true)
  | 27 => ("MiddleBridgeModel", "codeTo", "[I", true)
  | 28 => ("MiddleBridgeModel", "stack", "[I", true)
  | 29 => ("MiddleBridgeModel", "facts", "[I", true)
  | 30 => ("MiddleBridgeModel", "newStones", "[I", true)
  | 31 => ("MiddleBridgeModel", "roundFrom", "[I", true)
  | 32 => ("MiddleBridgeModel", "roundAt", "[I", true)
  | 33 => ("MiddleBridgeModel", "roundTimes", "[I", true)
  | 34 => ("MiddleBridgeModel", "newMany", "I", false)
  | 35 => ("MiddleBridgeModel", "rounds", "I", false)
  | 36 => ("MiddleBridgeModel", "itemFrom", "I", false)
  | 37 => ("MiddleBridgeModel", "itemTimes", "I", false)
  | 38 => ("MiddleBridgeModel", "lines", "I", false)
  | 39 => ("MiddleBridgeModel", "laidNow", "I", false)
  | 40 => ("MiddleBridgeModel", "fellNow", "I", false)
  | 41 => ("MiddleBridgeModel", "rowsFrom", "[I", true)
  | 42 => ("MiddleBridgeModel", "fewestTo", "[I", true)
  | 43 => ("MiddleBridgeModel", "sortedNow", "[I", true)
  | 44 => ("MiddleBridgeModel", "wedTo", "[I", true)
  | 45 => ("MiddleBridgeModel", "asked", "[I", true)
  | 46 => ("MiddleBridgeModel", "farTo", "[I", true)
  | 47 => ("MiddleBridgeModel", "queue", "[I", true)
  | 48 => ("MiddleBridgeModel", "rowNow", "[I", true)
  | 49 => ("MiddleBridgeModel", "power", "[I", true)
  | _ => ("MiddleBridgeModel", "isKept", "Z", false)
def tyX12 : Nat → FieldType := fun k => match k with
  | 0 => .array .int
  | 1 => .array .int
  | 2 => .array .int
  | 3 => .array .int
  | 4 => .array .int
  | 5 => .int
  | 6 => .array .byte
  | 7 => .int
  | 8 => .int
  | 9 => .int
  | 10 => .int
  | 11 => .int
  | 12 => .int
  | 13 => .int
  | 14 => .int
  | 15 => .int
  | 16 => .int
  | 17 => .array .int
  | 18 => .array .int
  | 19 => .array .int
  | 20 => .array .int
  | 21 => .array .int
  | 22 => .array .int
  | 23 => .array .int
  | 24 => .array .int
  | 25 => .array .int
  | 26 => .array .int
  | 27 => .array .int
  | 28 => .array .int
  | 29 => .array .int
  | 30 => .array .int
  | 31 => .array .int
  | 32 => .array .int
  | 33 => .array .int
  | 34 => .int
  | 35 => .int
  | 36 => .int
  | 37 => .int
  | 38 => .int
  | 39 => .int
  | 40 => .int
  | 41 => .array .int
  | 42 => .array .int
  | 43 => .array .int
  | 44 => .array .int
  | 45 => .array .int
  | 46 => .array .int
  | 47 => .array .int
  | 48 => .array .int
  | 49 => .array .int
  | _ => .boolean
abbrev wsX120 : List Cond := u_ws RX12 TX12 51
theorem nmX12 : ∀ a, a < 51 → ∀ b, b < 51 → a ≠ b → (TX12 a).2.1 ≠ (TX12 b).2.1 := by decide +kernel
theorem tyX12_ok : ∀ k, k < 51 → parseFieldDescriptor (TX12 k).2.2.1 = some (tyX12 k) := by decide +kernel
abbrev cX12_init : ByteArray := prog_14_method_1_code
def yX12_init : MethodName := ⟨RX12, "<init>", "()V"⟩
abbrev cX12_in : ByteArray := prog_14_method_2_code
def yX12_in : MethodName := ⟨RX12, "in", "(III)Z"⟩
abbrev cX12_min : ByteArray := prog_14_method_3_code
def yX12_min : MethodName := ⟨RX12, "min", "(II)I"⟩
abbrev cX12_max : ByteArray := prog_14_method_4_code
def yX12_max : MethodName := ⟨RX12, "max", "(II)I"⟩
abbrev cX12_size : ByteArray := prog_14_method_5_code
def yX12_size : MethodName := ⟨RX12, "size", "(I)I"⟩
abbrev cX12_has : ByteArray := prog_14_method_6_code
def yX12_has : MethodName := ⟨RX12, "has", "(II)Z"⟩
abbrev cX12_bits : ByteArray := prog_14_method_7_code
def yX12_bits : MethodName := ⟨RX12, "bits", "(I)I"⟩
abbrev cX12_copies : ByteArray := prog_14_method_8_code
def yX12_copies : MethodName := ⟨RX12, "copies", "([I[I)V"⟩
abbrev cX12_isSide : ByteArray := prog_14_method_9_code
def yX12_isSide : MethodName := ⟨RX12, "isSide", "(I)Z"⟩
abbrev cX12_stonesTo : ByteArray := prog_14_method_10_code
def yX12_stonesTo : MethodName := ⟨RX12, "stonesTo", "(II)I"⟩
abbrev cX12_whole : ByteArray := prog_14_method_11_code
def yX12_whole : MethodName := ⟨RX12, "whole", "(I)I"⟩
abbrev cX12_standing : ByteArray := prog_14_method_12_code
def yX12_standing : MethodName := ⟨RX12, "standing", "(I)I"⟩
abbrev cX12_leftToBuild : ByteArray := prog_14_method_13_code
def yX12_leftToBuild : MethodName := ⟨RX12, "leftToBuild", "(I)I"⟩
abbrev cX12_nextNeeds : ByteArray := prog_14_method_14_code
def yX12_nextNeeds : MethodName := ⟨RX12, "nextNeeds", "(I)I"⟩
abbrev cX12_touchesNow : ByteArray := prog_14_method_15_code
def yX12_touchesNow : MethodName := ⟨RX12, "touchesNow", "(I)Z"⟩
abbrev cX12_weightOf : ByteArray := prog_14_method_16_code
def yX12_weightOf : MethodName := ⟨RX12, "weightOf", "(I)I"⟩
abbrev cX12_tilt : ByteArray := prog_14_method_17_code
def yX12_tilt : MethodName := ⟨RX12, "tilt", "(I)Z"⟩
abbrev cX12_types : ByteArray := prog_14_method_18_code
def yX12_types : MethodName := ⟨RX12, "types", "(I)V"⟩
abbrev cX12_feed : ByteArray := prog_14_method_19_code
def yX12_feed : MethodName := ⟨RX12, "feed", "(IIIII)I"⟩
abbrev cX12_octet : ByteArray := prog_14_method_20_code
def yX12_octet : MethodName := ⟨RX12, "octet", "(I)I"⟩
abbrev cX12_here : ByteArray := prog_14_method_21_code
def yX12_here : MethodName := ⟨RX12, "here", "()I"⟩
abbrev cX12_isDigit : ByteArray := prog_14_method_22_code
def yX12_isDigit : MethodName := ⟨RX12, "isDigit", "()Z"⟩
abbrev cX12_wrongAt : ByteArray := prog_14_method_23_code
def yX12_wrongAt : MethodName := ⟨RX12, "wrongAt", "(II)Z"⟩
abbrev cX12_takes : ByteArray := prog_14_method_24_code
def yX12_takes : MethodName := ⟨RX12, "takes", "(I)Z"⟩
abbrev cX12_readsNumber : ByteArray := prog_14_method_25_code
def yX12_readsNumber : MethodName := ⟨RX12, "readsNumber", "()Z"⟩
abbrev cX12_notes : ByteArray := prog_14_method_26_code
def yX12_notes : MethodName := ⟨RX12, "notes", "(II)V"⟩
abbrev cX12_opens : ByteArray := prog_14_method_27_code
def yX12_opens : MethodName := ⟨RX12, "opens", "(I)Z"⟩
abbrev cX12_waitTop : ByteArray := prog_14_method_28_code
def yX12_waitTop : MethodName := ⟨RX12, "waitTop", "()I"⟩
abbrev cX12_factOf : ByteArray := prog_14_method_29_code
def yX12_factOf : MethodName := ⟨RX12, "factOf", "(I)I"⟩
abbrev cX12_sumSign : ByteArray := prog_14_method_30_code
def yX12_sumSign : MethodName := ⟨RX12, "sumSign", "(I)I"⟩
abbrev cX12_closesSums : ByteArray := prog_14_method_31_code
def yX12_closesSums : MethodName := ⟨RX12, "closesSums", "(Z)V"⟩
abbrev cX12_readsFactor : ByteArray := prog_14_method_32_code
def yX12_readsFactor : MethodName := ⟨RX12, "readsFactor", "()Z"⟩
abbrev cX12_hasOpenSum : ByteArray := prog_14_method_33_code
def yX12_hasOpenSum : MethodName := ⟨RX12, "hasOpenSum", "(I)Z"⟩
abbrev cX12_readsSum : ByteArray := prog_14_method_34_code
def yX12_readsSum : MethodName := ⟨RX12, "readsSum", "()Z"⟩
abbrev cX12_endsPiece : ByteArray := prog_14_method_35_code
def yX12_endsPiece : MethodName := ⟨RX12, "endsPiece", "()V"⟩
abbrev cX12_lands : ByteArray := prog_14_method_36_code
def yX12_lands : MethodName := ⟨RX12, "lands", "(Z)V"⟩
abbrev cX12_jumps : ByteArray := prog_14_method_37_code
def yX12_jumps : MethodName := ⟨RX12, "jumps", "(I)V"⟩
abbrev cX12_readsCompared : ByteArray := prog_14_method_38_code
def yX12_readsCompared : MethodName := ⟨RX12, "readsCompared", "()Z"⟩
abbrev cX12_readsCondition : ByteArray := prog_14_method_39_code
def yX12_readsCondition : MethodName := ⟨RX12, "readsCondition", "()Z"⟩
abbrev cX12_readsRule : ByteArray := prog_14_method_40_code
def yX12_readsRule : MethodName := ⟨RX12, "readsRule", "()Z"⟩
abbrev cX12_beginsText : ByteArray := prog_14_method_41_code
def yX12_beginsText : MethodName := ⟨RX12, "beginsText", "(I)V"⟩
abbrev cX12_law : ByteArray := prog_14_method_42_code
def yX12_law : MethodName := ⟨RX12, "law", "(I)I"⟩
abbrev cX12_reckon : ByteArray := prog_14_method_43_code
def yX12_reckon : MethodName := ⟨RX12, "reckon", "(III)I"⟩
abbrev cX12_comesTo : ByteArray := prog_14_method_44_code
def yX12_comesTo : MethodName := ⟨RX12, "comesTo", "(II)I"⟩
abbrev cX12_byLaw : ByteArray := prog_14_method_45_code
def yX12_byLaw : MethodName := ⟨RX12, "byLaw", "(II)I"⟩
abbrev cX12_holdsAny : ByteArray := prog_14_method_46_code
def yX12_holdsAny : MethodName := ⟨RX12, "holdsAny", "(I)Z"⟩
abbrev cX12_readsTimes : ByteArray := prog_14_method_47_code
def yX12_readsTimes : MethodName := ⟨RX12, "readsTimes", "()V"⟩
abbrev cX12_repeats : ByteArray := prog_14_method_48_code
def yX12_repeats : MethodName := ⟨RX12, "repeats", "(III)Z"⟩
abbrev cX12_readsAmount : ByteArray := prog_14_method_49_code
def yX12_readsAmount : MethodName := ⟨RX12, "readsAmount", "(I)Z"⟩
abbrev cX12_readsItem : ByteArray := prog_14_method_50_code
def yX12_readsItem : MethodName := ⟨RX12, "readsItem", "()Z"⟩
abbrev cX12_plan : ByteArray := prog_14_method_51_code
def yX12_plan : MethodName := ⟨RX12, "plan", "(II)I"⟩
abbrev cX12_readsMore : ByteArray := prog_14_method_52_code
def yX12_readsMore : MethodName := ⟨RX12, "readsMore", "(II)Z"⟩
abbrev cX12_readsBench : ByteArray := prog_14_method_53_code
def yX12_readsBench : MethodName := ⟨RX12, "readsBench", "(I)Z"⟩
abbrev cX12_readsLine : ByteArray := prog_14_method_54_code
def yX12_readsLine : MethodName := ⟨RX12, "readsLine", "()Z"⟩
abbrev cX12_orders : ByteArray := prog_14_method_55_code
def yX12_orders : MethodName := ⟨RX12, "orders", "(I)I"⟩
abbrev cX12_draws : ByteArray := prog_14_method_56_code
def yX12_draws : MethodName := ⟨RX12, "draws", "()I"⟩
abbrev cX12_feels : ByteArray := prog_14_method_57_code
def yX12_feels : MethodName := ⟨RX12, "feels", "(I)V"⟩
abbrev cX12_mayCome : ByteArray := prog_14_method_58_code
def yX12_mayCome : MethodName := ⟨RX12, "mayCome", "(I)I"⟩
abbrev cX12_works : ByteArray := prog_14_method_59_code
def yX12_works : MethodName := ⟨RX12, "works", "(I)V"⟩
abbrev cX12_tiltNow : ByteArray := prog_14_method_60_code
def yX12_tiltNow : MethodName := ⟨RX12, "tiltNow", "()I"⟩
abbrev cX12_dayGoes : ByteArray := prog_14_method_61_code
def yX12_dayGoes : MethodName := ⟨RX12, "dayGoes", "()V"⟩
abbrev cX12_beginsDays : ByteArray := prog_14_method_62_code
def yX12_beginsDays : MethodName := ⟨RX12, "beginsDays", "()V"⟩
abbrev cX12_daysGo : ByteArray := prog_14_method_63_code
def yX12_daysGo : MethodName := ⟨RX12, "daysGo", "(I)V"⟩
abbrev cX12_days : ByteArray := prog_14_method_64_code
def yX12_days : MethodName := ⟨RX12, "days", "(I)I"⟩
abbrev cX12_tried : ByteArray := prog_14_method_65_code
def yX12_tried : MethodName := ⟨RX12, "tried", "(II)I"⟩
abbrev cX12_sideIs : ByteArray := prog_14_method_66_code
def yX12_sideIs : MethodName := ⟨RX12, "sideIs", "(II)I"⟩
abbrev cX12_archIs : ByteArray := prog_14_method_67_code
def yX12_archIs : MethodName := ⟨RX12, "archIs", "(III)I"⟩
abbrev cX12_whoTouches : ByteArray := prog_14_method_68_code
def yX12_whoTouches : MethodName := ⟨RX12, "whoTouches", "()I"⟩
abbrev cX12_touches : ByteArray := prog_14_method_69_code
def yX12_touches : MethodName := ⟨RX12, "touches", "(II)I"⟩
abbrev cX12_ahead : ByteArray := prog_14_method_70_code
def yX12_ahead : MethodName := ⟨RX12, "ahead", "(I)I"⟩
abbrev cX12_beyond : ByteArray := prog_14_method_71_code
def yX12_beyond : MethodName := ⟨RX12, "beyond", "(II)I"⟩
abbrev cX12_even : ByteArray := prog_14_method_72_code
def yX12_even : MethodName := ⟨RX12, "even", "(II)I"⟩
abbrev cX12_sumOf : ByteArray := prog_14_method_73_code
def yX12_sumOf : MethodName := ⟨RX12, "sumOf", "(II)I"⟩
abbrev cX12_mayStand : ByteArray := prog_14_method_74_code
def yX12_mayStand : MethodName := ⟨RX12, "mayStand", "(II)Z"⟩
abbrev cX12_inARow : ByteArray := prog_14_method_75_code
def yX12_inARow : MethodName := ⟨RX12, "inARow", "()I"⟩
abbrev cX12_isOver : ByteArray := prog_14_method_76_code
def yX12_isOver : MethodName := ⟨RX12, "isOver", "(IIIII)Z"⟩
abbrev cX12_ball : ByteArray := prog_14_method_77_code
def yX12_ball : MethodName := ⟨RX12, "ball", "(IIIII)I"⟩
abbrev cX12_leastSpeed : ByteArray := prog_14_method_78_code
def yX12_leastSpeed : MethodName := ⟨RX12, "leastSpeed", "(IIII)I"⟩
abbrev cX12_piles : ByteArray := prog_14_method_79_code
def yX12_piles : MethodName := ⟨RX12, "piles", "(III)I"⟩
abbrev cX12_isAllLit : ByteArray := prog_14_method_80_code
def yX12_isAllLit : MethodName := ⟨RX12, "isAllLit", "(III)Z"⟩
abbrev cX12_lamps : ByteArray := prog_14_method_81_code
def yX12_lamps : MethodName := ⟨RX12, "lamps", "(III)I"⟩
abbrev cX12_claims : ByteArray := prog_14_method_82_code
def yX12_claims : MethodName := ⟨RX12, "claims", "(II)I"⟩
abbrev cX12_sorts : ByteArray := prog_14_method_83_code
def yX12_sorts : MethodName := ⟨RX12, "sorts", "(I)V"⟩
abbrev cX12_rowed : ByteArray := prog_14_method_84_code
def yX12_rowed : MethodName := ⟨RX12, "rowed", "(I)I"⟩
abbrev cX12_isOnceEach : ByteArray := prog_14_method_85_code
def yX12_isOnceEach : MethodName := ⟨RX12, "isOnceEach", "(II)Z"⟩
abbrev cX12_likes : ByteArray := prog_14_method_86_code
def yX12_likes : MethodName := ⟨RX12, "likes", "(III)I"⟩
abbrev cX12_whoAsks : ByteArray := prog_14_method_87_code
def yX12_whoAsks : MethodName := ⟨RX12, "whoAsks", "(I)I"⟩
abbrev cX12_wed : ByteArray := prog_14_method_88_code
def yX12_wed : MethodName := ⟨RX12, "wed", "(II)I"⟩
abbrev cX12_unfolds : ByteArray := prog_14_method_89_code
def yX12_unfolds : MethodName := ⟨RX12, "unfolds", "(II)V"⟩
abbrev cX12_changedBy : ByteArray := prog_14_method_90_code
def yX12_changedBy : MethodName := ⟨RX12, "changedBy", "(II)I"⟩
abbrev cX12_changes : ByteArray := prog_14_method_91_code
def yX12_changes : MethodName := ⟨RX12, "changes", "(I)I"⟩
abbrev cX12_longestRun : ByteArray := prog_14_method_92_code
def yX12_longestRun : MethodName := ⟨RX12, "longestRun", "(II)I"⟩
abbrev cX12_dialect : ByteArray := prog_14_method_93_code
def yX12_dialect : MethodName := ⟨RX12, "dialect", "(III)I"⟩
abbrev cX12_owed : ByteArray := prog_14_method_94_code
def yX12_owed : MethodName := ⟨RX12, "owed", "(II)I"⟩
abbrev cX12_seed : ByteArray := prog_14_method_95_code
def yX12_seed : MethodName := ⟨RX12, "seed", "(I)Z"⟩
abbrev cX12_keep : ByteArray := prog_14_method_96_code
def yX12_keep : MethodName := ⟨RX12, "keep", "()I"⟩
abbrev cX12_undo : ByteArray := prog_14_method_97_code
def yX12_undo : MethodName := ⟨RX12, "undo", "()Z"⟩
abbrev cX12_check : ByteArray := prog_14_method_98_code
def yX12_check : MethodName := ⟨RX12, "check", "()I"⟩
abbrev cX12_count : ByteArray := prog_14_method_99_code
def yX12_count : MethodName := ⟨RX12, "count", "(I)I"⟩
def RL : String := "MiddleBridgeLaw"
abbrev cL_law : ByteArray := code
abbrev vwCl : List vw_C := [(RX0, TX0, 2), (RX1, TX1, 9), (RX2, TX2, 1), (RX4, TX4, 5), (RX5, TX5, 2), (RX6, TX6, 2), (RX7, TX7, 5), (RX8, TX8, 8), (RX9, TX9, 4), (RX10, TX10, 6), (RX11, TX11, 12), (RX12, TX12, 51)]
/-- the links of nest mates: they are kept by a contract's start, not by its words -/
def isNest : Cond → Bool
  | .fieldLinkNest .. => true
  | .methodLinkNest .. => true
  | _ => false
def xtb : List Cond := lw_tbl.filter (fun w => goodWord w || isNest w)
def gtb : List Cond := lw_tbl.filter goodWord
theorem gtb_in {w : Cond} (h : w ∈ gtb) : w ∈ xtb ∧ goodWord w = true := ⟨List.mem_filter.mpr ⟨(List.mem_filter.mp h).1, Bool.or_eq_true_iff.mpr (Or.inl (List.mem_filter.mp h).2)⟩, (List.mem_filter.mp h).2⟩
theorem xtb_m {w : Cond} (i : Nat) (h : lw_tbl[i]? = some w) (hg : (goodWord w || isNest w) = true) : w ∈ xtb := List.mem_filter.mpr ⟨List.mem_of_getElem? h, hg⟩
theorem nw_warm {w : Cond} (hn : isNest w = true) {s U : State} (hW : s.WarmedH U.vm) (hZ : va_Nw w s) : va_Nw w U := by
  cases w <;> first | exact va_Nw.warmF hW hZ | exact va_Nw.warmM hW hZ | cases hn
theorem nw_same {w : Cond} (hn : isNest w = true) {s U : State} (h : s.vm = U.vm) (hZ : va_Nw w s) : va_Nw w U := by
  cases w <;> first | exact va_Nw.same rfl h hZ | cases hn
theorem nw_use {w : Cond} (hn : isNest w = true) {A : Array Value} {U : State} (hZ : va_Nw w U) : w.before A U = true := by
  cases w <;> first | exact va_Nw.use rfl hZ | cases hn
theorem nw_of {w : Cond} (hn : isNest w = true) {A : Array Value} {U : State} (hZ : w.before A U = true) : va_Nw w U := by
  cases w <;> first | exact va_Nw.of rfl hZ | cases hn
theorem tb_all {A : Array Value} {U : State} (h1 : ∀ w ∈ gtb, w.before A U = true) (h2 : ∀ w ∈ xtb, isNest w = true → va_Nw w U) : ∀ w ∈ xtb, w.before A U = true := fun w hw => by
  obtain ⟨hm, h⟩ := List.mem_filter.mp hw
  rcases Bool.or_eq_true_iff.mp h with g | g
  · exact h1 w (List.mem_filter.mpr ⟨hm, g⟩)
  · exact nw_use g (h2 w hw g)
theorem iX0 : ∀ w ∈ u_ws RX0 TX0 2, w ∈ xtb := by decide +kernel
theorem iX1 : ∀ w ∈ u_ws RX1 TX1 9, w ∈ xtb := by decide +kernel
theorem iX2 : ∀ w ∈ u_ws RX2 TX2 1, w ∈ xtb := by decide +kernel
theorem iX4 : ∀ w ∈ u_ws RX4 TX4 5, w ∈ xtb := by decide +kernel
theorem iX5 : ∀ w ∈ u_ws RX5 TX5 2, w ∈ xtb := by decide +kernel
theorem iX6 : ∀ w ∈ u_ws RX6 TX6 2, w ∈ xtb := by decide +kernel
theorem iX7 : ∀ w ∈ u_ws RX7 TX7 5, w ∈ xtb := by decide +kernel
theorem iX8 : ∀ w ∈ u_ws RX8 TX8 8, w ∈ xtb := by decide +kernel
theorem iX9 : ∀ w ∈ u_ws RX9 TX9 4, w ∈ xtb := by decide +kernel
theorem iX10 : ∀ w ∈ u_ws RX10 TX10 6, w ∈ xtb := by decide +kernel
theorem iX11 : ∀ w ∈ u_ws RX11 TX11 12, w ∈ xtb := by decide +kernel
theorem iX12 : ∀ w ∈ u_ws RX12 TX12 51, w ∈ xtb := by decide +kernel

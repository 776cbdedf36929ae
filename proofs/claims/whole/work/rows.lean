section
-- ===== PART A: goes FIRST, ahead of the names: the tables' words, and 'selects' of the private methods out of them =====
/-- a private method of a class that the tables say can be made, by its rows of tables_1 -/
def lw_okq (q : MethodName × Nat) : Prop := (q.1.cls ≠ "java/lang/invoke/MethodHandle" ∧ q.1.cls ≠ "java/lang/invoke/VarHandle") ∧ Cond.instantiable q.1.cls q.2 ∈ tables_1 ∧ Cond.privateMethod q.1 ∈ tables_1 ∧ Cond.instanceMethod q.1 ∈ tables_1
theorem lw_p0 : lw_okq (⟨"ControlText$Names", "addWords", "(Ljava/lang/String;)V"⟩, 6) := ⟨⟨by decide +kernel, by decide +kernel⟩, List.mem_of_getElem? (i := 42) (by decide +kernel), List.mem_of_getElem? (i := 49) (by decide +kernel), List.mem_of_getElem? (i := 50) (by decide +kernel)⟩
theorem lw_p1 : lw_okq (⟨"ControlText$Names", "firstSlot", "()I"⟩, 6) := ⟨⟨by decide +kernel, by decide +kernel⟩, List.mem_of_getElem? (i := 42) (by decide +kernel), List.mem_of_getElem? (i := 105) (by decide +kernel), List.mem_of_getElem? (i := 106) (by decide +kernel)⟩
theorem lw_p2 : lw_okq (⟨"ControlText$Names", "startOf", "(I)I"⟩, 6) := ⟨⟨by decide +kernel, by decide +kernel⟩, List.mem_of_getElem? (i := 42) (by decide +kernel), List.mem_of_getElem? (i := 109) (by decide +kernel), List.mem_of_getElem? (i := 110) (by decide +kernel)⟩
theorem lw_p3 : lw_okq (⟨"ControlText$Names", "keep", "(I)I"⟩, 6) := ⟨⟨by decide +kernel, by decide +kernel⟩, List.mem_of_getElem? (i := 42) (by decide +kernel), List.mem_of_getElem? (i := 113) (by decide +kernel), List.mem_of_getElem? (i := 114) (by decide +kernel)⟩
theorem lw_p4 : lw_okq (⟨"ControlText$Names", "isAddedLast", "(I)Z"⟩, 6) := ⟨⟨by decide +kernel, by decide +kernel⟩, List.mem_of_getElem? (i := 42) (by decide +kernel), List.mem_of_getElem? (i := 117) (by decide +kernel), List.mem_of_getElem? (i := 118) (by decide +kernel)⟩
theorem lw_p5 : lw_okq (⟨"ControlText", "feedNumber", "(I)V"⟩, 7) := ⟨⟨by decide +kernel, by decide +kernel⟩, List.mem_of_getElem? (i := 17) (by decide +kernel), List.mem_of_getElem? (i := 315) (by decide +kernel), List.mem_of_getElem? (i := 316) (by decide +kernel)⟩
theorem lw_p6 : lw_okq (⟨"ControlText$Tokens", "scanToken", "()V"⟩, 7) := ⟨⟨by decide +kernel, by decide +kernel⟩, List.mem_of_getElem? (i := 154) (by decide +kernel), List.mem_of_getElem? (i := 351) (by decide +kernel), List.mem_of_getElem? (i := 352) (by decide +kernel)⟩
theorem lw_p7 : lw_okq (⟨"ControlText$Tokens", "skipBlanks", "()Z"⟩, 7) := ⟨⟨by decide +kernel, by decide +kernel⟩, List.mem_of_getElem? (i := 154) (by decide +kernel), List.mem_of_getElem? (i := 355) (by decide +kernel), List.mem_of_getElem? (i := 356) (by decide +kernel)⟩
theorem lw_p8 : lw_okq (⟨"ControlText$Tokens", "endOfComment", "(I)I"⟩, 7) := ⟨⟨by decide +kernel, by decide +kernel⟩, List.mem_of_getElem? (i := 154) (by decide +kernel), List.mem_of_getElem? (i := 360) (by decide +kernel), List.mem_of_getElem? (i := 361) (by decide +kernel)⟩
theorem lw_p9 : lw_okq (⟨"ControlText$Tokens", "add", "(III)V"⟩, 7) := ⟨⟨by decide +kernel, by decide +kernel⟩, List.mem_of_getElem? (i := 154) (by decide +kernel), List.mem_of_getElem? (i := 364) (by decide +kernel), List.mem_of_getElem? (i := 365) (by decide +kernel)⟩
theorem lw_p10 : lw_okq (⟨"ControlText$Tokens", "scanTime", "()V"⟩, 7) := ⟨⟨by decide +kernel, by decide +kernel⟩, List.mem_of_getElem? (i := 154) (by decide +kernel), List.mem_of_getElem? (i := 369) (by decide +kernel), List.mem_of_getElem? (i := 370) (by decide +kernel)⟩
theorem lw_p11 : lw_okq (⟨"ControlText$Tokens", "digits", "(I)J"⟩, 7) := ⟨⟨by decide +kernel, by decide +kernel⟩, List.mem_of_getElem? (i := 154) (by decide +kernel), List.mem_of_getElem? (i := 373) (by decide +kernel), List.mem_of_getElem? (i := 374) (by decide +kernel)⟩
theorem lw_p12 : lw_okq (⟨"ControlText$Tokens", "unit", "()J"⟩, 7) := ⟨⟨by decide +kernel, by decide +kernel⟩, List.mem_of_getElem? (i := 154) (by decide +kernel), List.mem_of_getElem? (i := 388) (by decide +kernel), List.mem_of_getElem? (i := 389) (by decide +kernel)⟩
theorem lw_p13 : lw_okq (⟨"ControlText$Tokens", "addNumber", "(IJ)V"⟩, 7) := ⟨⟨by decide +kernel, by decide +kernel⟩, List.mem_of_getElem? (i := 154) (by decide +kernel), List.mem_of_getElem? (i := 395) (by decide +kernel), List.mem_of_getElem? (i := 396) (by decide +kernel)⟩
theorem lw_p14 : lw_okq (⟨"ControlText$Tokens", "scanNumber", "()V"⟩, 7) := ⟨⟨by decide +kernel, by decide +kernel⟩, List.mem_of_getElem? (i := 154) (by decide +kernel), List.mem_of_getElem? (i := 403) (by decide +kernel), List.mem_of_getElem? (i := 404) (by decide +kernel)⟩
theorem lw_p15 : lw_okq (⟨"ControlText$Tokens", "scanName", "()V"⟩, 7) := ⟨⟨by decide +kernel, by decide +kernel⟩, List.mem_of_getElem? (i := 154) (by decide +kernel), List.mem_of_getElem? (i := 409) (by decide +kernel), List.mem_of_getElem? (i := 410) (by decide +kernel)⟩
def lw_privs_1 : List (MethodName × Nat) := [(⟨"ControlText$Names", "addWords", "(Ljava/lang/String;)V"⟩, 6), (⟨"ControlText$Names", "firstSlot", "()I"⟩, 6), (⟨"ControlText$Names", "startOf", "(I)I"⟩, 6), (⟨"ControlText$Names", "keep", "(I)I"⟩, 6), (⟨"ControlText$Names", "isAddedLast", "(I)Z"⟩, 6), (⟨"ControlText", "feedNumber", "(I)V"⟩, 7), (⟨"ControlText$Tokens", "scanToken", "()V"⟩, 7), (⟨"ControlText$Tokens", "skipBlanks", "()Z"⟩, 7), (⟨"ControlText$Tokens", "endOfComment", "(I)I"⟩, 7), (⟨"ControlText$Tokens", "add", "(III)V"⟩, 7), (⟨"ControlText$Tokens", "scanTime", "()V"⟩, 7), (⟨"ControlText$Tokens", "digits", "(I)J"⟩, 7), (⟨"ControlText$Tokens", "unit", "()J"⟩, 7), (⟨"ControlText$Tokens", "addNumber", "(IJ)V"⟩, 7), (⟨"ControlText$Tokens", "scanNumber", "()V"⟩, 7), (⟨"ControlText$Tokens", "scanName", "()V"⟩, 7)]
theorem lw_r1 : ∀ q ∈ lw_privs_1, lw_okq q := List.forall_mem_cons.mpr ⟨lw_p0, List.forall_mem_cons.mpr ⟨lw_p1, List.forall_mem_cons.mpr ⟨lw_p2, List.forall_mem_cons.mpr ⟨lw_p3, List.forall_mem_cons.mpr ⟨lw_p4, List.forall_mem_cons.mpr ⟨lw_p5, List.forall_mem_cons.mpr ⟨lw_p6, List.forall_mem_cons.mpr ⟨lw_p7, List.forall_mem_cons.mpr ⟨lw_p8, List.forall_mem_cons.mpr ⟨lw_p9, List.forall_mem_cons.mpr ⟨lw_p10, List.forall_mem_cons.mpr ⟨lw_p11, List.forall_mem_cons.mpr ⟨lw_p12, List.forall_mem_cons.mpr ⟨lw_p13, List.forall_mem_cons.mpr ⟨lw_p14, List.forall_mem_cons.mpr ⟨lw_p15, fun _ h => absurd h List.not_mem_nil⟩⟩⟩⟩⟩⟩⟩⟩⟩⟩⟩⟩⟩⟩⟩⟩
theorem lw_p16 : lw_okq (⟨"ControlText$Tokens", "scanPlace", "()V"⟩, 7) := ⟨⟨by decide +kernel, by decide +kernel⟩, List.mem_of_getElem? (i := 154) (by decide +kernel), List.mem_of_getElem? (i := 415) (by decide +kernel), List.mem_of_getElem? (i := 416) (by decide +kernel)⟩
theorem lw_p17 : lw_okq (⟨"ControlText$Tokens", "scanSign", "()V"⟩, 7) := ⟨⟨by decide +kernel, by decide +kernel⟩, List.mem_of_getElem? (i := 154) (by decide +kernel), List.mem_of_getElem? (i := 422) (by decide +kernel), List.mem_of_getElem? (i := 423) (by decide +kernel)⟩
theorem lw_p18 : lw_okq (⟨"ControlText$Parser", "take", "(I)V"⟩, 12) := ⟨⟨by decide +kernel, by decide +kernel⟩, List.mem_of_getElem? (i := 220) (by decide +kernel), List.mem_of_getElem? (i := 443) (by decide +kernel), List.mem_of_getElem? (i := 444) (by decide +kernel)⟩
theorem lw_p19 : lw_okq (⟨"ControlText$Parser", "startsBlock", "()Z"⟩, 12) := ⟨⟨by decide +kernel, by decide +kernel⟩, List.mem_of_getElem? (i := 220) (by decide +kernel), List.mem_of_getElem? (i := 455) (by decide +kernel), List.mem_of_getElem? (i := 456) (by decide +kernel)⟩
theorem lw_p20 : lw_okq (⟨"ControlText$Parser", "blockHead", "(I)I"⟩, 12) := ⟨⟨by decide +kernel, by decide +kernel⟩, List.mem_of_getElem? (i := 220) (by decide +kernel), List.mem_of_getElem? (i := 459) (by decide +kernel), List.mem_of_getElem? (i := 460) (by decide +kernel)⟩
theorem lw_p21 : lw_okq (⟨"ControlText$Parser", "takeName", "()I"⟩, 12) := ⟨⟨by decide +kernel, by decide +kernel⟩, List.mem_of_getElem? (i := 220) (by decide +kernel), List.mem_of_getElem? (i := 466) (by decide +kernel), List.mem_of_getElem? (i := 467) (by decide +kernel)⟩
theorem lw_p22 : lw_okq (⟨"ControlText$Parser", "simpleType", "(I)V"⟩, 12) := ⟨⟨by decide +kernel, by decide +kernel⟩, List.mem_of_getElem? (i := 220) (by decide +kernel), List.mem_of_getElem? (i := 470) (by decide +kernel), List.mem_of_getElem? (i := 471) (by decide +kernel)⟩
theorem lw_p23 : lw_okq (⟨"ControlText$Parser", "sections", "(I)V"⟩, 12) := ⟨⟨by decide +kernel, by decide +kernel⟩, List.mem_of_getElem? (i := 220) (by decide +kernel), List.mem_of_getElem? (i := 474) (by decide +kernel), List.mem_of_getElem? (i := 475) (by decide +kernel)⟩
theorem lw_p24 : lw_okq (⟨"ControlText$Parser", "startsSection", "()Z"⟩, 12) := ⟨⟨by decide +kernel, by decide +kernel⟩, List.mem_of_getElem? (i := 220) (by decide +kernel), List.mem_of_getElem? (i := 478) (by decide +kernel), List.mem_of_getElem? (i := 479) (by decide +kernel)⟩
theorem lw_p25 : lw_okq (⟨"ControlText$Parser", "declaration", "(I)V"⟩, 12) := ⟨⟨by decide +kernel, by decide +kernel⟩, List.mem_of_getElem? (i := 220) (by decide +kernel), List.mem_of_getElem? (i := 482) (by decide +kernel), List.mem_of_getElem? (i := 483) (by decide +kernel)⟩
theorem lw_p26 : lw_okq (⟨"ControlText$Parser", "nameNode", "(I)V"⟩, 12) := ⟨⟨by decide +kernel, by decide +kernel⟩, List.mem_of_getElem? (i := 220) (by decide +kernel), List.mem_of_getElem? (i := 486) (by decide +kernel), List.mem_of_getElem? (i := 487) (by decide +kernel)⟩
theorem lw_p27 : lw_okq (⟨"ControlText$Parser", "type", "(I)V"⟩, 12) := ⟨⟨by decide +kernel, by decide +kernel⟩, List.mem_of_getElem? (i := 220) (by decide +kernel), List.mem_of_getElem? (i := 490) (by decide +kernel), List.mem_of_getElem? (i := 491) (by decide +kernel)⟩
theorem lw_p28 : lw_okq (⟨"ControlText$Parser", "constant", "(I)V"⟩, 12) := ⟨⟨by decide +kernel, by decide +kernel⟩, List.mem_of_getElem? (i := 220) (by decide +kernel), List.mem_of_getElem? (i := 494) (by decide +kernel), List.mem_of_getElem? (i := 495) (by decide +kernel)⟩
theorem lw_p29 : lw_okq (⟨"ControlText$Parser", "literal", "(I)V"⟩, 12) := ⟨⟨by decide +kernel, by decide +kernel⟩, List.mem_of_getElem? (i := 220) (by decide +kernel), List.mem_of_getElem? (i := 498) (by decide +kernel), List.mem_of_getElem? (i := 499) (by decide +kernel)⟩
theorem lw_p30 : lw_okq (⟨"ControlText$Parser", "ladder", "(I)V"⟩, 12) := ⟨⟨by decide +kernel, by decide +kernel⟩, List.mem_of_getElem? (i := 220) (by decide +kernel), List.mem_of_getElem? (i := 502) (by decide +kernel), List.mem_of_getElem? (i := 503) (by decide +kernel)⟩
theorem lw_p31 : lw_okq (⟨"ControlText$Parser", "row", "(I)V"⟩, 12) := ⟨⟨by decide +kernel, by decide +kernel⟩, List.mem_of_getElem? (i := 220) (by decide +kernel), List.mem_of_getElem? (i := 506) (by decide +kernel), List.mem_of_getElem? (i := 507) (by decide +kernel)⟩
def lw_privs_2 : List (MethodName × Nat) := [(⟨"ControlText$Tokens", "scanPlace", "()V"⟩, 7), (⟨"ControlText$Tokens", "scanSign", "()V"⟩, 7), (⟨"ControlText$Parser", "take", "(I)V"⟩, 12), (⟨"ControlText$Parser", "startsBlock", "()Z"⟩, 12), (⟨"ControlText$Parser", "blockHead", "(I)I"⟩, 12), (⟨"ControlText$Parser", "takeName", "()I"⟩, 12), (⟨"ControlText$Parser", "simpleType", "(I)V"⟩, 12), (⟨"ControlText$Parser", "sections", "(I)V"⟩, 12), (⟨"ControlText$Parser", "startsSection", "()Z"⟩, 12), (⟨"ControlText$Parser", "declaration", "(I)V"⟩, 12), (⟨"ControlText$Parser", "nameNode", "(I)V"⟩, 12), (⟨"ControlText$Parser", "type", "(I)V"⟩, 12), (⟨"ControlText$Parser", "constant", "(I)V"⟩, 12), (⟨"ControlText$Parser", "literal", "(I)V"⟩, 12), (⟨"ControlText$Parser", "ladder", "(I)V"⟩, 12), (⟨"ControlText$Parser", "row", "(I)V"⟩, 12)]
theorem lw_r2 : ∀ q ∈ lw_privs_2, lw_okq q := List.forall_mem_cons.mpr ⟨lw_p16, List.forall_mem_cons.mpr ⟨lw_p17, List.forall_mem_cons.mpr ⟨lw_p18, List.forall_mem_cons.mpr ⟨lw_p19, List.forall_mem_cons.mpr ⟨lw_p20, List.forall_mem_cons.mpr ⟨lw_p21, List.forall_mem_cons.mpr ⟨lw_p22, List.forall_mem_cons.mpr ⟨lw_p23, List.forall_mem_cons.mpr ⟨lw_p24, List.forall_mem_cons.mpr ⟨lw_p25, List.forall_mem_cons.mpr ⟨lw_p26, List.forall_mem_cons.mpr ⟨lw_p27, List.forall_mem_cons.mpr ⟨lw_p28, List.forall_mem_cons.mpr ⟨lw_p29, List.forall_mem_cons.mpr ⟨lw_p30, List.forall_mem_cons.mpr ⟨lw_p31, fun _ h => absurd h List.not_mem_nil⟩⟩⟩⟩⟩⟩⟩⟩⟩⟩⟩⟩⟩⟩⟩⟩
theorem lw_p32 : lw_okq (⟨"ControlText$Parser", "cell", "(I)V"⟩, 12) := ⟨⟨by decide +kernel, by decide +kernel⟩, List.mem_of_getElem? (i := 220) (by decide +kernel), List.mem_of_getElem? (i := 510) (by decide +kernel), List.mem_of_getElem? (i := 511) (by decide +kernel)⟩
theorem lw_p33 : lw_okq (⟨"ControlText$Parser", "coil", "(I)V"⟩, 12) := ⟨⟨by decide +kernel, by decide +kernel⟩, List.mem_of_getElem? (i := 220) (by decide +kernel), List.mem_of_getElem? (i := 514) (by decide +kernel), List.mem_of_getElem? (i := 515) (by decide +kernel)⟩
theorem lw_p34 : lw_okq (⟨"ControlText$Parser", "contact", "(I)V"⟩, 12) := ⟨⟨by decide +kernel, by decide +kernel⟩, List.mem_of_getElem? (i := 220) (by decide +kernel), List.mem_of_getElem? (i := 521) (by decide +kernel), List.mem_of_getElem? (i := 522) (by decide +kernel)⟩
theorem lw_p35 : lw_okq (⟨"ControlText$Parser", "startsCell", "()Z"⟩, 12) := ⟨⟨by decide +kernel, by decide +kernel⟩, List.mem_of_getElem? (i := 220) (by decide +kernel), List.mem_of_getElem? (i := 528) (by decide +kernel), List.mem_of_getElem? (i := 529) (by decide +kernel)⟩
theorem lw_p36 : lw_okq (⟨"ControlText$Parser", "body", "(I)V"⟩, 12) := ⟨⟨by decide +kernel, by decide +kernel⟩, List.mem_of_getElem? (i := 220) (by decide +kernel), List.mem_of_getElem? (i := 532) (by decide +kernel), List.mem_of_getElem? (i := 533) (by decide +kernel)⟩
theorem lw_p37 : lw_okq (⟨"ControlText$Parser", "statement", "(I)Z"⟩, 12) := ⟨⟨by decide +kernel, by decide +kernel⟩, List.mem_of_getElem? (i := 220) (by decide +kernel), List.mem_of_getElem? (i := 536) (by decide +kernel), List.mem_of_getElem? (i := 537) (by decide +kernel)⟩
theorem lw_p38 : lw_okq (⟨"ControlText$Parser", "invocation", "(III)V"⟩, 12) := ⟨⟨by decide +kernel, by decide +kernel⟩, List.mem_of_getElem? (i := 220) (by decide +kernel), List.mem_of_getElem? (i := 540) (by decide +kernel), List.mem_of_getElem? (i := 541) (by decide +kernel)⟩
theorem lw_p39 : lw_okq (⟨"ControlText$Parser", "takeOpening", "()V"⟩, 12) := ⟨⟨by decide +kernel, by decide +kernel⟩, List.mem_of_getElem? (i := 220) (by decide +kernel), List.mem_of_getElem? (i := 544) (by decide +kernel), List.mem_of_getElem? (i := 545) (by decide +kernel)⟩
theorem lw_p40 : lw_okq (⟨"ControlText$Parser", "mayOpen", "()Z"⟩, 12) := ⟨⟨by decide +kernel, by decide +kernel⟩, List.mem_of_getElem? (i := 220) (by decide +kernel), List.mem_of_getElem? (i := 548) (by decide +kernel), List.mem_of_getElem? (i := 549) (by decide +kernel)⟩
theorem lw_p41 : lw_okq (⟨"ControlText$Parser", "outermostExpression", "(I)V"⟩, 12) := ⟨⟨by decide +kernel, by decide +kernel⟩, List.mem_of_getElem? (i := 220) (by decide +kernel), List.mem_of_getElem? (i := 552) (by decide +kernel), List.mem_of_getElem? (i := 553) (by decide +kernel)⟩
theorem lw_p42 : lw_okq (⟨"ControlText$Parser", "expression", "(II)V"⟩, 12) := ⟨⟨by decide +kernel, by decide +kernel⟩, List.mem_of_getElem? (i := 220) (by decide +kernel), List.mem_of_getElem? (i := 556) (by decide +kernel), List.mem_of_getElem? (i := 557) (by decide +kernel)⟩
theorem lw_p43 : lw_okq (⟨"ControlText$Parser", "operand", "(I)V"⟩, 12) := ⟨⟨by decide +kernel, by decide +kernel⟩, List.mem_of_getElem? (i := 220) (by decide +kernel), List.mem_of_getElem? (i := 560) (by decide +kernel), List.mem_of_getElem? (i := 561) (by decide +kernel)⟩
theorem lw_p44 : lw_okq (⟨"ControlText$Parser", "takeClosing", "(I)V"⟩, 12) := ⟨⟨by decide +kernel, by decide +kernel⟩, List.mem_of_getElem? (i := 220) (by decide +kernel), List.mem_of_getElem? (i := 564) (by decide +kernel), List.mem_of_getElem? (i := 565) (by decide +kernel)⟩
theorem lw_p45 : lw_okq (⟨"ControlText$Parser", "operandByName", "(I)V"⟩, 12) := ⟨⟨by decide +kernel, by decide +kernel⟩, List.mem_of_getElem? (i := 220) (by decide +kernel), List.mem_of_getElem? (i := 568) (by decide +kernel), List.mem_of_getElem? (i := 569) (by decide +kernel)⟩
theorem lw_p46 : lw_okq (⟨"ControlText$Parser", "takeComma", "()Z"⟩, 12) := ⟨⟨by decide +kernel, by decide +kernel⟩, List.mem_of_getElem? (i := 220) (by decide +kernel), List.mem_of_getElem? (i := 572) (by decide +kernel), List.mem_of_getElem? (i := 573) (by decide +kernel)⟩
theorem lw_p47 : lw_okq (⟨"ControlText$Tree", "has", "(I)Z"⟩, 8) := ⟨⟨by decide +kernel, by decide +kernel⟩, List.mem_of_getElem? (i := 186) (by decide +kernel), List.mem_of_getElem? (i := 588) (by decide +kernel), List.mem_of_getElem? (i := 589) (by decide +kernel)⟩
def lw_privs_3 : List (MethodName × Nat) := [(⟨"ControlText$Parser", "cell", "(I)V"⟩, 12), (⟨"ControlText$Parser", "coil", "(I)V"⟩, 12), (⟨"ControlText$Parser", "contact", "(I)V"⟩, 12), (⟨"ControlText$Parser", "startsCell", "()Z"⟩, 12), (⟨"ControlText$Parser", "body", "(I)V"⟩, 12), (⟨"ControlText$Parser", "statement", "(I)Z"⟩, 12), (⟨"ControlText$Parser", "invocation", "(III)V"⟩, 12), (⟨"ControlText$Parser", "takeOpening", "()V"⟩, 12), (⟨"ControlText$Parser", "mayOpen", "()Z"⟩, 12), (⟨"ControlText$Parser", "outermostExpression", "(I)V"⟩, 12), (⟨"ControlText$Parser", "expression", "(II)V"⟩, 12), (⟨"ControlText$Parser", "operand", "(I)V"⟩, 12), (⟨"ControlText$Parser", "takeClosing", "(I)V"⟩, 12), (⟨"ControlText$Parser", "operandByName", "(I)V"⟩, 12), (⟨"ControlText$Parser", "takeComma", "()Z"⟩, 12), (⟨"ControlText$Tree", "has", "(I)Z"⟩, 8)]
theorem lw_r3 : ∀ q ∈ lw_privs_3, lw_okq q := List.forall_mem_cons.mpr ⟨lw_p32, List.forall_mem_cons.mpr ⟨lw_p33, List.forall_mem_cons.mpr ⟨lw_p34, List.forall_mem_cons.mpr ⟨lw_p35, List.forall_mem_cons.mpr ⟨lw_p36, List.forall_mem_cons.mpr ⟨lw_p37, List.forall_mem_cons.mpr ⟨lw_p38, List.forall_mem_cons.mpr ⟨lw_p39, List.forall_mem_cons.mpr ⟨lw_p40, List.forall_mem_cons.mpr ⟨lw_p41, List.forall_mem_cons.mpr ⟨lw_p42, List.forall_mem_cons.mpr ⟨lw_p43, List.forall_mem_cons.mpr ⟨lw_p44, List.forall_mem_cons.mpr ⟨lw_p45, List.forall_mem_cons.mpr ⟨lw_p46, List.forall_mem_cons.mpr ⟨lw_p47, fun _ h => absurd h List.not_mem_nil⟩⟩⟩⟩⟩⟩⟩⟩⟩⟩⟩⟩⟩⟩⟩⟩
theorem lw_p48 : lw_okq (⟨"ControlText$Parser", "assignment", "(III)V"⟩, 12) := ⟨⟨by decide +kernel, by decide +kernel⟩, List.mem_of_getElem? (i := 220) (by decide +kernel), List.mem_of_getElem? (i := 595) (by decide +kernel), List.mem_of_getElem? (i := 596) (by decide +kernel)⟩
theorem lw_p49 : lw_okq (⟨"ControlText$Parser", "ifStatement", "(I)V"⟩, 12) := ⟨⟨by decide +kernel, by decide +kernel⟩, List.mem_of_getElem? (i := 220) (by decide +kernel), List.mem_of_getElem? (i := 599) (by decide +kernel), List.mem_of_getElem? (i := 600) (by decide +kernel)⟩
theorem lw_p50 : lw_okq (⟨"ControlText$Parser", "caseStatement", "(I)V"⟩, 12) := ⟨⟨by decide +kernel, by decide +kernel⟩, List.mem_of_getElem? (i := 220) (by decide +kernel), List.mem_of_getElem? (i := 603) (by decide +kernel), List.mem_of_getElem? (i := 604) (by decide +kernel)⟩
theorem lw_p51 : lw_okq (⟨"ControlText$Parser", "startsConstant", "()Z"⟩, 12) := ⟨⟨by decide +kernel, by decide +kernel⟩, List.mem_of_getElem? (i := 220) (by decide +kernel), List.mem_of_getElem? (i := 607) (by decide +kernel), List.mem_of_getElem? (i := 608) (by decide +kernel)⟩
theorem lw_p52 : lw_okq (⟨"ControlText$Parser", "ranges", "(I)V"⟩, 12) := ⟨⟨by decide +kernel, by decide +kernel⟩, List.mem_of_getElem? (i := 220) (by decide +kernel), List.mem_of_getElem? (i := 611) (by decide +kernel), List.mem_of_getElem? (i := 612) (by decide +kernel)⟩
theorem lw_p53 : lw_okq (⟨"ControlText$Parser", "forStatement", "(I)V"⟩, 12) := ⟨⟨by decide +kernel, by decide +kernel⟩, List.mem_of_getElem? (i := 220) (by decide +kernel), List.mem_of_getElem? (i := 615) (by decide +kernel), List.mem_of_getElem? (i := 616) (by decide +kernel)⟩
theorem lw_p54 : lw_okq (⟨"ControlText$Parser", "tellFault", "()V"⟩, 12) := ⟨⟨by decide +kernel, by decide +kernel⟩, List.mem_of_getElem? (i := 220) (by decide +kernel), List.mem_of_getElem? (i := 622) (by decide +kernel), List.mem_of_getElem? (i := 623) (by decide +kernel)⟩
theorem lw_p55 : lw_okq (⟨"ControlText$Tree", "firstUnfilled", "(I)I"⟩, 8) := ⟨⟨by decide +kernel, by decide +kernel⟩, List.mem_of_getElem? (i := 186) (by decide +kernel), List.mem_of_getElem? (i := 639) (by decide +kernel), List.mem_of_getElem? (i := 640) (by decide +kernel)⟩
theorem lw_p56 : lw_okq (⟨"ControlText$Writer", "finishUpTo", "(II)V"⟩, 3) := ⟨⟨by decide +kernel, by decide +kernel⟩, List.mem_of_getElem? (i := 265) (by decide +kernel), List.mem_of_getElem? (i := 691) (by decide +kernel), List.mem_of_getElem? (i := 692) (by decide +kernel)⟩
theorem lw_p57 : lw_okq (⟨"ControlText$Writer", "finish", "(I)V"⟩, 3) := ⟨⟨by decide +kernel, by decide +kernel⟩, List.mem_of_getElem? (i := 265) (by decide +kernel), List.mem_of_getElem? (i := 695) (by decide +kernel), List.mem_of_getElem? (i := 696) (by decide +kernel)⟩
theorem lw_p58 : lw_okq (⟨"ControlText$Writer", "token", "(I)V"⟩, 3) := ⟨⟨by decide +kernel, by decide +kernel⟩, List.mem_of_getElem? (i := 265) (by decide +kernel), List.mem_of_getElem? (i := 701) (by decide +kernel), List.mem_of_getElem? (i := 702) (by decide +kernel)⟩
theorem lw_p59 : lw_okq (⟨"ControlText$Writer", "word", "(I)V"⟩, 3) := ⟨⟨by decide +kernel, by decide +kernel⟩, List.mem_of_getElem? (i := 265) (by decide +kernel), List.mem_of_getElem? (i := 705) (by decide +kernel), List.mem_of_getElem? (i := 706) (by decide +kernel)⟩
theorem lw_p60 : lw_okq (⟨"ControlText$Writer", "part", "()V"⟩, 3) := ⟨⟨by decide +kernel, by decide +kernel⟩, List.mem_of_getElem? (i := 265) (by decide +kernel), List.mem_of_getElem? (i := 709) (by decide +kernel), List.mem_of_getElem? (i := 710) (by decide +kernel)⟩
theorem lw_p61 : lw_okq (⟨"ControlText$Writer", "isBracketed", "(I)Z"⟩, 3) := ⟨⟨by decide +kernel, by decide +kernel⟩, List.mem_of_getElem? (i := 265) (by decide +kernel), List.mem_of_getElem? (i := 717) (by decide +kernel), List.mem_of_getElem? (i := 718) (by decide +kernel)⟩
theorem lw_p62 : lw_okq (⟨"ControlText$Writer", "separate", "(I)V"⟩, 3) := ⟨⟨by decide +kernel, by decide +kernel⟩, List.mem_of_getElem? (i := 265) (by decide +kernel), List.mem_of_getElem? (i := 733) (by decide +kernel), List.mem_of_getElem? (i := 734) (by decide +kernel)⟩
theorem lw_p63 : lw_okq (⟨"ControlText$Writer", "begin", "(I)V"⟩, 3) := ⟨⟨by decide +kernel, by decide +kernel⟩, List.mem_of_getElem? (i := 265) (by decide +kernel), List.mem_of_getElem? (i := 757) (by decide +kernel), List.mem_of_getElem? (i := 758) (by decide +kernel)⟩
def lw_privs_4 : List (MethodName × Nat) := [(⟨"ControlText$Parser", "assignment", "(III)V"⟩, 12), (⟨"ControlText$Parser", "ifStatement", "(I)V"⟩, 12), (⟨"ControlText$Parser", "caseStatement", "(I)V"⟩, 12), (⟨"ControlText$Parser", "startsConstant", "()Z"⟩, 12), (⟨"ControlText$Parser", "ranges", "(I)V"⟩, 12), (⟨"ControlText$Parser", "forStatement", "(I)V"⟩, 12), (⟨"ControlText$Parser", "tellFault", "()V"⟩, 12), (⟨"ControlText$Tree", "firstUnfilled", "(I)I"⟩, 8), (⟨"ControlText$Writer", "finishUpTo", "(II)V"⟩, 3), (⟨"ControlText$Writer", "finish", "(I)V"⟩, 3), (⟨"ControlText$Writer", "token", "(I)V"⟩, 3), (⟨"ControlText$Writer", "word", "(I)V"⟩, 3), (⟨"ControlText$Writer", "part", "()V"⟩, 3), (⟨"ControlText$Writer", "isBracketed", "(I)Z"⟩, 3), (⟨"ControlText$Writer", "separate", "(I)V"⟩, 3), (⟨"ControlText$Writer", "begin", "(I)V"⟩, 3)]
theorem lw_r4 : ∀ q ∈ lw_privs_4, lw_okq q := List.forall_mem_cons.mpr ⟨lw_p48, List.forall_mem_cons.mpr ⟨lw_p49, List.forall_mem_cons.mpr ⟨lw_p50, List.forall_mem_cons.mpr ⟨lw_p51, List.forall_mem_cons.mpr ⟨lw_p52, List.forall_mem_cons.mpr ⟨lw_p53, List.forall_mem_cons.mpr ⟨lw_p54, List.forall_mem_cons.mpr ⟨lw_p55, List.forall_mem_cons.mpr ⟨lw_p56, List.forall_mem_cons.mpr ⟨lw_p57, List.forall_mem_cons.mpr ⟨lw_p58, List.forall_mem_cons.mpr ⟨lw_p59, List.forall_mem_cons.mpr ⟨lw_p60, List.forall_mem_cons.mpr ⟨lw_p61, List.forall_mem_cons.mpr ⟨lw_p62, List.forall_mem_cons.mpr ⟨lw_p63, fun _ h => absurd h List.not_mem_nil⟩⟩⟩⟩⟩⟩⟩⟩⟩⟩⟩⟩⟩⟩⟩⟩
theorem lw_p64 : lw_okq (⟨"ControlText$Writer", "number", "(I)V"⟩, 3) := ⟨⟨by decide +kernel, by decide +kernel⟩, List.mem_of_getElem? (i := 265) (by decide +kernel), List.mem_of_getElem? (i := 770) (by decide +kernel), List.mem_of_getElem? (i := 771) (by decide +kernel)⟩
theorem lw_p65 : lw_okq (⟨"ControlText$Writer", "digits", "(I)V"⟩, 3) := ⟨⟨by decide +kernel, by decide +kernel⟩, List.mem_of_getElem? (i := 265) (by decide +kernel), List.mem_of_getElem? (i := 777) (by decide +kernel), List.mem_of_getElem? (i := 778) (by decide +kernel)⟩
theorem lw_p66 : lw_okq (⟨"ControlText$Writer", "place", "(I)V"⟩, 3) := ⟨⟨by decide +kernel, by decide +kernel⟩, List.mem_of_getElem? (i := 265) (by decide +kernel), List.mem_of_getElem? (i := 782) (by decide +kernel), List.mem_of_getElem? (i := 783) (by decide +kernel)⟩
theorem lw_p67 : lw_okq (⟨"ControlTextModel", "make", "(III)I"⟩, 48) := ⟨⟨by decide +kernel, by decide +kernel⟩, List.mem_of_getElem? (i := 801) (by decide +kernel), List.mem_of_getElem? (i := 972) (by decide +kernel), List.mem_of_getElem? (i := 973) (by decide +kernel)⟩
theorem lw_p68 : lw_okq (⟨"ControlTextModel", "push", "(I)V"⟩, 48) := ⟨⟨by decide +kernel, by decide +kernel⟩, List.mem_of_getElem? (i := 801) (by decide +kernel), List.mem_of_getElem? (i := 976) (by decide +kernel), List.mem_of_getElem? (i := 977) (by decide +kernel)⟩
theorem lw_p69 : lw_okq (⟨"ControlTextModel", "step", "()V"⟩, 48) := ⟨⟨by decide +kernel, by decide +kernel⟩, List.mem_of_getElem? (i := 801) (by decide +kernel), List.mem_of_getElem? (i := 980) (by decide +kernel), List.mem_of_getElem? (i := 981) (by decide +kernel)⟩
theorem lw_p70 : lw_okq (⟨"ControlTextModel", "skip", "()V"⟩, 48) := ⟨⟨by decide +kernel, by decide +kernel⟩, List.mem_of_getElem? (i := 801) (by decide +kernel), List.mem_of_getElem? (i := 984) (by decide +kernel), List.mem_of_getElem? (i := 985) (by decide +kernel)⟩
theorem lw_p71 : lw_okq (⟨"ControlTextModel", "at", "(I)I"⟩, 48) := ⟨⟨by decide +kernel, by decide +kernel⟩, List.mem_of_getElem? (i := 801) (by decide +kernel), List.mem_of_getElem? (i := 988) (by decide +kernel), List.mem_of_getElem? (i := 989) (by decide +kernel)⟩
theorem lw_p72 : lw_okq (⟨"ControlTextModel", "fail", "(II)V"⟩, 48) := ⟨⟨by decide +kernel, by decide +kernel⟩, List.mem_of_getElem? (i := 801) (by decide +kernel), List.mem_of_getElem? (i := 992) (by decide +kernel), List.mem_of_getElem? (i := 993) (by decide +kernel)⟩
theorem lw_p73 : lw_okq (⟨"ControlTextModel", "readNumber", "(Z)V"⟩, 48) := ⟨⟨by decide +kernel, by decide +kernel⟩, List.mem_of_getElem? (i := 801) (by decide +kernel), List.mem_of_getElem? (i := 996) (by decide +kernel), List.mem_of_getElem? (i := 997) (by decide +kernel)⟩
theorem lw_p74 : lw_okq (⟨"ControlTextModel", "digits", "(I)J"⟩, 48) := ⟨⟨by decide +kernel, by decide +kernel⟩, List.mem_of_getElem? (i := 801) (by decide +kernel), List.mem_of_getElem? (i := 1000) (by decide +kernel), List.mem_of_getElem? (i := 1001) (by decide +kernel)⟩
theorem lw_p75 : lw_okq (⟨"ControlTextModel", "unit", "()J"⟩, 48) := ⟨⟨by decide +kernel, by decide +kernel⟩, List.mem_of_getElem? (i := 801) (by decide +kernel), List.mem_of_getElem? (i := 1015) (by decide +kernel), List.mem_of_getElem? (i := 1016) (by decide +kernel)⟩
theorem lw_p76 : lw_okq (⟨"ControlTextModel", "goesOn", "(I)Z"⟩, 48) := ⟨⟨by decide +kernel, by decide +kernel⟩, List.mem_of_getElem? (i := 801) (by decide +kernel), List.mem_of_getElem? (i := 1024) (by decide +kernel), List.mem_of_getElem? (i := 1025) (by decide +kernel)⟩
theorem lw_p77 : lw_okq (⟨"ControlTextModel", "readName", "()V"⟩, 48) := ⟨⟨by decide +kernel, by decide +kernel⟩, List.mem_of_getElem? (i := 801) (by decide +kernel), List.mem_of_getElem? (i := 1032) (by decide +kernel), List.mem_of_getElem? (i := 1033) (by decide +kernel)⟩
theorem lw_p78 : lw_okq (⟨"ControlTextModel", "wordOf", "(II)I"⟩, 48) := ⟨⟨by decide +kernel, by decide +kernel⟩, List.mem_of_getElem? (i := 801) (by decide +kernel), List.mem_of_getElem? (i := 1036) (by decide +kernel), List.mem_of_getElem? (i := 1037) (by decide +kernel)⟩
theorem lw_p79 : lw_okq (⟨"ControlTextModel", "nameOf", "(II)I"⟩, 48) := ⟨⟨by decide +kernel, by decide +kernel⟩, List.mem_of_getElem? (i := 801) (by decide +kernel), List.mem_of_getElem? (i := 1040) (by decide +kernel), List.mem_of_getElem? (i := 1041) (by decide +kernel)⟩
def lw_privs_5 : List (MethodName × Nat) := [(⟨"ControlText$Writer", "number", "(I)V"⟩, 3), (⟨"ControlText$Writer", "digits", "(I)V"⟩, 3), (⟨"ControlText$Writer", "place", "(I)V"⟩, 3), (⟨"ControlTextModel", "make", "(III)I"⟩, 48), (⟨"ControlTextModel", "push", "(I)V"⟩, 48), (⟨"ControlTextModel", "step", "()V"⟩, 48), (⟨"ControlTextModel", "skip", "()V"⟩, 48), (⟨"ControlTextModel", "at", "(I)I"⟩, 48), (⟨"ControlTextModel", "fail", "(II)V"⟩, 48), (⟨"ControlTextModel", "readNumber", "(Z)V"⟩, 48), (⟨"ControlTextModel", "digits", "(I)J"⟩, 48), (⟨"ControlTextModel", "unit", "()J"⟩, 48), (⟨"ControlTextModel", "goesOn", "(I)Z"⟩, 48), (⟨"ControlTextModel", "readName", "()V"⟩, 48), (⟨"ControlTextModel", "wordOf", "(II)I"⟩, 48), (⟨"ControlTextModel", "nameOf", "(II)I"⟩, 48)]
theorem lw_r5 : ∀ q ∈ lw_privs_5, lw_okq q := List.forall_mem_cons.mpr ⟨lw_p64, List.forall_mem_cons.mpr ⟨lw_p65, List.forall_mem_cons.mpr ⟨lw_p66, List.forall_mem_cons.mpr ⟨lw_p67, List.forall_mem_cons.mpr ⟨lw_p68, List.forall_mem_cons.mpr ⟨lw_p69, List.forall_mem_cons.mpr ⟨lw_p70, List.forall_mem_cons.mpr ⟨lw_p71, List.forall_mem_cons.mpr ⟨lw_p72, List.forall_mem_cons.mpr ⟨lw_p73, List.forall_mem_cons.mpr ⟨lw_p74, List.forall_mem_cons.mpr ⟨lw_p75, List.forall_mem_cons.mpr ⟨lw_p76, List.forall_mem_cons.mpr ⟨lw_p77, List.forall_mem_cons.mpr ⟨lw_p78, List.forall_mem_cons.mpr ⟨lw_p79, fun _ h => absurd h List.not_mem_nil⟩⟩⟩⟩⟩⟩⟩⟩⟩⟩⟩⟩⟩⟩⟩⟩
theorem lw_p80 : lw_okq (⟨"ControlTextModel", "readPlace", "()V"⟩, 48) := ⟨⟨by decide +kernel, by decide +kernel⟩, List.mem_of_getElem? (i := 801) (by decide +kernel), List.mem_of_getElem? (i := 1044) (by decide +kernel), List.mem_of_getElem? (i := 1045) (by decide +kernel)⟩
theorem lw_p81 : lw_okq (⟨"ControlTextModel", "readSign", "()V"⟩, 48) := ⟨⟨by decide +kernel, by decide +kernel⟩, List.mem_of_getElem? (i := 801) (by decide +kernel), List.mem_of_getElem? (i := 1050) (by decide +kernel), List.mem_of_getElem? (i := 1051) (by decide +kernel)⟩
theorem lw_p82 : lw_okq (⟨"ControlTextModel", "act", "(I)V"⟩, 48) := ⟨⟨by decide +kernel, by decide +kernel⟩, List.mem_of_getElem? (i := 801) (by decide +kernel), List.mem_of_getElem? (i := 1054) (by decide +kernel), List.mem_of_getElem? (i := 1055) (by decide +kernel)⟩
theorem lw_p83 : lw_okq (⟨"ControlTextModel", "pass", "(I)V"⟩, 48) := ⟨⟨by decide +kernel, by decide +kernel⟩, List.mem_of_getElem? (i := 801) (by decide +kernel), List.mem_of_getElem? (i := 1058) (by decide +kernel), List.mem_of_getElem? (i := 1059) (by decide +kernel)⟩
theorem lw_p84 : lw_okq (⟨"ControlTextModel", "wrong", "()V"⟩, 48) := ⟨⟨by decide +kernel, by decide +kernel⟩, List.mem_of_getElem? (i := 801) (by decide +kernel), List.mem_of_getElem? (i := 1062) (by decide +kernel), List.mem_of_getElem? (i := 1063) (by decide +kernel)⟩
theorem lw_p85 : lw_okq (⟨"ControlTextModel", "actBlock", "(I)V"⟩, 48) := ⟨⟨by decide +kernel, by decide +kernel⟩, List.mem_of_getElem? (i := 801) (by decide +kernel), List.mem_of_getElem? (i := 1066) (by decide +kernel), List.mem_of_getElem? (i := 1067) (by decide +kernel)⟩
theorem lw_p86 : lw_okq (⟨"ControlTextModel", "blocks", "()V"⟩, 48) := ⟨⟨by decide +kernel, by decide +kernel⟩, List.mem_of_getElem? (i := 801) (by decide +kernel), List.mem_of_getElem? (i := 1070) (by decide +kernel), List.mem_of_getElem? (i := 1071) (by decide +kernel)⟩
theorem lw_p87 : lw_okq (⟨"ControlTextModel", "down", "(III)V"⟩, 48) := ⟨⟨by decide +kernel, by decide +kernel⟩, List.mem_of_getElem? (i := 801) (by decide +kernel), List.mem_of_getElem? (i := 1074) (by decide +kernel), List.mem_of_getElem? (i := 1075) (by decide +kernel)⟩
theorem lw_p88 : lw_okq (⟨"ControlTextModel", "hang", "(II)V"⟩, 48) := ⟨⟨by decide +kernel, by decide +kernel⟩, List.mem_of_getElem? (i := 801) (by decide +kernel), List.mem_of_getElem? (i := 1078) (by decide +kernel), List.mem_of_getElem? (i := 1079) (by decide +kernel)⟩
theorem lw_p89 : lw_okq (⟨"ControlTextModel", "push4", "(IIII)V"⟩, 48) := ⟨⟨by decide +kernel, by decide +kernel⟩, List.mem_of_getElem? (i := 801) (by decide +kernel), List.mem_of_getElem? (i := 1082) (by decide +kernel), List.mem_of_getElem? (i := 1083) (by decide +kernel)⟩
theorem lw_p90 : lw_okq (⟨"ControlTextModel", "push2", "(II)V"⟩, 48) := ⟨⟨by decide +kernel, by decide +kernel⟩, List.mem_of_getElem? (i := 801) (by decide +kernel), List.mem_of_getElem? (i := 1086) (by decide +kernel), List.mem_of_getElem? (i := 1087) (by decide +kernel)⟩
theorem lw_p91 : lw_okq (⟨"ControlTextModel", "up", "()V"⟩, 48) := ⟨⟨by decide +kernel, by decide +kernel⟩, List.mem_of_getElem? (i := 801) (by decide +kernel), List.mem_of_getElem? (i := 1090) (by decide +kernel), List.mem_of_getElem? (i := 1091) (by decide +kernel)⟩
theorem lw_p92 : lw_okq (⟨"ControlTextModel", "body", "()V"⟩, 48) := ⟨⟨by decide +kernel, by decide +kernel⟩, List.mem_of_getElem? (i := 801) (by decide +kernel), List.mem_of_getElem? (i := 1094) (by decide +kernel), List.mem_of_getElem? (i := 1095) (by decide +kernel)⟩
theorem lw_p93 : lw_okq (⟨"ControlTextModel", "sections", "()V"⟩, 48) := ⟨⟨by decide +kernel, by decide +kernel⟩, List.mem_of_getElem? (i := 801) (by decide +kernel), List.mem_of_getElem? (i := 1098) (by decide +kernel), List.mem_of_getElem? (i := 1099) (by decide +kernel)⟩
theorem lw_p94 : lw_okq (⟨"ControlTextModel", "simple", "()V"⟩, 48) := ⟨⟨by decide +kernel, by decide +kernel⟩, List.mem_of_getElem? (i := 801) (by decide +kernel), List.mem_of_getElem? (i := 1102) (by decide +kernel), List.mem_of_getElem? (i := 1103) (by decide +kernel)⟩
theorem lw_p95 : lw_okq (⟨"ControlTextModel", "leaf", "(III)V"⟩, 48) := ⟨⟨by decide +kernel, by decide +kernel⟩, List.mem_of_getElem? (i := 801) (by decide +kernel), List.mem_of_getElem? (i := 1106) (by decide +kernel), List.mem_of_getElem? (i := 1107) (by decide +kernel)⟩
def lw_privs_6 : List (MethodName × Nat) := [(⟨"ControlTextModel", "readPlace", "()V"⟩, 48), (⟨"ControlTextModel", "readSign", "()V"⟩, 48), (⟨"ControlTextModel", "act", "(I)V"⟩, 48), (⟨"ControlTextModel", "pass", "(I)V"⟩, 48), (⟨"ControlTextModel", "wrong", "()V"⟩, 48), (⟨"ControlTextModel", "actBlock", "(I)V"⟩, 48), (⟨"ControlTextModel", "blocks", "()V"⟩, 48), (⟨"ControlTextModel", "down", "(III)V"⟩, 48), (⟨"ControlTextModel", "hang", "(II)V"⟩, 48), (⟨"ControlTextModel", "push4", "(IIII)V"⟩, 48), (⟨"ControlTextModel", "push2", "(II)V"⟩, 48), (⟨"ControlTextModel", "up", "()V"⟩, 48), (⟨"ControlTextModel", "body", "()V"⟩, 48), (⟨"ControlTextModel", "sections", "()V"⟩, 48), (⟨"ControlTextModel", "simple", "()V"⟩, 48), (⟨"ControlTextModel", "leaf", "(III)V"⟩, 48)]
theorem lw_r6 : ∀ q ∈ lw_privs_6, lw_okq q := List.forall_mem_cons.mpr ⟨lw_p80, List.forall_mem_cons.mpr ⟨lw_p81, List.forall_mem_cons.mpr ⟨lw_p82, List.forall_mem_cons.mpr ⟨lw_p83, List.forall_mem_cons.mpr ⟨lw_p84, List.forall_mem_cons.mpr ⟨lw_p85, List.forall_mem_cons.mpr ⟨lw_p86, List.forall_mem_cons.mpr ⟨lw_p87, List.forall_mem_cons.mpr ⟨lw_p88, List.forall_mem_cons.mpr ⟨lw_p89, List.forall_mem_cons.mpr ⟨lw_p90, List.forall_mem_cons.mpr ⟨lw_p91, List.forall_mem_cons.mpr ⟨lw_p92, List.forall_mem_cons.mpr ⟨lw_p93, List.forall_mem_cons.mpr ⟨lw_p94, List.forall_mem_cons.mpr ⟨lw_p95, fun _ h => absurd h List.not_mem_nil⟩⟩⟩⟩⟩⟩⟩⟩⟩⟩⟩⟩⟩⟩⟩⟩
theorem lw_p96 : lw_okq (⟨"ControlTextModel", "title", "()V"⟩, 48) := ⟨⟨by decide +kernel, by decide +kernel⟩, List.mem_of_getElem? (i := 801) (by decide +kernel), List.mem_of_getElem? (i := 1110) (by decide +kernel), List.mem_of_getElem? (i := 1111) (by decide +kernel)⟩
theorem lw_p97 : lw_okq (⟨"ControlTextModel", "declarations", "()V"⟩, 48) := ⟨⟨by decide +kernel, by decide +kernel⟩, List.mem_of_getElem? (i := 801) (by decide +kernel), List.mem_of_getElem? (i := 1114) (by decide +kernel), List.mem_of_getElem? (i := 1115) (by decide +kernel)⟩
theorem lw_p98 : lw_okq (⟨"ControlTextModel", "aName", "()V"⟩, 48) := ⟨⟨by decide +kernel, by decide +kernel⟩, List.mem_of_getElem? (i := 801) (by decide +kernel), List.mem_of_getElem? (i := 1118) (by decide +kernel), List.mem_of_getElem? (i := 1119) (by decide +kernel)⟩
theorem lw_p99 : lw_okq (⟨"ControlTextModel", "perhaps", "(III)V"⟩, 48) := ⟨⟨by decide +kernel, by decide +kernel⟩, List.mem_of_getElem? (i := 801) (by decide +kernel), List.mem_of_getElem? (i := 1122) (by decide +kernel), List.mem_of_getElem? (i := 1123) (by decide +kernel)⟩
theorem lw_p100 : lw_okq (⟨"ControlTextModel", "type", "()V"⟩, 48) := ⟨⟨by decide +kernel, by decide +kernel⟩, List.mem_of_getElem? (i := 801) (by decide +kernel), List.mem_of_getElem? (i := 1126) (by decide +kernel), List.mem_of_getElem? (i := 1127) (by decide +kernel)⟩
theorem lw_p101 : lw_okq (⟨"ControlTextModel", "constant", "()V"⟩, 48) := ⟨⟨by decide +kernel, by decide +kernel⟩, List.mem_of_getElem? (i := 801) (by decide +kernel), List.mem_of_getElem? (i := 1130) (by decide +kernel), List.mem_of_getElem? (i := 1131) (by decide +kernel)⟩
theorem lw_p102 : lw_okq (⟨"ControlTextModel", "lessNumber", "()V"⟩, 48) := ⟨⟨by decide +kernel, by decide +kernel⟩, List.mem_of_getElem? (i := 801) (by decide +kernel), List.mem_of_getElem? (i := 1134) (by decide +kernel), List.mem_of_getElem? (i := 1135) (by decide +kernel)⟩
theorem lw_p103 : lw_okq (⟨"ControlTextModel", "actStatement", "(I)V"⟩, 48) := ⟨⟨by decide +kernel, by decide +kernel⟩, List.mem_of_getElem? (i := 801) (by decide +kernel), List.mem_of_getElem? (i := 1138) (by decide +kernel), List.mem_of_getElem? (i := 1139) (by decide +kernel)⟩
theorem lw_p104 : lw_okq (⟨"ControlTextModel", "statements", "()V"⟩, 48) := ⟨⟨by decide +kernel, by decide +kernel⟩, List.mem_of_getElem? (i := 801) (by decide +kernel), List.mem_of_getElem? (i := 1142) (by decide +kernel), List.mem_of_getElem? (i := 1143) (by decide +kernel)⟩
theorem lw_p105 : lw_okq (⟨"ControlTextModel", "keepName", "()V"⟩, 48) := ⟨⟨by decide +kernel, by decide +kernel⟩, List.mem_of_getElem? (i := 801) (by decide +kernel), List.mem_of_getElem? (i := 1146) (by decide +kernel), List.mem_of_getElem? (i := 1147) (by decide +kernel)⟩
theorem lw_p106 : lw_okq (⟨"ControlTextModel", "opens", "()Z"⟩, 48) := ⟨⟨by decide +kernel, by decide +kernel⟩, List.mem_of_getElem? (i := 801) (by decide +kernel), List.mem_of_getElem? (i := 1150) (by decide +kernel), List.mem_of_getElem? (i := 1151) (by decide +kernel)⟩
theorem lw_p107 : lw_okq (⟨"ControlTextModel", "compound", "()V"⟩, 48) := ⟨⟨by decide +kernel, by decide +kernel⟩, List.mem_of_getElem? (i := 801) (by decide +kernel), List.mem_of_getElem? (i := 1154) (by decide +kernel), List.mem_of_getElem? (i := 1155) (by decide +kernel)⟩
theorem lw_p108 : lw_okq (⟨"ControlTextModel", "pushExpression", "()V"⟩, 48) := ⟨⟨by decide +kernel, by decide +kernel⟩, List.mem_of_getElem? (i := 801) (by decide +kernel), List.mem_of_getElem? (i := 1158) (by decide +kernel), List.mem_of_getElem? (i := 1159) (by decide +kernel)⟩
theorem lw_p109 : lw_okq (⟨"ControlTextModel", "behindName", "()V"⟩, 48) := ⟨⟨by decide +kernel, by decide +kernel⟩, List.mem_of_getElem? (i := 801) (by decide +kernel), List.mem_of_getElem? (i := 1162) (by decide +kernel), List.mem_of_getElem? (i := 1163) (by decide +kernel)⟩
theorem lw_p110 : lw_okq (⟨"ControlTextModel", "ifRest", "()V"⟩, 48) := ⟨⟨by decide +kernel, by decide +kernel⟩, List.mem_of_getElem? (i := 801) (by decide +kernel), List.mem_of_getElem? (i := 1166) (by decide +kernel), List.mem_of_getElem? (i := 1167) (by decide +kernel)⟩
theorem lw_p111 : lw_okq (⟨"ControlTextModel", "elseBody", "()V"⟩, 48) := ⟨⟨by decide +kernel, by decide +kernel⟩, List.mem_of_getElem? (i := 801) (by decide +kernel), List.mem_of_getElem? (i := 1170) (by decide +kernel), List.mem_of_getElem? (i := 1171) (by decide +kernel)⟩
def lw_privs_7 : List (MethodName × Nat) := [(⟨"ControlTextModel", "title", "()V"⟩, 48), (⟨"ControlTextModel", "declarations", "()V"⟩, 48), (⟨"ControlTextModel", "aName", "()V"⟩, 48), (⟨"ControlTextModel", "perhaps", "(III)V"⟩, 48), (⟨"ControlTextModel", "type", "()V"⟩, 48), (⟨"ControlTextModel", "constant", "()V"⟩, 48), (⟨"ControlTextModel", "lessNumber", "()V"⟩, 48), (⟨"ControlTextModel", "actStatement", "(I)V"⟩, 48), (⟨"ControlTextModel", "statements", "()V"⟩, 48), (⟨"ControlTextModel", "keepName", "()V"⟩, 48), (⟨"ControlTextModel", "opens", "()Z"⟩, 48), (⟨"ControlTextModel", "compound", "()V"⟩, 48), (⟨"ControlTextModel", "pushExpression", "()V"⟩, 48), (⟨"ControlTextModel", "behindName", "()V"⟩, 48), (⟨"ControlTextModel", "ifRest", "()V"⟩, 48), (⟨"ControlTextModel", "elseBody", "()V"⟩, 48)]
theorem lw_r7 : ∀ q ∈ lw_privs_7, lw_okq q := List.forall_mem_cons.mpr ⟨lw_p96, List.forall_mem_cons.mpr ⟨lw_p97, List.forall_mem_cons.mpr ⟨lw_p98, List.forall_mem_cons.mpr ⟨lw_p99, List.forall_mem_cons.mpr ⟨lw_p100, List.forall_mem_cons.mpr ⟨lw_p101, List.forall_mem_cons.mpr ⟨lw_p102, List.forall_mem_cons.mpr ⟨lw_p103, List.forall_mem_cons.mpr ⟨lw_p104, List.forall_mem_cons.mpr ⟨lw_p105, List.forall_mem_cons.mpr ⟨lw_p106, List.forall_mem_cons.mpr ⟨lw_p107, List.forall_mem_cons.mpr ⟨lw_p108, List.forall_mem_cons.mpr ⟨lw_p109, List.forall_mem_cons.mpr ⟨lw_p110, List.forall_mem_cons.mpr ⟨lw_p111, fun _ h => absurd h List.not_mem_nil⟩⟩⟩⟩⟩⟩⟩⟩⟩⟩⟩⟩⟩⟩⟩⟩
theorem lw_p112 : lw_okq (⟨"ControlTextModel", "bodyBehind", "(I)V"⟩, 48) := ⟨⟨by decide +kernel, by decide +kernel⟩, List.mem_of_getElem? (i := 801) (by decide +kernel), List.mem_of_getElem? (i := 1174) (by decide +kernel), List.mem_of_getElem? (i := 1175) (by decide +kernel)⟩
theorem lw_p113 : lw_okq (⟨"ControlTextModel", "choices", "()V"⟩, 48) := ⟨⟨by decide +kernel, by decide +kernel⟩, List.mem_of_getElem? (i := 801) (by decide +kernel), List.mem_of_getElem? (i := 1178) (by decide +kernel), List.mem_of_getElem? (i := 1179) (by decide +kernel)⟩
theorem lw_p114 : lw_okq (⟨"ControlTextModel", "isConstant", "()Z"⟩, 48) := ⟨⟨by decide +kernel, by decide +kernel⟩, List.mem_of_getElem? (i := 801) (by decide +kernel), List.mem_of_getElem? (i := 1182) (by decide +kernel), List.mem_of_getElem? (i := 1183) (by decide +kernel)⟩
theorem lw_p115 : lw_okq (⟨"ControlTextModel", "range", "()V"⟩, 48) := ⟨⟨by decide +kernel, by decide +kernel⟩, List.mem_of_getElem? (i := 801) (by decide +kernel), List.mem_of_getElem? (i := 1186) (by decide +kernel), List.mem_of_getElem? (i := 1187) (by decide +kernel)⟩
theorem lw_p116 : lw_okq (⟨"ControlTextModel", "assign", "()V"⟩, 48) := ⟨⟨by decide +kernel, by decide +kernel⟩, List.mem_of_getElem? (i := 801) (by decide +kernel), List.mem_of_getElem? (i := 1190) (by decide +kernel), List.mem_of_getElem? (i := 1191) (by decide +kernel)⟩
theorem lw_p117 : lw_okq (⟨"ControlTextModel", "indexEnd", "()V"⟩, 48) := ⟨⟨by decide +kernel, by decide +kernel⟩, List.mem_of_getElem? (i := 801) (by decide +kernel), List.mem_of_getElem? (i := 1194) (by decide +kernel), List.mem_of_getElem? (i := 1195) (by decide +kernel)⟩
theorem lw_p118 : lw_okq (⟨"ControlTextModel", "parameter", "()V"⟩, 48) := ⟨⟨by decide +kernel, by decide +kernel⟩, List.mem_of_getElem? (i := 801) (by decide +kernel), List.mem_of_getElem? (i := 1198) (by decide +kernel), List.mem_of_getElem? (i := 1199) (by decide +kernel)⟩
theorem lw_p119 : lw_okq (⟨"ControlTextModel", "actOperand", "(I)V"⟩, 48) := ⟨⟨by decide +kernel, by decide +kernel⟩, List.mem_of_getElem? (i := 801) (by decide +kernel), List.mem_of_getElem? (i := 1202) (by decide +kernel), List.mem_of_getElem? (i := 1203) (by decide +kernel)⟩
theorem lw_p120 : lw_okq (⟨"ControlTextModel", "expression", "()V"⟩, 48) := ⟨⟨by decide +kernel, by decide +kernel⟩, List.mem_of_getElem? (i := 801) (by decide +kernel), List.mem_of_getElem? (i := 1206) (by decide +kernel), List.mem_of_getElem? (i := 1207) (by decide +kernel)⟩
theorem lw_p121 : lw_okq (⟨"ControlTextModel", "waitFor", "(II)V"⟩, 48) := ⟨⟨by decide +kernel, by decide +kernel⟩, List.mem_of_getElem? (i := 801) (by decide +kernel), List.mem_of_getElem? (i := 1210) (by decide +kernel), List.mem_of_getElem? (i := 1211) (by decide +kernel)⟩
theorem lw_p122 : lw_okq (⟨"ControlTextModel", "anOperand", "()V"⟩, 48) := ⟨⟨by decide +kernel, by decide +kernel⟩, List.mem_of_getElem? (i := 801) (by decide +kernel), List.mem_of_getElem? (i := 1214) (by decide +kernel), List.mem_of_getElem? (i := 1215) (by decide +kernel)⟩
theorem lw_p123 : lw_okq (⟨"ControlTextModel", "operandCame", "(I)V"⟩, 48) := ⟨⟨by decide +kernel, by decide +kernel⟩, List.mem_of_getElem? (i := 801) (by decide +kernel), List.mem_of_getElem? (i := 1218) (by decide +kernel), List.mem_of_getElem? (i := 1219) (by decide +kernel)⟩
theorem lw_p124 : lw_okq (⟨"ControlTextModel", "putOperand", "(I)V"⟩, 48) := ⟨⟨by decide +kernel, by decide +kernel⟩, List.mem_of_getElem? (i := 801) (by decide +kernel), List.mem_of_getElem? (i := 1222) (by decide +kernel), List.mem_of_getElem? (i := 1223) (by decide +kernel)⟩
theorem lw_p125 : lw_okq (⟨"ControlTextModel", "settle", "()V"⟩, 48) := ⟨⟨by decide +kernel, by decide +kernel⟩, List.mem_of_getElem? (i := 801) (by decide +kernel), List.mem_of_getElem? (i := 1226) (by decide +kernel), List.mem_of_getElem? (i := 1227) (by decide +kernel)⟩
theorem lw_p126 : lw_okq (⟨"ControlTextModel", "takeOperand", "()I"⟩, 48) := ⟨⟨by decide +kernel, by decide +kernel⟩, List.mem_of_getElem? (i := 801) (by decide +kernel), List.mem_of_getElem? (i := 1230) (by decide +kernel), List.mem_of_getElem? (i := 1231) (by decide +kernel)⟩
theorem lw_p127 : lw_okq (⟨"ControlTextModel", "signRest", "()V"⟩, 48) := ⟨⟨by decide +kernel, by decide +kernel⟩, List.mem_of_getElem? (i := 801) (by decide +kernel), List.mem_of_getElem? (i := 1234) (by decide +kernel), List.mem_of_getElem? (i := 1235) (by decide +kernel)⟩
def lw_privs_8 : List (MethodName × Nat) := [(⟨"ControlTextModel", "bodyBehind", "(I)V"⟩, 48), (⟨"ControlTextModel", "choices", "()V"⟩, 48), (⟨"ControlTextModel", "isConstant", "()Z"⟩, 48), (⟨"ControlTextModel", "range", "()V"⟩, 48), (⟨"ControlTextModel", "assign", "()V"⟩, 48), (⟨"ControlTextModel", "indexEnd", "()V"⟩, 48), (⟨"ControlTextModel", "parameter", "()V"⟩, 48), (⟨"ControlTextModel", "actOperand", "(I)V"⟩, 48), (⟨"ControlTextModel", "expression", "()V"⟩, 48), (⟨"ControlTextModel", "waitFor", "(II)V"⟩, 48), (⟨"ControlTextModel", "anOperand", "()V"⟩, 48), (⟨"ControlTextModel", "operandCame", "(I)V"⟩, 48), (⟨"ControlTextModel", "putOperand", "(I)V"⟩, 48), (⟨"ControlTextModel", "settle", "()V"⟩, 48), (⟨"ControlTextModel", "takeOperand", "()I"⟩, 48), (⟨"ControlTextModel", "signRest", "()V"⟩, 48)]
theorem lw_r8 : ∀ q ∈ lw_privs_8, lw_okq q := List.forall_mem_cons.mpr ⟨lw_p112, List.forall_mem_cons.mpr ⟨lw_p113, List.forall_mem_cons.mpr ⟨lw_p114, List.forall_mem_cons.mpr ⟨lw_p115, List.forall_mem_cons.mpr ⟨lw_p116, List.forall_mem_cons.mpr ⟨lw_p117, List.forall_mem_cons.mpr ⟨lw_p118, List.forall_mem_cons.mpr ⟨lw_p119, List.forall_mem_cons.mpr ⟨lw_p120, List.forall_mem_cons.mpr ⟨lw_p121, List.forall_mem_cons.mpr ⟨lw_p122, List.forall_mem_cons.mpr ⟨lw_p123, List.forall_mem_cons.mpr ⟨lw_p124, List.forall_mem_cons.mpr ⟨lw_p125, List.forall_mem_cons.mpr ⟨lw_p126, List.forall_mem_cons.mpr ⟨lw_p127, fun _ h => absurd h List.not_mem_nil⟩⟩⟩⟩⟩⟩⟩⟩⟩⟩⟩⟩⟩⟩⟩⟩
theorem lw_p128 : lw_okq (⟨"ControlTextModel", "signAt", "()I"⟩, 48) := ⟨⟨by decide +kernel, by decide +kernel⟩, List.mem_of_getElem? (i := 801) (by decide +kernel), List.mem_of_getElem? (i := 1238) (by decide +kernel), List.mem_of_getElem? (i := 1239) (by decide +kernel)⟩
theorem lw_p129 : lw_okq (⟨"ControlTextModel", "groupEnd", "()V"⟩, 48) := ⟨⟨by decide +kernel, by decide +kernel⟩, List.mem_of_getElem? (i := 801) (by decide +kernel), List.mem_of_getElem? (i := 1245) (by decide +kernel), List.mem_of_getElem? (i := 1246) (by decide +kernel)⟩
theorem lw_p130 : lw_okq (⟨"ControlTextModel", "behindOperand", "()V"⟩, 48) := ⟨⟨by decide +kernel, by decide +kernel⟩, List.mem_of_getElem? (i := 801) (by decide +kernel), List.mem_of_getElem? (i := 1249) (by decide +kernel), List.mem_of_getElem? (i := 1250) (by decide +kernel)⟩
theorem lw_p131 : lw_okq (⟨"ControlTextModel", "start", "(I)V"⟩, 48) := ⟨⟨by decide +kernel, by decide +kernel⟩, List.mem_of_getElem? (i := 801) (by decide +kernel), List.mem_of_getElem? (i := 1253) (by decide +kernel), List.mem_of_getElem? (i := 1254) (by decide +kernel)⟩
theorem lw_p132 : lw_okq (⟨"ControlTextModel", "elementEnd", "()V"⟩, 48) := ⟨⟨by decide +kernel, by decide +kernel⟩, List.mem_of_getElem? (i := 801) (by decide +kernel), List.mem_of_getElem? (i := 1257) (by decide +kernel), List.mem_of_getElem? (i := 1258) (by decide +kernel)⟩
theorem lw_p133 : lw_okq (⟨"ControlTextModel", "argument", "()V"⟩, 48) := ⟨⟨by decide +kernel, by decide +kernel⟩, List.mem_of_getElem? (i := 801) (by decide +kernel), List.mem_of_getElem? (i := 1261) (by decide +kernel), List.mem_of_getElem? (i := 1262) (by decide +kernel)⟩
theorem lw_p134 : lw_okq (⟨"ControlTextModel", "finish", "()V"⟩, 48) := ⟨⟨by decide +kernel, by decide +kernel⟩, List.mem_of_getElem? (i := 801) (by decide +kernel), List.mem_of_getElem? (i := 1265) (by decide +kernel), List.mem_of_getElem? (i := 1266) (by decide +kernel)⟩
theorem lw_p135 : lw_okq (⟨"ControlTextModel", "output", "()V"⟩, 48) := ⟨⟨by decide +kernel, by decide +kernel⟩, List.mem_of_getElem? (i := 801) (by decide +kernel), List.mem_of_getElem? (i := 1269) (by decide +kernel), List.mem_of_getElem? (i := 1270) (by decide +kernel)⟩
theorem lw_p136 : lw_okq (⟨"ControlTextModel", "isOperand", "()Z"⟩, 48) := ⟨⟨by decide +kernel, by decide +kernel⟩, List.mem_of_getElem? (i := 801) (by decide +kernel), List.mem_of_getElem? (i := 1273) (by decide +kernel), List.mem_of_getElem? (i := 1274) (by decide +kernel)⟩
theorem lw_p137 : lw_okq (⟨"ControlTextModel", "pushArgument", "()V"⟩, 48) := ⟨⟨by decide +kernel, by decide +kernel⟩, List.mem_of_getElem? (i := 801) (by decide +kernel), List.mem_of_getElem? (i := 1277) (by decide +kernel), List.mem_of_getElem? (i := 1278) (by decide +kernel)⟩
theorem lw_p138 : lw_okq (⟨"ControlTextModel", "resultEnd", "()V"⟩, 48) := ⟨⟨by decide +kernel, by decide +kernel⟩, List.mem_of_getElem? (i := 801) (by decide +kernel), List.mem_of_getElem? (i := 1281) (by decide +kernel), List.mem_of_getElem? (i := 1282) (by decide +kernel)⟩
theorem lw_p139 : lw_okq (⟨"ControlTextModel", "actRung", "(I)V"⟩, 48) := ⟨⟨by decide +kernel, by decide +kernel⟩, List.mem_of_getElem? (i := 801) (by decide +kernel), List.mem_of_getElem? (i := 1285) (by decide +kernel), List.mem_of_getElem? (i := 1286) (by decide +kernel)⟩
theorem lw_p140 : lw_okq (⟨"ControlTextModel", "isCell", "()Z"⟩, 48) := ⟨⟨by decide +kernel, by decide +kernel⟩, List.mem_of_getElem? (i := 801) (by decide +kernel), List.mem_of_getElem? (i := 1289) (by decide +kernel), List.mem_of_getElem? (i := 1290) (by decide +kernel)⟩
theorem lw_p141 : lw_okq (⟨"ControlTextModel", "cell", "()V"⟩, 48) := ⟨⟨by decide +kernel, by decide +kernel⟩, List.mem_of_getElem? (i := 801) (by decide +kernel), List.mem_of_getElem? (i := 1293) (by decide +kernel), List.mem_of_getElem? (i := 1294) (by decide +kernel)⟩
theorem lw_p142 : lw_okq (⟨"ControlTextModel", "moreCells", "()V"⟩, 48) := ⟨⟨by decide +kernel, by decide +kernel⟩, List.mem_of_getElem? (i := 801) (by decide +kernel), List.mem_of_getElem? (i := 1297) (by decide +kernel), List.mem_of_getElem? (i := 1298) (by decide +kernel)⟩
theorem lw_p143 : lw_okq (⟨"ControlTextModel", "contact", "()V"⟩, 48) := ⟨⟨by decide +kernel, by decide +kernel⟩, List.mem_of_getElem? (i := 801) (by decide +kernel), List.mem_of_getElem? (i := 1301) (by decide +kernel), List.mem_of_getElem? (i := 1302) (by decide +kernel)⟩
def lw_privs_9 : List (MethodName × Nat) := [(⟨"ControlTextModel", "signAt", "()I"⟩, 48), (⟨"ControlTextModel", "groupEnd", "()V"⟩, 48), (⟨"ControlTextModel", "behindOperand", "()V"⟩, 48), (⟨"ControlTextModel", "start", "(I)V"⟩, 48), (⟨"ControlTextModel", "elementEnd", "()V"⟩, 48), (⟨"ControlTextModel", "argument", "()V"⟩, 48), (⟨"ControlTextModel", "finish", "()V"⟩, 48), (⟨"ControlTextModel", "output", "()V"⟩, 48), (⟨"ControlTextModel", "isOperand", "()Z"⟩, 48), (⟨"ControlTextModel", "pushArgument", "()V"⟩, 48), (⟨"ControlTextModel", "resultEnd", "()V"⟩, 48), (⟨"ControlTextModel", "actRung", "(I)V"⟩, 48), (⟨"ControlTextModel", "isCell", "()Z"⟩, 48), (⟨"ControlTextModel", "cell", "()V"⟩, 48), (⟨"ControlTextModel", "moreCells", "()V"⟩, 48), (⟨"ControlTextModel", "contact", "()V"⟩, 48)]
theorem lw_r9 : ∀ q ∈ lw_privs_9, lw_okq q := List.forall_mem_cons.mpr ⟨lw_p128, List.forall_mem_cons.mpr ⟨lw_p129, List.forall_mem_cons.mpr ⟨lw_p130, List.forall_mem_cons.mpr ⟨lw_p131, List.forall_mem_cons.mpr ⟨lw_p132, List.forall_mem_cons.mpr ⟨lw_p133, List.forall_mem_cons.mpr ⟨lw_p134, List.forall_mem_cons.mpr ⟨lw_p135, List.forall_mem_cons.mpr ⟨lw_p136, List.forall_mem_cons.mpr ⟨lw_p137, List.forall_mem_cons.mpr ⟨lw_p138, List.forall_mem_cons.mpr ⟨lw_p139, List.forall_mem_cons.mpr ⟨lw_p140, List.forall_mem_cons.mpr ⟨lw_p141, List.forall_mem_cons.mpr ⟨lw_p142, List.forall_mem_cons.mpr ⟨lw_p143, fun _ h => absurd h List.not_mem_nil⟩⟩⟩⟩⟩⟩⟩⟩⟩⟩⟩⟩⟩⟩⟩⟩
theorem lw_p144 : lw_okq (⟨"ControlTextModel", "behindContact", "()V"⟩, 48) := ⟨⟨by decide +kernel, by decide +kernel⟩, List.mem_of_getElem? (i := 801) (by decide +kernel), List.mem_of_getElem? (i := 1305) (by decide +kernel), List.mem_of_getElem? (i := 1306) (by decide +kernel)⟩
theorem lw_p145 : lw_okq (⟨"ControlTextModel", "coil", "()V"⟩, 48) := ⟨⟨by decide +kernel, by decide +kernel⟩, List.mem_of_getElem? (i := 801) (by decide +kernel), List.mem_of_getElem? (i := 1309) (by decide +kernel), List.mem_of_getElem? (i := 1310) (by decide +kernel)⟩
theorem lw_p146 : lw_okq (⟨"ControlTextModel", "number", "()V"⟩, 48) := ⟨⟨by decide +kernel, by decide +kernel⟩, List.mem_of_getElem? (i := 801) (by decide +kernel), List.mem_of_getElem? (i := 1313) (by decide +kernel), List.mem_of_getElem? (i := 1314) (by decide +kernel)⟩
theorem lw_p147 : lw_okq (⟨"ControlTextModel", "following", "(I)I"⟩, 48) := ⟨⟨by decide +kernel, by decide +kernel⟩, List.mem_of_getElem? (i := 801) (by decide +kernel), List.mem_of_getElem? (i := 1317) (by decide +kernel), List.mem_of_getElem? (i := 1318) (by decide +kernel)⟩
theorem lw_p148 : lw_okq (⟨"ControlTextModel", "children", "(I)I"⟩, 48) := ⟨⟨by decide +kernel, by decide +kernel⟩, List.mem_of_getElem? (i := 801) (by decide +kernel), List.mem_of_getElem? (i := 1329) (by decide +kernel), List.mem_of_getElem? (i := 1330) (by decide +kernel)⟩
theorem lw_p149 : lw_okq (⟨"ControlTextModel", "item", "(II)V"⟩, 48) := ⟨⟨by decide +kernel, by decide +kernel⟩, List.mem_of_getElem? (i := 801) (by decide +kernel), List.mem_of_getElem? (i := 1341) (by decide +kernel), List.mem_of_getElem? (i := 1342) (by decide +kernel)⟩
theorem lw_p150 : lw_okq (⟨"ControlTextModel", "openItem", "(II)V"⟩, 48) := ⟨⟨by decide +kernel, by decide +kernel⟩, List.mem_of_getElem? (i := 801) (by decide +kernel), List.mem_of_getElem? (i := 1345) (by decide +kernel), List.mem_of_getElem? (i := 1346) (by decide +kernel)⟩
theorem lw_p151 : lw_okq (⟨"ControlTextModel", "putToken", "(I)V"⟩, 48) := ⟨⟨by decide +kernel, by decide +kernel⟩, List.mem_of_getElem? (i := 801) (by decide +kernel), List.mem_of_getElem? (i := 1349) (by decide +kernel), List.mem_of_getElem? (i := 1350) (by decide +kernel)⟩
theorem lw_p152 : lw_okq (⟨"ControlTextModel", "part", "(I)V"⟩, 48) := ⟨⟨by decide +kernel, by decide +kernel⟩, List.mem_of_getElem? (i := 801) (by decide +kernel), List.mem_of_getElem? (i := 1353) (by decide +kernel), List.mem_of_getElem? (i := 1354) (by decide +kernel)⟩
theorem lw_p153 : lw_okq (⟨"ControlTextModel", "put", "(I)V"⟩, 48) := ⟨⟨by decide +kernel, by decide +kernel⟩, List.mem_of_getElem? (i := 801) (by decide +kernel), List.mem_of_getElem? (i := 1360) (by decide +kernel), List.mem_of_getElem? (i := 1361) (by decide +kernel)⟩
theorem lw_p154 : lw_okq (⟨"ControlTextModel", "putName", "(I)V"⟩, 48) := ⟨⟨by decide +kernel, by decide +kernel⟩, List.mem_of_getElem? (i := 801) (by decide +kernel), List.mem_of_getElem? (i := 1364) (by decide +kernel), List.mem_of_getElem? (i := 1365) (by decide +kernel)⟩
theorem lw_p155 : lw_okq (⟨"ControlTextModel", "openParts", "(I)V"⟩, 48) := ⟨⟨by decide +kernel, by decide +kernel⟩, List.mem_of_getElem? (i := 801) (by decide +kernel), List.mem_of_getElem? (i := 1368) (by decide +kernel), List.mem_of_getElem? (i := 1369) (by decide +kernel)⟩
theorem lw_p156 : lw_okq (⟨"ControlTextModel", "openNode", "(I)V"⟩, 48) := ⟨⟨by decide +kernel, by decide +kernel⟩, List.mem_of_getElem? (i := 801) (by decide +kernel), List.mem_of_getElem? (i := 1372) (by decide +kernel), List.mem_of_getElem? (i := 1373) (by decide +kernel)⟩
theorem lw_p157 : lw_okq (⟨"ControlTextModel", "openBlock", "(I)V"⟩, 48) := ⟨⟨by decide +kernel, by decide +kernel⟩, List.mem_of_getElem? (i := 801) (by decide +kernel), List.mem_of_getElem? (i := 1376) (by decide +kernel), List.mem_of_getElem? (i := 1377) (by decide +kernel)⟩
theorem lw_p158 : lw_okq (⟨"ControlTextModel", "itemBlock", "(III)V"⟩, 48) := ⟨⟨by decide +kernel, by decide +kernel⟩, List.mem_of_getElem? (i := 801) (by decide +kernel), List.mem_of_getElem? (i := 1380) (by decide +kernel), List.mem_of_getElem? (i := 1381) (by decide +kernel)⟩
theorem lw_p159 : lw_okq (⟨"ControlTextModel", "second", "(I)I"⟩, 48) := ⟨⟨by decide +kernel, by decide +kernel⟩, List.mem_of_getElem? (i := 801) (by decide +kernel), List.mem_of_getElem? (i := 1384) (by decide +kernel), List.mem_of_getElem? (i := 1385) (by decide +kernel)⟩
def lw_privs_10 : List (MethodName × Nat) := [(⟨"ControlTextModel", "behindContact", "()V"⟩, 48), (⟨"ControlTextModel", "coil", "()V"⟩, 48), (⟨"ControlTextModel", "number", "()V"⟩, 48), (⟨"ControlTextModel", "following", "(I)I"⟩, 48), (⟨"ControlTextModel", "children", "(I)I"⟩, 48), (⟨"ControlTextModel", "item", "(II)V"⟩, 48), (⟨"ControlTextModel", "openItem", "(II)V"⟩, 48), (⟨"ControlTextModel", "putToken", "(I)V"⟩, 48), (⟨"ControlTextModel", "part", "(I)V"⟩, 48), (⟨"ControlTextModel", "put", "(I)V"⟩, 48), (⟨"ControlTextModel", "putName", "(I)V"⟩, 48), (⟨"ControlTextModel", "openParts", "(I)V"⟩, 48), (⟨"ControlTextModel", "openNode", "(I)V"⟩, 48), (⟨"ControlTextModel", "openBlock", "(I)V"⟩, 48), (⟨"ControlTextModel", "itemBlock", "(III)V"⟩, 48), (⟨"ControlTextModel", "second", "(I)I"⟩, 48)]
theorem lw_r10 : ∀ q ∈ lw_privs_10, lw_okq q := List.forall_mem_cons.mpr ⟨lw_p144, List.forall_mem_cons.mpr ⟨lw_p145, List.forall_mem_cons.mpr ⟨lw_p146, List.forall_mem_cons.mpr ⟨lw_p147, List.forall_mem_cons.mpr ⟨lw_p148, List.forall_mem_cons.mpr ⟨lw_p149, List.forall_mem_cons.mpr ⟨lw_p150, List.forall_mem_cons.mpr ⟨lw_p151, List.forall_mem_cons.mpr ⟨lw_p152, List.forall_mem_cons.mpr ⟨lw_p153, List.forall_mem_cons.mpr ⟨lw_p154, List.forall_mem_cons.mpr ⟨lw_p155, List.forall_mem_cons.mpr ⟨lw_p156, List.forall_mem_cons.mpr ⟨lw_p157, List.forall_mem_cons.mpr ⟨lw_p158, List.forall_mem_cons.mpr ⟨lw_p159, fun _ h => absurd h List.not_mem_nil⟩⟩⟩⟩⟩⟩⟩⟩⟩⟩⟩⟩⟩⟩⟩⟩
theorem lw_p160 : lw_okq (⟨"ControlTextModel", "itemAll", "(IIII)V"⟩, 48) := ⟨⟨by decide +kernel, by decide +kernel⟩, List.mem_of_getElem? (i := 801) (by decide +kernel), List.mem_of_getElem? (i := 1388) (by decide +kernel), List.mem_of_getElem? (i := 1389) (by decide +kernel)⟩
theorem lw_p161 : lw_okq (⟨"ControlTextModel", "putPlace", "(I)V"⟩, 48) := ⟨⟨by decide +kernel, by decide +kernel⟩, List.mem_of_getElem? (i := 801) (by decide +kernel), List.mem_of_getElem? (i := 1392) (by decide +kernel), List.mem_of_getElem? (i := 1393) (by decide +kernel)⟩
theorem lw_p162 : lw_okq (⟨"ControlTextModel", "itemArray", "(I)V"⟩, 48) := ⟨⟨by decide +kernel, by decide +kernel⟩, List.mem_of_getElem? (i := 801) (by decide +kernel), List.mem_of_getElem? (i := 1396) (by decide +kernel), List.mem_of_getElem? (i := 1397) (by decide +kernel)⟩
theorem lw_p163 : lw_okq (⟨"ControlTextModel", "openStatement", "(I)V"⟩, 48) := ⟨⟨by decide +kernel, by decide +kernel⟩, List.mem_of_getElem? (i := 801) (by decide +kernel), List.mem_of_getElem? (i := 1400) (by decide +kernel), List.mem_of_getElem? (i := 1401) (by decide +kernel)⟩
theorem lw_p164 : lw_okq (⟨"ControlTextModel", "itemFor", "(I)V"⟩, 48) := ⟨⟨by decide +kernel, by decide +kernel⟩, List.mem_of_getElem? (i := 801) (by decide +kernel), List.mem_of_getElem? (i := 1404) (by decide +kernel), List.mem_of_getElem? (i := 1405) (by decide +kernel)⟩
theorem lw_p165 : lw_okq (⟨"ControlTextModel", "openRung", "(I)V"⟩, 48) := ⟨⟨by decide +kernel, by decide +kernel⟩, List.mem_of_getElem? (i := 801) (by decide +kernel), List.mem_of_getElem? (i := 1408) (by decide +kernel), List.mem_of_getElem? (i := 1409) (by decide +kernel)⟩
theorem lw_p166 : lw_okq (⟨"ControlTextModel", "openOperand", "(I)V"⟩, 48) := ⟨⟨by decide +kernel, by decide +kernel⟩, List.mem_of_getElem? (i := 801) (by decide +kernel), List.mem_of_getElem? (i := 1412) (by decide +kernel), List.mem_of_getElem? (i := 1413) (by decide +kernel)⟩
theorem lw_p167 : lw_okq (⟨"ControlTextModel", "putNumber", "(I)V"⟩, 48) := ⟨⟨by decide +kernel, by decide +kernel⟩, List.mem_of_getElem? (i := 801) (by decide +kernel), List.mem_of_getElem? (i := 1416) (by decide +kernel), List.mem_of_getElem? (i := 1417) (by decide +kernel)⟩
theorem lw_p168 : lw_okq (⟨"ControlTextModel", "itemOperand", "(IIZ)V"⟩, 48) := ⟨⟨by decide +kernel, by decide +kernel⟩, List.mem_of_getElem? (i := 801) (by decide +kernel), List.mem_of_getElem? (i := 1422) (by decide +kernel), List.mem_of_getElem? (i := 1423) (by decide +kernel)⟩
theorem lw_p169 : lw_okq (⟨"ControlTextModel", "openIf", "(I)V"⟩, 48) := ⟨⟨by decide +kernel, by decide +kernel⟩, List.mem_of_getElem? (i := 801) (by decide +kernel), List.mem_of_getElem? (i := 1429) (by decide +kernel), List.mem_of_getElem? (i := 1430) (by decide +kernel)⟩
theorem lw_p170 : lw_okq (⟨"ControlTextModel", "openCase", "(I)V"⟩, 48) := ⟨⟨by decide +kernel, by decide +kernel⟩, List.mem_of_getElem? (i := 801) (by decide +kernel), List.mem_of_getElem? (i := 1433) (by decide +kernel), List.mem_of_getElem? (i := 1434) (by decide +kernel)⟩
theorem lw_p171 : lw_okq (⟨"ControlTextModel", "openRow", "(II)V"⟩, 48) := ⟨⟨by decide +kernel, by decide +kernel⟩, List.mem_of_getElem? (i := 801) (by decide +kernel), List.mem_of_getElem? (i := 1437) (by decide +kernel), List.mem_of_getElem? (i := 1438) (by decide +kernel)⟩
def lw_privs_11 : List (MethodName × Nat) := [(⟨"ControlTextModel", "itemAll", "(IIII)V"⟩, 48), (⟨"ControlTextModel", "putPlace", "(I)V"⟩, 48), (⟨"ControlTextModel", "itemArray", "(I)V"⟩, 48), (⟨"ControlTextModel", "openStatement", "(I)V"⟩, 48), (⟨"ControlTextModel", "itemFor", "(I)V"⟩, 48), (⟨"ControlTextModel", "openRung", "(I)V"⟩, 48), (⟨"ControlTextModel", "openOperand", "(I)V"⟩, 48), (⟨"ControlTextModel", "putNumber", "(I)V"⟩, 48), (⟨"ControlTextModel", "itemOperand", "(IIZ)V"⟩, 48), (⟨"ControlTextModel", "openIf", "(I)V"⟩, 48), (⟨"ControlTextModel", "openCase", "(I)V"⟩, 48), (⟨"ControlTextModel", "openRow", "(II)V"⟩, 48)]
theorem lw_r11 : ∀ q ∈ lw_privs_11, lw_okq q := List.forall_mem_cons.mpr ⟨lw_p160, List.forall_mem_cons.mpr ⟨lw_p161, List.forall_mem_cons.mpr ⟨lw_p162, List.forall_mem_cons.mpr ⟨lw_p163, List.forall_mem_cons.mpr ⟨lw_p164, List.forall_mem_cons.mpr ⟨lw_p165, List.forall_mem_cons.mpr ⟨lw_p166, List.forall_mem_cons.mpr ⟨lw_p167, List.forall_mem_cons.mpr ⟨lw_p168, List.forall_mem_cons.mpr ⟨lw_p169, List.forall_mem_cons.mpr ⟨lw_p170, List.forall_mem_cons.mpr ⟨lw_p171, fun _ h => absurd h List.not_mem_nil⟩⟩⟩⟩⟩⟩⟩⟩⟩⟩⟩⟩
def lw_privs : List (MethodName × Nat) := lw_privs_1 ++ (lw_privs_2 ++ (lw_privs_3 ++ (lw_privs_4 ++ (lw_privs_5 ++ (lw_privs_6 ++ (lw_privs_7 ++ (lw_privs_8 ++ (lw_privs_9 ++ (lw_privs_10 ++ (lw_privs_11))))))))))
def lw_tbl : List Cond := k2_sels lw_privs ++ tables_1
theorem lw_privs_ok : ∀ q ∈ lw_privs, lw_okq q := by
  show ∀ q ∈ lw_privs_1 ++ (lw_privs_2 ++ (lw_privs_3 ++ (lw_privs_4 ++ (lw_privs_5 ++ (lw_privs_6 ++ (lw_privs_7 ++ (lw_privs_8 ++ (lw_privs_9 ++ (lw_privs_10 ++ (lw_privs_11)))))))))), lw_okq q
  exact List.forall_mem_append.mpr ⟨lw_r1, List.forall_mem_append.mpr ⟨lw_r2, List.forall_mem_append.mpr ⟨lw_r3, List.forall_mem_append.mpr ⟨lw_r4, List.forall_mem_append.mpr ⟨lw_r5, List.forall_mem_append.mpr ⟨lw_r6, List.forall_mem_append.mpr ⟨lw_r7, List.forall_mem_append.mpr ⟨lw_r8, List.forall_mem_append.mpr ⟨lw_r9, List.forall_mem_append.mpr ⟨lw_r10, lw_r11⟩⟩⟩⟩⟩⟩⟩⟩⟩⟩
end
section
abbrev RX0 : String := "ControlText$Bytes"
def TX0 : u_T := fun k => match k with
  | 0 => ("ControlText$Bytes", "bytes", "[I", true)
  | _ => ("ControlText$Bytes", "size", "I", false)
def tyX0 : Nat → FieldType := fun k => match k with
  | 0 => .array .int
  | _ => .int
theorem nmX0 : ∀ a, a < 2 → ∀ b, b < 2 → a ≠ b → (TX0 a).2.1 ≠ (TX0 b).2.1 := by decide +kernel
theorem tyX0_ok : ∀ k, k < 2 → parseFieldDescriptor (TX0 k).2.2.1 = some (tyX0 k) := by decide +kernel
abbrev RX1 : String := "ControlText$Names"
def TX1 : u_T := fun k => match k with
  | 0 => ("ControlText$Names", "letters", "[I", true)
  | 1 => ("ControlText$Names", "starts", "[I", true)
  | 2 => ("ControlText$Names", "slotOf", "[I", true)
  | 3 => ("ControlText$Names", "slots", "[I", true)
  | 4 => ("ControlText$Names", "size", "I", false)
  | _ => ("ControlText$Names", "used", "I", false)
def tyX1 : Nat → FieldType := fun k => match k with
  | 0 => .array .int
  | 1 => .array .int
  | 2 => .array .int
  | 3 => .array .int
  | 4 => .int
  | _ => .int
theorem nmX1 : ∀ a, a < 6 → ∀ b, b < 6 → a ≠ b → (TX1 a).2.1 ≠ (TX1 b).2.1 := by decide +kernel
theorem tyX1_ok : ∀ k, k < 6 → parseFieldDescriptor (TX1 k).2.2.1 = some (tyX1 k) := by decide +kernel
abbrev RX2 : String := "ControlText$Tokens"
def TX2 : u_T := fun k => match k with
  | 0 => ("ControlText$Tokens", "text", "LControlText$Bytes;", true)
  | 1 => ("ControlText$Tokens", "names", "LControlText$Names;", true)
  | 2 => ("ControlText$Tokens", "kinds", "[I", true)
  | 3 => ("ControlText$Tokens", "places", "[I", true)
  | 4 => ("ControlText$Tokens", "values", "[I", true)
  | 5 => ("ControlText$Tokens", "size", "I", false)
  | _ => ("ControlText$Tokens", "at", "I", false)
def tyX2 : Nat → FieldType := fun k => match k with
  | 0 => .object "ControlText$Bytes"
  | 1 => .object "ControlText$Names"
  | 2 => .array .int
  | 3 => .array .int
  | 4 => .array .int
  | 5 => .int
  | _ => .int
theorem nmX2 : ∀ a, a < 7 → ∀ b, b < 7 → a ≠ b → (TX2 a).2.1 ≠ (TX2 b).2.1 := by decide +kernel
theorem tyX2_ok : ∀ k, k < 7 → parseFieldDescriptor (TX2 k).2.2.1 = some (tyX2 k) := by decide +kernel
abbrev RX3 : String := "ControlText$Tree"
def TX3 : u_T := fun k => match k with
  | 0 => ("ControlText$Tree", "kinds", "[I", true)
  | 1 => ("ControlText$Tree", "places", "[I", true)
  | 2 => ("ControlText$Tree", "values", "[I", true)
  | 3 => ("ControlText$Tree", "children", "[I", true)
  | 4 => ("ControlText$Tree", "parents", "[I", true)
  | 5 => ("ControlText$Tree", "ranks", "[I", true)
  | 6 => ("ControlText$Tree", "met", "[I", true)
  | _ => ("ControlText$Tree", "size", "I", false)
def tyX3 : Nat → FieldType := fun k => match k with
  | 0 => .array .int
  | 1 => .array .int
  | 2 => .array .int
  | 3 => .array .int
  | 4 => .array .int
  | 5 => .array .int
  | 6 => .array .int
  | _ => .int
theorem nmX3 : ∀ a, a < 8 → ∀ b, b < 8 → a ≠ b → (TX3 a).2.1 ≠ (TX3 b).2.1 := by decide +kernel
theorem tyX3_ok : ∀ k, k < 8 → parseFieldDescriptor (TX3 k).2.2.1 = some (tyX3 k) := by decide +kernel
abbrev RX4 : String := "ControlText$Parser"
def TX4 : u_T := fun k => match k with
  | 0 => ("ControlText$Parser", "tokens", "LControlText$Tokens;", true)
  | 1 => ("ControlText$Parser", "tree", "LControlText$Tree;", true)
  | 2 => ("ControlText$Parser", "at", "I", false)
  | 3 => ("ControlText$Parser", "kind", "I", false)
  | 4 => ("ControlText$Parser", "place", "I", false)
  | 5 => ("ControlText$Parser", "value", "I", false)
  | 6 => ("ControlText$Parser", "placeBefore", "I", false)
  | 7 => ("ControlText$Parser", "signs", "I", false)
  | 8 => ("ControlText$Parser", "open", "I", false)
  | 9 => ("ControlText$Parser", "tooDeep", "Z", false)
  | 10 => ("ControlText$Parser", "fault", "I", false)
  | _ => ("ControlText$Parser", "faultPlace", "I", false)
def tyX4 : Nat → FieldType := fun k => match k with
  | 0 => .object "ControlText$Tokens"
  | 1 => .object "ControlText$Tree"
  | 2 => .int
  | 3 => .int
  | 4 => .int
  | 5 => .int
  | 6 => .int
  | 7 => .int
  | 8 => .int
  | 9 => .boolean
  | 10 => .int
  | _ => .int
theorem nmX4 : ∀ a, a < 12 → ∀ b, b < 12 → a ≠ b → (TX4 a).2.1 ≠ (TX4 b).2.1 := by decide +kernel
theorem tyX4_ok : ∀ k, k < 12 → parseFieldDescriptor (TX4 k).2.2.1 = some (tyX4 k) := by decide +kernel
abbrev RX5 : String := "ControlText$Writer"
def TX5 : u_T := fun k => match k with
  | 0 => ("ControlText$Writer", "tree", "LControlText$Tree;", true)
  | 1 => ("ControlText$Writer", "names", "LControlText$Names;", true)
  | _ => ("ControlText$Writer", "out", "LControlText$Bytes;", true)
def tyX5 : Nat → FieldType := fun k => match k with
  | 0 => .object "ControlText$Tree"
  | 1 => .object "ControlText$Names"
  | _ => .object "ControlText$Bytes"
theorem nmX5 : ∀ a, a < 3 → ∀ b, b < 3 → a ≠ b → (TX5 a).2.1 ≠ (TX5 b).2.1 := by decide +kernel
theorem tyX5_ok : ∀ k, k < 3 → parseFieldDescriptor (TX5 k).2.2.1 = some (tyX5 k) := by decide +kernel
abbrev RX6 : String := "ControlText"
def TX6 : u_T := fun k => match k with
  | 0 => ("ControlText", "text", "LControlText$Bytes;", true)
  | 1 => ("ControlText", "written", "LControlText$Bytes;", true)
  | 2 => ("ControlText", "names", "LControlText$Names;", true)
  | 3 => ("ControlText", "tokens", "LControlText$Tokens;", true)
  | 4 => ("ControlText", "tree", "LControlText$Tree;", true)
  | 5 => ("ControlText", "parser", "LControlText$Parser;", true)
  | _ => ("ControlText", "writer", "LControlText$Writer;", true)
def tyX6 : Nat → FieldType := fun k => match k with
  | 0 => .object "ControlText$Bytes"
  | 1 => .object "ControlText$Bytes"
  | 2 => .object "ControlText$Names"
  | 3 => .object "ControlText$Tokens"
  | 4 => .object "ControlText$Tree"
  | 5 => .object "ControlText$Parser"
  | _ => .object "ControlText$Writer"
theorem nmX6 : ∀ a, a < 7 → ∀ b, b < 7 → a ≠ b → (TX6 a).2.1 ≠ (TX6 b).2.1 := by decide +kernel
theorem tyX6_ok : ∀ k, k < 7 → parseFieldDescriptor (TX6 k).2.2.1 = some (tyX6 k) := by decide +kernel
abbrev RX7 : String := "ControlText$Sign"
def TX7 : u_T := fun k => match k with
  | _ => ("", "", "", false)
def tyX7 : Nat → FieldType := fun k => match k with
  | _ => .int
abbrev RX8 : String := "ControlTextModel"
def TX8 : u_T := fun k => match k with
  | 0 => ("ControlTextModel", "letters", "[I", true)
  | 1 => ("ControlTextModel", "wordAt", "[I", true)
  | 2 => ("ControlTextModel", "signs", "[I", true)
  | 3 => ("ControlTextModel", "places", "[I", true)
  | 4 => ("ControlTextModel", "size", "I", false)
  | 5 => ("ControlTextModel", "text", "[I", true)
  | 6 => ("ControlTextModel", "begin", "I", false)
  | 7 => ("ControlTextModel", "token", "I", false)
  | 8 => ("ControlTextModel", "worth", "I", false)
  | 9 => ("ControlTextModel", "next", "I", false)
  | 10 => ("ControlTextModel", "lastPlace", "I", false)
  | 11 => ("ControlTextModel", "fault", "I", false)
  | 12 => ("ControlTextModel", "faultPlace", "I", false)
  | 13 => ("ControlTextModel", "names", "I", false)
  | 14 => ("ControlTextModel", "nameAt", "[I", true)
  | 15 => ("ControlTextModel", "nameBytes", "[I", true)
  | 16 => ("ControlTextModel", "nodes", "I", false)
  | 17 => ("ControlTextModel", "kinds", "[I", true)
  | 18 => ("ControlTextModel", "where", "[I", true)
  | 19 => ("ControlTextModel", "values", "[I", true)
  | 20 => ("ControlTextModel", "parents", "[I", true)
  | 21 => ("ControlTextModel", "firsts", "[I", true)
  | 22 => ("ControlTextModel", "lasts", "[I", true)
  | 23 => ("ControlTextModel", "siblings", "[I", true)
  | 24 => ("ControlTextModel", "current", "I", false)
  | 25 => ("ControlTextModel", "due", "I", false)
  | 26 => ("ControlTextModel", "dues", "[I", true)
  | 27 => ("ControlTextModel", "open", "I", false)
  | 28 => ("ControlTextModel", "signsOpen", "I", false)
  | 29 => ("ControlTextModel", "inner", "I", false)
  | 30 => ("ControlTextModel", "namePlace", "I", false)
  | 31 => ("ControlTextModel", "nameNumber", "I", false)
  | 32 => ("ControlTextModel", "minusPlace", "I", false)
  | 33 => ("ControlTextModel", "operands", "I", false)
  | 34 => ("ControlTextModel", "operand", "[I", true)
  | 35 => ("ControlTextModel", "waiting", "I", false)
  | 36 => ("ControlTextModel", "waitingSign", "[I", true)
  | 37 => ("ControlTextModel", "waitingPlace", "[I", true)
  | 38 => ("ControlTextModel", "beginnings", "I", false)
  | 39 => ("ControlTextModel", "beginning", "[I", true)
  | 40 => ("ControlTextModel", "count", "I", false)
  | 41 => ("ControlTextModel", "byNumber", "[I", true)
  | 42 => ("ControlTextModel", "numberOf", "[I", true)
  | 43 => ("ControlTextModel", "writtenSize", "I", false)
  | 44 => ("ControlTextModel", "written", "[I", true)
  | 45 => ("ControlTextModel", "items", "I", false)
  | 46 => ("ControlTextModel", "itemKind", "[I", true)
  | _ => ("ControlTextModel", "itemOf", "[I", true)
def tyX8 : Nat → FieldType := fun k => match k with
  | 0 => .array .int
  | 1 => .array .int
  | 2 => .array .int
  | 3 => .array .int
  | 4 => .int
  | 5 => .array .int
  | 6 => .int
  | 7 => .int
  | 8 => .int
  | 9 => .int
  | 10 => .int
  | 11 => .int
  | 12 => .int
  | 13 => .int
  | 14 => .array .int
  | 15 => .array .int
  | 16 => .int
  | 17 => .array .int
  | 18 => .array .int
  | 19 => .array .int
  | 20 => .array .int
  | 21 => .array .int
  | 22 => .array .int
  | 23 => .array .int
  | 24 => .int
  | 25 => .int
  | 26 => .array .int
  | 27 => .int
  | 28 => .int
  | 29 => .int
  | 30 => .int
  | 31 => .int
  | 32 => .int
  | 33 => .int
  | 34 => .array .int
  | 35 => .int
  | 36 => .array .int
  | 37 => .array .int
  | 38 => .int
  | 39 => .array .int
  | 40 => .int
  | 41 => .array .int
  | 42 => .array .int
  | 43 => .int
  | 44 => .array .int
  | 45 => .int
  | 46 => .array .int
  | _ => .array .int
theorem nmX8 : ∀ a, a < 48 → ∀ b, b < 48 → a ≠ b → (TX8 a).2.1 ≠ (TX8 b).2.1 := by decide +kernel
theorem tyX8_ok : ∀ k, k < 48 → parseFieldDescriptor (TX8 k).2.2.1 = some (tyX8 k) := by decide +kernel
abbrev RX9 : String := "ControlTextLaw"
def TX9 : u_T := fun k => match k with
  | _ => ("", "", "", false)
def tyX9 : Nat → FieldType := fun k => match k with
  | _ => .int
abbrev RX10 : String := "java/lang/Math"
def TX10 : u_T := fun k => match k with
  | _ => ("", "", "", false)
def tyX10 : Nat → FieldType := fun k => match k with
  | _ => .int
abbrev cX6_init : ByteArray := prog_1_method_1_code
abbrev yX6_init : MethodName := ⟨"ControlText", "<init>", "()V"⟩
abbrev cX0_init : ByteArray := prog_2_method_1_code
abbrev yX0_init : MethodName := ⟨"ControlText$Bytes", "<init>", "(I)V"⟩
abbrev cX1_init : ByteArray := prog_4_method_1_code
abbrev yX1_init : MethodName := ⟨"ControlText$Names", "<init>", "()V"⟩
abbrev cX1_addWords : ByteArray := prog_4_method_2_code
abbrev yX1_addWords : MethodName := ⟨"ControlText$Names", "addWords", "(Ljava/lang/String;)V"⟩
abbrev cX1_number : ByteArray := prog_4_method_5_code
abbrev yX1_number : MethodName := ⟨"ControlText$Names", "number", "()I"⟩
abbrev cX1_firstSlot : ByteArray := prog_4_method_6_code
abbrev yX1_firstSlot : MethodName := ⟨"ControlText$Names", "firstSlot", "()I"⟩
abbrev cX1_startOf : ByteArray := prog_4_method_9_code
abbrev yX1_startOf : MethodName := ⟨"ControlText$Names", "startOf", "(I)I"⟩
abbrev cX1_keep : ByteArray := prog_4_method_7_code
abbrev yX1_keep : MethodName := ⟨"ControlText$Names", "keep", "(I)I"⟩
abbrev cX1_isAddedLast : ByteArray := prog_4_method_8_code
abbrev yX1_isAddedLast : MethodName := ⟨"ControlText$Names", "isAddedLast", "(I)Z"⟩
abbrev cX1_addLetter : ByteArray := prog_4_method_4_code
abbrev yX1_addLetter : MethodName := ⟨"ControlText$Names", "addLetter", "(I)V"⟩
abbrev cX6_great : ByteArray := prog_1_method_16_code
abbrev yX6_great : MethodName := ⟨"ControlText", "great", "(I)I"⟩
abbrev cX2_init : ByteArray := prog_7_method_1_code
abbrev yX2_init : MethodName := ⟨"ControlText$Tokens", "<init>", "(LControlText$Bytes;LControlText$Names;)V"⟩
abbrev cX3_init : ByteArray := prog_8_method_1_code
abbrev yX3_init : MethodName := ⟨"ControlText$Tree", "<init>", "()V"⟩
abbrev cX4_init : ByteArray := prog_5_method_1_code
abbrev yX4_init : MethodName := ⟨"ControlText$Parser", "<init>", "(LControlText$Tokens;LControlText$Tree;)V"⟩
abbrev cX5_init : ByteArray := prog_10_method_1_code
abbrev yX5_init : MethodName := ⟨"ControlText$Writer", "<init>", "(LControlText$Tree;LControlText$Names;LControlText$Bytes;)V"⟩
abbrev cX6_clear : ByteArray := prog_1_method_2_code
abbrev yX6_clear : MethodName := ⟨"ControlText", "clear", "()I"⟩
abbrev cX0_cut : ByteArray := prog_2_method_5_code
abbrev yX0_cut : MethodName := ⟨"ControlText$Bytes", "cut", "(I)V"⟩
abbrev cX6_feed : ByteArray := prog_1_method_3_code
abbrev yX6_feed : MethodName := ⟨"ControlText", "feed", "(IIIII)I"⟩
abbrev cX6_feedNumber : ByteArray := prog_1_method_4_code
abbrev yX6_feedNumber : MethodName := ⟨"ControlText", "feedNumber", "(I)V"⟩
abbrev cX0_put : ByteArray := prog_2_method_3_code
abbrev yX0_put : MethodName := ⟨"ControlText$Bytes", "put", "(I)V"⟩
abbrev cX6_end : ByteArray := prog_1_method_5_code
abbrev yX6_end : MethodName := ⟨"ControlText", "end", "(I)I"⟩
abbrev cX6_change : ByteArray := prog_1_method_6_code
abbrev yX6_change : MethodName := ⟨"ControlText", "change", "(II)I"⟩
abbrev cX0_swap : ByteArray := prog_2_method_4_code
abbrev yX0_swap : MethodName := ⟨"ControlText$Bytes", "swap", "(II)I"⟩
abbrev cX0_get : ByteArray := prog_2_method_2_code
abbrev yX0_get : MethodName := ⟨"ControlText$Bytes", "get", "(I)I"⟩
abbrev cX6_read : ByteArray := prog_1_method_7_code
abbrev yX6_read : MethodName := ⟨"ControlText", "read", "()I"⟩
abbrev cX2_scan : ByteArray := prog_7_method_5_code
abbrev yX2_scan : MethodName := ⟨"ControlText$Tokens", "scan", "()V"⟩
abbrev cX1_forget : ByteArray := prog_4_method_3_code
abbrev yX1_forget : MethodName := ⟨"ControlText$Names", "forget", "()V"⟩
abbrev cX2_scanToken : ByteArray := prog_7_method_7_code
abbrev yX2_scanToken : MethodName := ⟨"ControlText$Tokens", "scanToken", "()V"⟩
abbrev cX2_skipBlanks : ByteArray := prog_7_method_8_code
abbrev yX2_skipBlanks : MethodName := ⟨"ControlText$Tokens", "skipBlanks", "()Z"⟩
abbrev cX2_endOfComment : ByteArray := prog_7_method_9_code
abbrev yX2_endOfComment : MethodName := ⟨"ControlText$Tokens", "endOfComment", "(I)I"⟩
abbrev cX2_add : ByteArray := prog_7_method_6_code
abbrev yX2_add : MethodName := ⟨"ControlText$Tokens", "add", "(III)V"⟩
abbrev cX2_scanTime : ByteArray := prog_7_method_12_code
abbrev yX2_scanTime : MethodName := ⟨"ControlText$Tokens", "scanTime", "()V"⟩
abbrev cX2_digits : ByteArray := prog_7_method_14_code
abbrev yX2_digits : MethodName := ⟨"ControlText$Tokens", "digits", "(I)J"⟩
abbrev cX2_digit : ByteArray := prog_7_method_15_code
abbrev yX2_digit : MethodName := ⟨"ControlText$Tokens", "digit", "(I)I"⟩
abbrev cX6_isDigit : ByteArray := prog_1_method_14_code
abbrev yX6_isDigit : MethodName := ⟨"ControlText", "isDigit", "(I)Z"⟩
abbrev cX10_min : ByteArray := prog_13_method_70_code
abbrev yX10_min : MethodName := ⟨"java/lang/Math", "min", "(JJ)J"⟩
abbrev cX2_unit : ByteArray := prog_7_method_16_code
abbrev yX2_unit : MethodName := ⟨"ControlText$Tokens", "unit", "()J"⟩
abbrev cX2_addNumber : ByteArray := prog_7_method_13_code
abbrev yX2_addNumber : MethodName := ⟨"ControlText$Tokens", "addNumber", "(IJ)V"⟩
abbrev cX6_isNameByte : ByteArray := prog_1_method_15_code
abbrev yX6_isNameByte : MethodName := ⟨"ControlText", "isNameByte", "(I)Z"⟩
abbrev cX2_scanNumber : ByteArray := prog_7_method_11_code
abbrev yX2_scanNumber : MethodName := ⟨"ControlText$Tokens", "scanNumber", "()V"⟩
abbrev cX2_scanName : ByteArray := prog_7_method_10_code
abbrev yX2_scanName : MethodName := ⟨"ControlText$Tokens", "scanName", "()V"⟩
abbrev cX2_scanPlace : ByteArray := prog_7_method_17_code
abbrev yX2_scanPlace : MethodName := ⟨"ControlText$Tokens", "scanPlace", "()V"⟩
abbrev cX2_placeRow : ByteArray := prog_7_method_18_code
abbrev yX2_placeRow : MethodName := ⟨"ControlText$Tokens", "placeRow", "(II)I"⟩
abbrev cX2_scanSign : ByteArray := prog_7_method_19_code
abbrev yX2_scanSign : MethodName := ⟨"ControlText$Tokens", "scanSign", "()V"⟩
abbrev cX10_max : ByteArray := prog_13_method_65_code
abbrev yX10_max : MethodName := ⟨"java/lang/Math", "max", "(II)I"⟩
abbrev cX2_isSignOfTwo : ByteArray := prog_7_method_21_code
abbrev yX2_isSignOfTwo : MethodName := ⟨"ControlText$Tokens", "isSignOfTwo", "(I)Z"⟩
abbrev cX2_isSignOfOne : ByteArray := prog_7_method_20_code
abbrev yX2_isSignOfOne : MethodName := ⟨"ControlText$Tokens", "isSignOfOne", "(I)Z"⟩
abbrev cX2_kind : ByteArray := prog_7_method_2_code
abbrev yX2_kind : MethodName := ⟨"ControlText$Tokens", "kind", "(I)I"⟩
abbrev cX4_parse : ByteArray := prog_5_method_2_code
abbrev yX4_parse : MethodName := ⟨"ControlText$Parser", "parse", "()V"⟩
abbrev cX4_take : ByteArray := prog_5_method_4_code
abbrev yX4_take : MethodName := ⟨"ControlText$Parser", "take", "(I)V"⟩
abbrev cX3_forget : ByteArray := prog_8_method_2_code
abbrev yX3_forget : MethodName := ⟨"ControlText$Tree", "forget", "()V"⟩
abbrev cX3_add : ByteArray := prog_8_method_10_code
abbrev yX3_add : MethodName := ⟨"ControlText$Tree", "add", "(IIII)I"⟩
abbrev cX4_startsBlock : ByteArray := prog_5_method_10_code
abbrev yX4_startsBlock : MethodName := ⟨"ControlText$Parser", "startsBlock", "()Z"⟩
abbrev cX4_blockHead : ByteArray := prog_5_method_13_code
abbrev yX4_blockHead : MethodName := ⟨"ControlText$Parser", "blockHead", "(I)I"⟩
abbrev cX4_kindOfBlock : ByteArray := prog_5_method_12_code
abbrev yX4_kindOfBlock : MethodName := ⟨"ControlText$Parser", "kindOfBlock", "(I)I"⟩
abbrev cX4_takeName : ByteArray := prog_5_method_8_code
abbrev yX4_takeName : MethodName := ⟨"ControlText$Parser", "takeName", "()I"⟩
abbrev cX4_simpleType : ByteArray := prog_5_method_18_code
abbrev yX4_simpleType : MethodName := ⟨"ControlText$Parser", "simpleType", "(I)V"⟩
abbrev cX4_sections : ByteArray := prog_5_method_15_code
abbrev yX4_sections : MethodName := ⟨"ControlText$Parser", "sections", "(I)V"⟩
abbrev cX4_startsSection : ByteArray := prog_5_method_14_code
abbrev yX4_startsSection : MethodName := ⟨"ControlText$Parser", "startsSection", "()Z"⟩
abbrev cX4_declaration : ByteArray := prog_5_method_16_code
abbrev yX4_declaration : MethodName := ⟨"ControlText$Parser", "declaration", "(I)V"⟩
abbrev cX4_nameNode : ByteArray := prog_5_method_9_code
abbrev yX4_nameNode : MethodName := ⟨"ControlText$Parser", "nameNode", "(I)V"⟩
abbrev cX4_type : ByteArray := prog_5_method_17_code
abbrev yX4_type : MethodName := ⟨"ControlText$Parser", "type", "(I)V"⟩
abbrev cX4_constant : ByteArray := prog_5_method_20_code
abbrev yX4_constant : MethodName := ⟨"ControlText$Parser", "constant", "(I)V"⟩
abbrev cX4_literal : ByteArray := prog_5_method_21_code
abbrev yX4_literal : MethodName := ⟨"ControlText$Parser", "literal", "(I)V"⟩
abbrev cX4_ladder : ByteArray := prog_5_method_35_code
abbrev yX4_ladder : MethodName := ⟨"ControlText$Parser", "ladder", "(I)V"⟩
abbrev cX4_row : ByteArray := prog_5_method_37_code
abbrev yX4_row : MethodName := ⟨"ControlText$Parser", "row", "(I)V"⟩
abbrev cX4_cell : ByteArray := prog_5_method_38_code
abbrev yX4_cell : MethodName := ⟨"ControlText$Parser", "cell", "(I)V"⟩
abbrev cX4_coil : ByteArray := prog_5_method_41_code
abbrev yX4_coil : MethodName := ⟨"ControlText$Parser", "coil", "(I)V"⟩
abbrev cX4_coilValue : ByteArray := prog_5_method_42_code
abbrev yX4_coilValue : MethodName := ⟨"ControlText$Parser", "coilValue", "(I)I"⟩
abbrev cX4_contact : ByteArray := prog_5_method_39_code
abbrev yX4_contact : MethodName := ⟨"ControlText$Parser", "contact", "(I)V"⟩
abbrev cX4_contactValue : ByteArray := prog_5_method_40_code
abbrev yX4_contactValue : MethodName := ⟨"ControlText$Parser", "contactValue", "(I)I"⟩
abbrev cX4_startsCell : ByteArray := prog_5_method_36_code
abbrev yX4_startsCell : MethodName := ⟨"ControlText$Parser", "startsCell", "()Z"⟩
abbrev cX4_body : ByteArray := prog_5_method_22_code
abbrev yX4_body : MethodName := ⟨"ControlText$Parser", "body", "(I)V"⟩
abbrev cX4_statement : ByteArray := prog_5_method_23_code
abbrev yX4_statement : MethodName := ⟨"ControlText$Parser", "statement", "(I)Z"⟩
abbrev cX4_invocation : ByteArray := prog_5_method_25_code
abbrev yX4_invocation : MethodName := ⟨"ControlText$Parser", "invocation", "(III)V"⟩
abbrev cX4_takeOpening : ByteArray := prog_5_method_5_code
abbrev yX4_takeOpening : MethodName := ⟨"ControlText$Parser", "takeOpening", "()V"⟩
abbrev cX4_mayOpen : ByteArray := prog_5_method_6_code
abbrev yX4_mayOpen : MethodName := ⟨"ControlText$Parser", "mayOpen", "()Z"⟩
abbrev cX4_outermostExpression : ByteArray := prog_5_method_31_code
abbrev yX4_outermostExpression : MethodName := ⟨"ControlText$Parser", "outermostExpression", "(I)V"⟩
abbrev cX4_expression : ByteArray := prog_5_method_32_code
abbrev yX4_expression : MethodName := ⟨"ControlText$Parser", "expression", "(II)V"⟩
abbrev cX4_operand : ByteArray := prog_5_method_33_code
abbrev yX4_operand : MethodName := ⟨"ControlText$Parser", "operand", "(I)V"⟩
abbrev cX4_takeClosing : ByteArray := prog_5_method_7_code
abbrev yX4_takeClosing : MethodName := ⟨"ControlText$Parser", "takeClosing", "(I)V"⟩
abbrev cX4_operandByName : ByteArray := prog_5_method_34_code
abbrev yX4_operandByName : MethodName := ⟨"ControlText$Parser", "operandByName", "(I)V"⟩
abbrev cX4_takeComma : ByteArray := prog_5_method_26_code
abbrev yX4_takeComma : MethodName := ⟨"ControlText$Parser", "takeComma", "()Z"⟩
abbrev cX7_operation : ByteArray := prog_6_method_2_code
abbrev yX7_operation : MethodName := ⟨"ControlText$Sign", "operation", "(I)I"⟩
abbrev cX7_binding : ByteArray := prog_6_method_4_code
abbrev yX7_binding : MethodName := ⟨"ControlText$Sign", "binding", "(I)I"⟩
abbrev cX3_wrap : ByteArray := prog_8_method_11_code
abbrev yX3_wrap : MethodName := ⟨"ControlText$Tree", "wrap", "(IIII)V"⟩
abbrev cX3_has : ByteArray := prog_8_method_3_code
abbrev yX3_has : MethodName := ⟨"ControlText$Tree", "has", "(I)Z"⟩
abbrev cX4_assignment : ByteArray := prog_5_method_24_code
abbrev yX4_assignment : MethodName := ⟨"ControlText$Parser", "assignment", "(III)V"⟩
abbrev cX4_ifStatement : ByteArray := prog_5_method_27_code
abbrev yX4_ifStatement : MethodName := ⟨"ControlText$Parser", "ifStatement", "(I)V"⟩
abbrev cX4_caseStatement : ByteArray := prog_5_method_28_code
abbrev yX4_caseStatement : MethodName := ⟨"ControlText$Parser", "caseStatement", "(I)V"⟩
abbrev cX4_startsConstant : ByteArray := prog_5_method_19_code
abbrev yX4_startsConstant : MethodName := ⟨"ControlText$Parser", "startsConstant", "()Z"⟩
abbrev cX4_ranges : ByteArray := prog_5_method_29_code
abbrev yX4_ranges : MethodName := ⟨"ControlText$Parser", "ranges", "(I)V"⟩
abbrev cX4_forStatement : ByteArray := prog_5_method_30_code
abbrev yX4_forStatement : MethodName := ⟨"ControlText$Parser", "forStatement", "(I)V"⟩
abbrev cX4_endOfBlock : ByteArray := prog_5_method_11_code
abbrev yX4_endOfBlock : MethodName := ⟨"ControlText$Parser", "endOfBlock", "(I)I"⟩
abbrev cX4_tellFault : ByteArray := prog_5_method_3_code
abbrev yX4_tellFault : MethodName := ⟨"ControlText$Parser", "tellFault", "()V"⟩
abbrev cX2_value : ByteArray := prog_7_method_4_code
abbrev yX2_value : MethodName := ⟨"ControlText$Tokens", "value", "(I)I"⟩
abbrev cX2_place : ByteArray := prog_7_method_3_code
abbrev yX2_place : MethodName := ⟨"ControlText$Tokens", "place", "(I)I"⟩
abbrev cX3_link : ByteArray := prog_8_method_12_code
abbrev yX3_link : MethodName := ⟨"ControlText$Tree", "link", "()V"⟩
abbrev cX3_firstUnfilled : ByteArray := prog_8_method_13_code
abbrev yX3_firstUnfilled : MethodName := ⟨"ControlText$Tree", "firstUnfilled", "(I)I"⟩
abbrev cX6_count : ByteArray := prog_1_method_8_code
abbrev yX6_count : MethodName := ⟨"ControlText", "count", "(I)I"⟩
abbrev cX6_node : ByteArray := prog_1_method_9_code
abbrev yX6_node : MethodName := ⟨"ControlText", "node", "(II)I"⟩
abbrev cX3_kind : ByteArray := prog_8_method_4_code
abbrev yX3_kind : MethodName := ⟨"ControlText$Tree", "kind", "(I)I"⟩
abbrev cX3_place : ByteArray := prog_8_method_5_code
abbrev yX3_place : MethodName := ⟨"ControlText$Tree", "place", "(I)I"⟩
abbrev cX3_value : ByteArray := prog_8_method_6_code
abbrev yX3_value : MethodName := ⟨"ControlText$Tree", "value", "(I)I"⟩
abbrev cX3_parent : ByteArray := prog_8_method_8_code
abbrev yX3_parent : MethodName := ⟨"ControlText$Tree", "parent", "(I)I"⟩
abbrev cX3_children : ByteArray := prog_8_method_7_code
abbrev yX3_children : MethodName := ⟨"ControlText$Tree", "children", "(I)I"⟩
abbrev cX6_nameByte : ByteArray := prog_1_method_10_code
abbrev yX6_nameByte : MethodName := ⟨"ControlText", "nameByte", "(II)I"⟩
abbrev cX1_letterOf : ByteArray := prog_4_method_10_code
abbrev yX1_letterOf : MethodName := ⟨"ControlText$Names", "letterOf", "(II)I"⟩
abbrev cX6_write : ByteArray := prog_1_method_11_code
abbrev yX6_write : MethodName := ⟨"ControlText", "write", "()I"⟩
abbrev cX5_writeTree : ByteArray := prog_10_method_2_code
abbrev yX5_writeTree : MethodName := ⟨"ControlText$Writer", "writeTree", "()V"⟩
abbrev cX5_finishUpTo : ByteArray := prog_10_method_3_code
abbrev yX5_finishUpTo : MethodName := ⟨"ControlText$Writer", "finishUpTo", "(II)V"⟩
abbrev cX5_finish : ByteArray := prog_10_method_17_code
abbrev yX5_finish : MethodName := ⟨"ControlText$Writer", "finish", "(I)V"⟩
abbrev cX5_token : ByteArray := prog_10_method_20_code
abbrev yX5_token : MethodName := ⟨"ControlText$Writer", "token", "(I)V"⟩
abbrev cX5_word : ByteArray := prog_10_method_21_code
abbrev yX5_word : MethodName := ⟨"ControlText$Writer", "word", "(I)V"⟩
abbrev cX5_part : ByteArray := prog_10_method_22_code
abbrev yX5_part : MethodName := ⟨"ControlText$Writer", "part", "()V"⟩
abbrev cX5_isBracketed : ByteArray := prog_10_method_16_code
abbrev yX5_isBracketed : MethodName := ⟨"ControlText$Writer", "isBracketed", "(I)Z"⟩
abbrev cX3_rank : ByteArray := prog_8_method_9_code
abbrev yX3_rank : MethodName := ⟨"ControlText$Tree", "rank", "(I)I"⟩
abbrev cX5_lastToken : ByteArray := prog_10_method_18_code
abbrev yX5_lastToken : MethodName := ⟨"ControlText$Writer", "lastToken", "(I)I"⟩
abbrev cX5_endsBySemicolon : ByteArray := prog_10_method_19_code
abbrev yX5_endsBySemicolon : MethodName := ⟨"ControlText$Writer", "endsBySemicolon", "(I)Z"⟩
abbrev cX5_separate : ByteArray := prog_10_method_4_code
abbrev yX5_separate : MethodName := ⟨"ControlText$Writer", "separate", "(I)V"⟩
abbrev cX7_between : ByteArray := prog_6_method_3_code
abbrev yX7_between : MethodName := ⟨"ControlText$Sign", "between", "(I)I"⟩
abbrev cX5_separator : ByteArray := prog_10_method_5_code
abbrev yX5_separator : MethodName := ⟨"ControlText$Writer", "separator", "(III)I"⟩
abbrev cX5_separatorInDeclaration : ByteArray := prog_10_method_7_code
abbrev yX5_separatorInDeclaration : MethodName := ⟨"ControlText$Writer", "separatorInDeclaration", "(II)I"⟩
abbrev cX5_behindFirst : ByteArray := prog_10_method_6_code
abbrev yX5_behindFirst : MethodName := ⟨"ControlText$Writer", "behindFirst", "(II)I"⟩
abbrev cX5_separatorInIf : ByteArray := prog_10_method_8_code
abbrev yX5_separatorInIf : MethodName := ⟨"ControlText$Writer", "separatorInIf", "(II)I"⟩
abbrev cX5_separatorInFor : ByteArray := prog_10_method_9_code
abbrev yX5_separatorInFor : MethodName := ⟨"ControlText$Writer", "separatorInFor", "(II)I"⟩
abbrev cX5_begin : ByteArray := prog_10_method_10_code
abbrev yX5_begin : MethodName := ⟨"ControlText$Writer", "begin", "(I)V"⟩
abbrev cX5_firstToken : ByteArray := prog_10_method_11_code
abbrev yX5_firstToken : MethodName := ⟨"ControlText$Writer", "firstToken", "(II)I"⟩
abbrev cX5_contactSign : ByteArray := prog_10_method_12_code
abbrev yX5_contactSign : MethodName := ⟨"ControlText$Writer", "contactSign", "(I)I"⟩
abbrev cX5_bearsName : ByteArray := prog_10_method_14_code
abbrev yX5_bearsName : MethodName := ⟨"ControlText$Writer", "bearsName", "(I)Z"⟩
abbrev cX5_number : ByteArray := prog_10_method_23_code
abbrev yX5_number : MethodName := ⟨"ControlText$Writer", "number", "(I)V"⟩
abbrev cX10_abs : ByteArray := prog_13_method_59_code
abbrev yX10_abs : MethodName := ⟨"java/lang/Math", "abs", "(I)I"⟩
abbrev cX5_digits : ByteArray := prog_10_method_25_code
abbrev yX5_digits : MethodName := ⟨"ControlText$Writer", "digits", "(I)V"⟩
abbrev cX5_place : ByteArray := prog_10_method_24_code
abbrev yX5_place : MethodName := ⟨"ControlText$Writer", "place", "(I)V"⟩
abbrev cX5_nextToken : ByteArray := prog_10_method_15_code
abbrev yX5_nextToken : MethodName := ⟨"ControlText$Writer", "nextToken", "(II)I"⟩
abbrev cX5_coilSign : ByteArray := prog_10_method_13_code
abbrev yX5_coilSign : MethodName := ⟨"ControlText$Writer", "coilSign", "(I)I"⟩
abbrev cX6_byteAt : ByteArray := prog_1_method_12_code
abbrev yX6_byteAt : MethodName := ⟨"ControlText", "byteAt", "(I)I"⟩
abbrev cX6_back : ByteArray := prog_1_method_13_code
abbrev yX6_back : MethodName := ⟨"ControlText", "back", "()I"⟩
abbrev cX8_init : ByteArray := prog_12_method_1_code
abbrev yX8_init : MethodName := ⟨"ControlTextModel", "<init>", "()V"⟩
abbrev cX8_clear : ByteArray := prog_12_method_7_code
abbrev yX8_clear : MethodName := ⟨"ControlTextModel", "clear", "()I"⟩
abbrev cX8_feed : ByteArray := prog_12_method_8_code
abbrev yX8_feed : MethodName := ⟨"ControlTextModel", "feed", "(IIIII)I"⟩
abbrev cX8_end : ByteArray := prog_12_method_9_code
abbrev yX8_end : MethodName := ⟨"ControlTextModel", "end", "(I)I"⟩
abbrev cX8_change : ByteArray := prog_12_method_10_code
abbrev yX8_change : MethodName := ⟨"ControlTextModel", "change", "(II)I"⟩
abbrev cX8_read : ByteArray := prog_12_method_92_code
abbrev yX8_read : MethodName := ⟨"ControlTextModel", "read", "()I"⟩
abbrev cX8_make : ByteArray := prog_12_method_23_code
abbrev yX8_make : MethodName := ⟨"ControlTextModel", "make", "(III)I"⟩
abbrev cX8_push : ByteArray := prog_12_method_27_code
abbrev yX8_push : MethodName := ⟨"ControlTextModel", "push", "(I)V"⟩
abbrev cX8_step : ByteArray := prog_12_method_22_code
abbrev yX8_step : MethodName := ⟨"ControlTextModel", "step", "()V"⟩
abbrev cX8_skip : ByteArray := prog_12_method_12_code
abbrev yX8_skip : MethodName := ⟨"ControlTextModel", "skip", "()V"⟩
abbrev cX8_at : ByteArray := prog_12_method_5_code
abbrev yX8_at : MethodName := ⟨"ControlTextModel", "at", "(I)I"⟩
abbrev cX8_fail : ByteArray := prog_12_method_11_code
abbrev yX8_fail : MethodName := ⟨"ControlTextModel", "fail", "(II)V"⟩
abbrev cX8_readNumber : ByteArray := prog_12_method_19_code
abbrev yX8_readNumber : MethodName := ⟨"ControlTextModel", "readNumber", "(Z)V"⟩
abbrev cX8_digits : ByteArray := prog_12_method_17_code
abbrev yX8_digits : MethodName := ⟨"ControlTextModel", "digits", "(I)J"⟩
abbrev cX8_digitOf : ByteArray := prog_12_method_16_code
abbrev yX8_digitOf : MethodName := ⟨"ControlTextModel", "digitOf", "(I)I"⟩
abbrev cX8_great : ByteArray := prog_12_method_4_code
abbrev yX8_great : MethodName := ⟨"ControlTextModel", "great", "(I)I"⟩
abbrev cX8_isDigit : ByteArray := prog_12_method_3_code
abbrev yX8_isDigit : MethodName := ⟨"ControlTextModel", "isDigit", "(I)Z"⟩
abbrev cX8_unit : ByteArray := prog_12_method_18_code
abbrev yX8_unit : MethodName := ⟨"ControlTextModel", "unit", "()J"⟩
abbrev cX8_goesOn : ByteArray := prog_12_method_6_code
abbrev yX8_goesOn : MethodName := ⟨"ControlTextModel", "goesOn", "(I)Z"⟩
abbrev cX8_isLetter : ByteArray := prog_12_method_2_code
abbrev yX8_isLetter : MethodName := ⟨"ControlTextModel", "isLetter", "(I)Z"⟩
abbrev cX8_readName : ByteArray := prog_12_method_15_code
abbrev yX8_readName : MethodName := ⟨"ControlTextModel", "readName", "()V"⟩
abbrev cX8_wordOf : ByteArray := prog_12_method_13_code
abbrev yX8_wordOf : MethodName := ⟨"ControlTextModel", "wordOf", "(II)I"⟩
abbrev cX8_nameOf : ByteArray := prog_12_method_14_code
abbrev yX8_nameOf : MethodName := ⟨"ControlTextModel", "nameOf", "(II)I"⟩
abbrev cX8_readPlace : ByteArray := prog_12_method_20_code
abbrev yX8_readPlace : MethodName := ⟨"ControlTextModel", "readPlace", "()V"⟩
abbrev cX8_readSign : ByteArray := prog_12_method_21_code
abbrev yX8_readSign : MethodName := ⟨"ControlTextModel", "readSign", "()V"⟩
abbrev cX8_act : ByteArray := prog_12_method_89_code
abbrev yX8_act : MethodName := ⟨"ControlTextModel", "act", "(I)V"⟩
abbrev cX8_pass : ByteArray := prog_12_method_32_code
abbrev yX8_pass : MethodName := ⟨"ControlTextModel", "pass", "(I)V"⟩
abbrev cX8_wrong : ByteArray := prog_12_method_31_code
abbrev yX8_wrong : MethodName := ⟨"ControlTextModel", "wrong", "()V"⟩
abbrev cX8_actBlock : ByteArray := prog_12_method_84_code
abbrev yX8_actBlock : MethodName := ⟨"ControlTextModel", "actBlock", "(I)V"⟩
abbrev cX8_blocks : ByteArray := prog_12_method_38_code
abbrev yX8_blocks : MethodName := ⟨"ControlTextModel", "blocks", "()V"⟩
abbrev cX8_down : ByteArray := prog_12_method_26_code
abbrev yX8_down : MethodName := ⟨"ControlTextModel", "down", "(III)V"⟩
abbrev cX8_hang : ByteArray := prog_12_method_24_code
abbrev yX8_hang : MethodName := ⟨"ControlTextModel", "hang", "(II)V"⟩
abbrev cX8_push4 : ByteArray := prog_12_method_29_code
abbrev yX8_push4 : MethodName := ⟨"ControlTextModel", "push4", "(IIII)V"⟩
abbrev cX8_push2 : ByteArray := prog_12_method_28_code
abbrev yX8_push2 : MethodName := ⟨"ControlTextModel", "push2", "(II)V"⟩
abbrev cX8_up : ByteArray := prog_12_method_52_code
abbrev yX8_up : MethodName := ⟨"ControlTextModel", "up", "()V"⟩
abbrev cX8_body : ByteArray := prog_12_method_41_code
abbrev yX8_body : MethodName := ⟨"ControlTextModel", "body", "()V"⟩
abbrev cX8_sections : ByteArray := prog_12_method_40_code
abbrev yX8_sections : MethodName := ⟨"ControlTextModel", "sections", "()V"⟩
abbrev cX8_simple : ByteArray := prog_12_method_45_code
abbrev yX8_simple : MethodName := ⟨"ControlTextModel", "simple", "()V"⟩
abbrev cX8_leaf : ByteArray := prog_12_method_25_code
abbrev yX8_leaf : MethodName := ⟨"ControlTextModel", "leaf", "(III)V"⟩
abbrev cX8_title : ByteArray := prog_12_method_39_code
abbrev yX8_title : MethodName := ⟨"ControlTextModel", "title", "()V"⟩
abbrev cX8_declarations : ByteArray := prog_12_method_43_code
abbrev yX8_declarations : MethodName := ⟨"ControlTextModel", "declarations", "()V"⟩
abbrev cX8_aName : ByteArray := prog_12_method_44_code
abbrev yX8_aName : MethodName := ⟨"ControlTextModel", "aName", "()V"⟩
abbrev cX8_perhaps : ByteArray := prog_12_method_49_code
abbrev yX8_perhaps : MethodName := ⟨"ControlTextModel", "perhaps", "(III)V"⟩
abbrev cX8_type : ByteArray := prog_12_method_46_code
abbrev yX8_type : MethodName := ⟨"ControlTextModel", "type", "()V"⟩
abbrev cX8_constant : ByteArray := prog_12_method_47_code
abbrev yX8_constant : MethodName := ⟨"ControlTextModel", "constant", "()V"⟩
abbrev cX8_lessNumber : ByteArray := prog_12_method_48_code
abbrev yX8_lessNumber : MethodName := ⟨"ControlTextModel", "lessNumber", "()V"⟩
abbrev cX8_actStatement : ByteArray := prog_12_method_85_code
abbrev yX8_actStatement : MethodName := ⟨"ControlTextModel", "actStatement", "(I)V"⟩
abbrev cX8_statements : ByteArray := prog_12_method_50_code
abbrev yX8_statements : MethodName := ⟨"ControlTextModel", "statements", "()V"⟩
abbrev cX8_keepName : ByteArray := prog_12_method_34_code
abbrev yX8_keepName : MethodName := ⟨"ControlTextModel", "keepName", "()V"⟩
abbrev cX8_opens : ByteArray := prog_12_method_33_code
abbrev yX8_opens : MethodName := ⟨"ControlTextModel", "opens", "()Z"⟩
abbrev cX8_compound : ByteArray := prog_12_method_51_code
abbrev yX8_compound : MethodName := ⟨"ControlTextModel", "compound", "()V"⟩
abbrev cX8_pushExpression : ByteArray := prog_12_method_30_code
abbrev yX8_pushExpression : MethodName := ⟨"ControlTextModel", "pushExpression", "()V"⟩
abbrev cX8_behindName : ByteArray := prog_12_method_53_code
abbrev yX8_behindName : MethodName := ⟨"ControlTextModel", "behindName", "()V"⟩
abbrev cX8_ifRest : ByteArray := prog_12_method_57_code
abbrev yX8_ifRest : MethodName := ⟨"ControlTextModel", "ifRest", "()V"⟩
abbrev cX8_elseBody : ByteArray := prog_12_method_58_code
abbrev yX8_elseBody : MethodName := ⟨"ControlTextModel", "elseBody", "()V"⟩
abbrev cX8_bodyBehind : ByteArray := prog_12_method_42_code
abbrev yX8_bodyBehind : MethodName := ⟨"ControlTextModel", "bodyBehind", "(I)V"⟩
abbrev cX8_choices : ByteArray := prog_12_method_59_code
abbrev yX8_choices : MethodName := ⟨"ControlTextModel", "choices", "()V"⟩
abbrev cX8_isConstant : ByteArray := prog_12_method_35_code
abbrev yX8_isConstant : MethodName := ⟨"ControlTextModel", "isConstant", "()Z"⟩
abbrev cX8_range : ByteArray := prog_12_method_60_code
abbrev yX8_range : MethodName := ⟨"ControlTextModel", "range", "()V"⟩
abbrev cX8_assign : ByteArray := prog_12_method_55_code
abbrev yX8_assign : MethodName := ⟨"ControlTextModel", "assign", "()V"⟩
abbrev cX8_indexEnd : ByteArray := prog_12_method_54_code
abbrev yX8_indexEnd : MethodName := ⟨"ControlTextModel", "indexEnd", "()V"⟩
abbrev cX8_parameter : ByteArray := prog_12_method_56_code
abbrev yX8_parameter : MethodName := ⟨"ControlTextModel", "parameter", "()V"⟩
abbrev cX8_actOperand : ByteArray := prog_12_method_87_code
abbrev yX8_actOperand : MethodName := ⟨"ControlTextModel", "actOperand", "(I)V"⟩
abbrev cX8_expression : ByteArray := prog_12_method_64_code
abbrev yX8_expression : MethodName := ⟨"ControlTextModel", "expression", "()V"⟩
abbrev cX8_waitFor : ByteArray := prog_12_method_63_code
abbrev yX8_waitFor : MethodName := ⟨"ControlTextModel", "waitFor", "(II)V"⟩
abbrev cX8_anOperand : ByteArray := prog_12_method_69_code
abbrev yX8_anOperand : MethodName := ⟨"ControlTextModel", "anOperand", "()V"⟩
abbrev cX8_operandCame : ByteArray := prog_12_method_68_code
abbrev yX8_operandCame : MethodName := ⟨"ControlTextModel", "operandCame", "(I)V"⟩
abbrev cX8_putOperand : ByteArray := prog_12_method_61_code
abbrev yX8_putOperand : MethodName := ⟨"ControlTextModel", "putOperand", "(I)V"⟩
abbrev cX8_settle : ByteArray := prog_12_method_67_code
abbrev yX8_settle : MethodName := ⟨"ControlTextModel", "settle", "()V"⟩
abbrev cX8_takeOperand : ByteArray := prog_12_method_62_code
abbrev yX8_takeOperand : MethodName := ⟨"ControlTextModel", "takeOperand", "()I"⟩
abbrev cX8_signRest : ByteArray := prog_12_method_78_code
abbrev yX8_signRest : MethodName := ⟨"ControlTextModel", "signRest", "()V"⟩
abbrev cX8_signAt : ByteArray := prog_12_method_65_code
abbrev yX8_signAt : MethodName := ⟨"ControlTextModel", "signAt", "()I"⟩
abbrev cX8_closeness : ByteArray := prog_12_method_66_code
abbrev yX8_closeness : MethodName := ⟨"ControlTextModel", "closeness", "(I)I"⟩
abbrev cX8_groupEnd : ByteArray := prog_12_method_70_code
abbrev yX8_groupEnd : MethodName := ⟨"ControlTextModel", "groupEnd", "()V"⟩
abbrev cX8_behindOperand : ByteArray := prog_12_method_72_code
abbrev yX8_behindOperand : MethodName := ⟨"ControlTextModel", "behindOperand", "()V"⟩
abbrev cX8_start : ByteArray := prog_12_method_71_code
abbrev yX8_start : MethodName := ⟨"ControlTextModel", "start", "(I)V"⟩
abbrev cX8_elementEnd : ByteArray := prog_12_method_75_code
abbrev yX8_elementEnd : MethodName := ⟨"ControlTextModel", "elementEnd", "()V"⟩
abbrev cX8_argument : ByteArray := prog_12_method_74_code
abbrev yX8_argument : MethodName := ⟨"ControlTextModel", "argument", "()V"⟩
abbrev cX8_finish : ByteArray := prog_12_method_73_code
abbrev yX8_finish : MethodName := ⟨"ControlTextModel", "finish", "()V"⟩
abbrev cX8_output : ByteArray := prog_12_method_76_code
abbrev yX8_output : MethodName := ⟨"ControlTextModel", "output", "()V"⟩
abbrev cX8_isOperand : ByteArray := prog_12_method_36_code
abbrev yX8_isOperand : MethodName := ⟨"ControlTextModel", "isOperand", "()Z"⟩
abbrev cX8_pushArgument : ByteArray := prog_12_method_86_code
abbrev yX8_pushArgument : MethodName := ⟨"ControlTextModel", "pushArgument", "()V"⟩
abbrev cX8_resultEnd : ByteArray := prog_12_method_77_code
abbrev yX8_resultEnd : MethodName := ⟨"ControlTextModel", "resultEnd", "()V"⟩
abbrev cX8_actRung : ByteArray := prog_12_method_88_code
abbrev yX8_actRung : MethodName := ⟨"ControlTextModel", "actRung", "(I)V"⟩
abbrev cX8_isCell : ByteArray := prog_12_method_37_code
abbrev yX8_isCell : MethodName := ⟨"ControlTextModel", "isCell", "()Z"⟩
abbrev cX8_cell : ByteArray := prog_12_method_79_code
abbrev yX8_cell : MethodName := ⟨"ControlTextModel", "cell", "()V"⟩
abbrev cX8_moreCells : ByteArray := prog_12_method_83_code
abbrev yX8_moreCells : MethodName := ⟨"ControlTextModel", "moreCells", "()V"⟩
abbrev cX8_contact : ByteArray := prog_12_method_80_code
abbrev yX8_contact : MethodName := ⟨"ControlTextModel", "contact", "()V"⟩
abbrev cX8_behindContact : ByteArray := prog_12_method_81_code
abbrev yX8_behindContact : MethodName := ⟨"ControlTextModel", "behindContact", "()V"⟩
abbrev cX8_coil : ByteArray := prog_12_method_82_code
abbrev yX8_coil : MethodName := ⟨"ControlTextModel", "coil", "()V"⟩
abbrev cX8_number : ByteArray := prog_12_method_91_code
abbrev yX8_number : MethodName := ⟨"ControlTextModel", "number", "()V"⟩
abbrev cX8_following : ByteArray := prog_12_method_90_code
abbrev yX8_following : MethodName := ⟨"ControlTextModel", "following", "(I)I"⟩
abbrev cX8_count : ByteArray := prog_12_method_93_code
abbrev yX8_count : MethodName := ⟨"ControlTextModel", "count", "(I)I"⟩
abbrev cX8_node : ByteArray := prog_12_method_95_code
abbrev yX8_node : MethodName := ⟨"ControlTextModel", "node", "(II)I"⟩
abbrev cX8_children : ByteArray := prog_12_method_94_code
abbrev yX8_children : MethodName := ⟨"ControlTextModel", "children", "(I)I"⟩
abbrev cX8_nameByte : ByteArray := prog_12_method_96_code
abbrev yX8_nameByte : MethodName := ⟨"ControlTextModel", "nameByte", "(II)I"⟩
abbrev cX8_write : ByteArray := prog_12_method_122_code
abbrev yX8_write : MethodName := ⟨"ControlTextModel", "write", "()I"⟩
abbrev cX8_item : ByteArray := prog_12_method_97_code
abbrev yX8_item : MethodName := ⟨"ControlTextModel", "item", "(II)V"⟩
abbrev cX8_openItem : ByteArray := prog_12_method_121_code
abbrev yX8_openItem : MethodName := ⟨"ControlTextModel", "openItem", "(II)V"⟩
abbrev cX8_putToken : ByteArray := prog_12_method_101_code
abbrev yX8_putToken : MethodName := ⟨"ControlTextModel", "putToken", "(I)V"⟩
abbrev cX8_part : ByteArray := prog_12_method_100_code
abbrev yX8_part : MethodName := ⟨"ControlTextModel", "part", "(I)V"⟩
abbrev cX8_isOfName : ByteArray := prog_12_method_99_code
abbrev yX8_isOfName : MethodName := ⟨"ControlTextModel", "isOfName", "(I)Z"⟩
abbrev cX8_put : ByteArray := prog_12_method_98_code
abbrev yX8_put : MethodName := ⟨"ControlTextModel", "put", "(I)V"⟩
abbrev cX8_putName : ByteArray := prog_12_method_102_code
abbrev yX8_putName : MethodName := ⟨"ControlTextModel", "putName", "(I)V"⟩
abbrev cX8_openParts : ByteArray := prog_12_method_117_code
abbrev yX8_openParts : MethodName := ⟨"ControlTextModel", "openParts", "(I)V"⟩
abbrev cX8_openNode : ByteArray := prog_12_method_116_code
abbrev yX8_openNode : MethodName := ⟨"ControlTextModel", "openNode", "(I)V"⟩
abbrev cX8_openBlock : ByteArray := prog_12_method_115_code
abbrev yX8_openBlock : MethodName := ⟨"ControlTextModel", "openBlock", "(I)V"⟩
abbrev cX8_itemBlock : ByteArray := prog_12_method_108_code
abbrev yX8_itemBlock : MethodName := ⟨"ControlTextModel", "itemBlock", "(III)V"⟩
abbrev cX8_second : ByteArray := prog_12_method_105_code
abbrev yX8_second : MethodName := ⟨"ControlTextModel", "second", "(I)I"⟩
abbrev cX8_itemAll : ByteArray := prog_12_method_111_code
abbrev yX8_itemAll : MethodName := ⟨"ControlTextModel", "itemAll", "(IIII)V"⟩
abbrev cX8_putPlace : ByteArray := prog_12_method_104_code
abbrev yX8_putPlace : MethodName := ⟨"ControlTextModel", "putPlace", "(I)V"⟩
abbrev cX8_itemArray : ByteArray := prog_12_method_110_code
abbrev yX8_itemArray : MethodName := ⟨"ControlTextModel", "itemArray", "(I)V"⟩
abbrev cX8_openStatement : ByteArray := prog_12_method_112_code
abbrev yX8_openStatement : MethodName := ⟨"ControlTextModel", "openStatement", "(I)V"⟩
abbrev cX8_itemFor : ByteArray := prog_12_method_109_code
abbrev yX8_itemFor : MethodName := ⟨"ControlTextModel", "itemFor", "(I)V"⟩
abbrev cX8_openRung : ByteArray := prog_12_method_114_code
abbrev yX8_openRung : MethodName := ⟨"ControlTextModel", "openRung", "(I)V"⟩
abbrev cX8_openOperand : ByteArray := prog_12_method_113_code
abbrev yX8_openOperand : MethodName := ⟨"ControlTextModel", "openOperand", "(I)V"⟩
abbrev cX8_putNumber : ByteArray := prog_12_method_103_code
abbrev yX8_putNumber : MethodName := ⟨"ControlTextModel", "putNumber", "(I)V"⟩
abbrev cX8_itemOperand : ByteArray := prog_12_method_106_code
abbrev yX8_itemOperand : MethodName := ⟨"ControlTextModel", "itemOperand", "(IIZ)V"⟩
abbrev cX8_tokenOf : ByteArray := prog_12_method_107_code
abbrev yX8_tokenOf : MethodName := ⟨"ControlTextModel", "tokenOf", "(I)I"⟩
abbrev cX8_openIf : ByteArray := prog_12_method_118_code
abbrev yX8_openIf : MethodName := ⟨"ControlTextModel", "openIf", "(I)V"⟩
abbrev cX8_openCase : ByteArray := prog_12_method_119_code
abbrev yX8_openCase : MethodName := ⟨"ControlTextModel", "openCase", "(I)V"⟩
abbrev cX8_openRow : ByteArray := prog_12_method_120_code
abbrev yX8_openRow : MethodName := ⟨"ControlTextModel", "openRow", "(II)V"⟩
abbrev cX8_byteAt : ByteArray := prog_12_method_123_code
abbrev yX8_byteAt : MethodName := ⟨"ControlTextModel", "byteAt", "(I)I"⟩
abbrev cX8_back : ByteArray := prog_12_method_124_code
abbrev yX8_back : MethodName := ⟨"ControlTextModel", "back", "()I"⟩
abbrev vwCl : List vw_C := [(RX0, TX0, 2), (RX1, TX1, 6), (RX2, TX2, 7), (RX3, TX3, 8), (RX4, TX4, 12), (RX5, TX5, 3), (RX6, TX6, 7), (RX7, TX7, 0), (RX8, TX8, 48), (RX9, TX9, 0), (RX10, TX10, 0)]
end
section
/-- the words of the tables that stay -/
def ALL : List Cond := lw_tbl.filter goodWord
theorem mem_t (i : Nat) {w : Cond} (h : lw_tbl[i]? = some w) (hg : goodWord w = true) : w ∈ ALL := List.mem_filter.mpr ⟨List.mem_of_getElem? h, hg⟩
theorem inA {c0 w : Cond} (h : w ∈ ALL) : w ∈ c0 :: ALL := List.mem_cons_of_mem _ h
theorem good_all {c0 : Cond} {ws : List Cond} (h : ∀ w ∈ ws, w ∈ ALL) : GoodIn (c0 :: ALL) ws := fun w hw => ⟨inA (h w hw), good_of_word (List.mem_filter.mp (h w hw)).2⟩
abbrev wsM (y : MethodName) (b : ByteArray) (n : Nat) (r : Option FieldType) : List Cond := Cond.code y b n r :: ALL
def MV (y : MethodName) (b : ByteArray) (n : Nat) (r : Option FieldType) (k : Nat) : Prop := Cond.instanceMethod y ∈ ALL ∧ Cond.selects y.cls y y ∈ ALL ∧ Cond.initialized y.cls ∈ ALL ∧ Cond.code y b n r ∈ ALL ∧ y.cls ≠ "java/lang/invoke/MethodHandle" ∧ y.cls ≠ "java/lang/invoke/VarHandle" ∧ (parseMethodDescriptor y.desc).map (fun d => d.parameters.length) = some k
def MS (y : MethodName) (b : ByteArray) (n : Nat) (r : Option FieldType) (k : Nat) : Prop := Cond.static y ∈ ALL ∧ Cond.initialized y.cls ∈ ALL ∧ Cond.code y b n r ∈ ALL ∧ y.cls ≠ "java/lang/invoke/MethodHandle" ∧ y.cls ≠ "java/lang/invoke/VarHandle" ∧ (parseMethodDescriptor y.desc).map (fun d => d.parameters.length) = some k
def MI (y : MethodName) (b : ByteArray) (n : Nat) (k : Nat) : Prop := Cond.instanceMethod y ∈ ALL ∧ Cond.initialized y.cls ∈ ALL ∧ Cond.code y b n none ∈ ALL ∧ y.cls ≠ "java/lang/invoke/MethodHandle" ∧ y.cls ≠ "java/lang/invoke/VarHandle" ∧ (parseMethodDescriptor y.desc).map (fun d => d.parameters.length) = some k ∧ y.name = "<init>"
section CW
variable {R : Room} {s : State} {args : Array Value} {c0 : Cond} {own : String} {idx : Nat} {y : MethodName} {b : ByteArray} {nl n mc ms : Nat} {r : Option FieldType} {rm : Room}
theorem code_in (h : Cond.code y b nl r ∈ ALL) : ∀ w ∈ wsM y b nl r, w ∈ ALL := fun w hw => (List.mem_cons.mp hw).elim (fun e => by rw [e]; exact h) id
theorem cwV2 (hts : ∀ w ∈ c0 :: ALL, w.before args s = true) (hl : Cond.methodLink own idx y ∈ ALL) (h : MV y b nl r n) (hrc : rm.cells = mc) (hrs : rm.slots = ms) (hR : rm.frames + 1 ≤ R.frames ∧ 8 + (nl + 11) + rm.locals ≤ R.locals) : CallW R s args own y.cls idx y b nl r (wsM y b nl r) rm mc ms n :=
  ⟨callB_of n hts (good_all (code_in h.2.2.2.1)) rfl hrc hrs (hts _ (inA h.2.2.1)) (hts _ (inA hl)) h.2.2.2.2 hR, hts _ (inA h.1), hts _ (inA h.2.1)⟩
theorem cwS2 (hts : ∀ w ∈ c0 :: ALL, w.before args s = true) (hl : Cond.methodLink own idx y ∈ ALL) (h : MS y b nl r n) (hrc : rm.cells = mc) (hrs : rm.slots = ms) (hR : rm.frames + 1 ≤ R.frames ∧ 8 + (nl + 11) + rm.locals ≤ R.locals) : CallB R s args own idx y b nl r (wsM y b nl r) rm mc ms n ∧ (Cond.static y).before args s = true :=
  ⟨callB_of n hts (good_all (code_in h.2.2.1)) rfl hrc hrs (hts _ (inA h.2.1)) (hts _ (inA hl)) h.2.2.2 hR, hts _ (inA h.1)⟩
theorem cwSN2 {host : String} (hts : ∀ w ∈ c0 :: ALL, w.before args s = true) (hl : va_Nw (.methodLinkNest own idx y host) s) (h : MS y b nl r n) (hrc : rm.cells = mc) (hrs : rm.slots = ms) (hR : rm.frames + 1 ≤ R.frames ∧ 8 + (nl + 11) + rm.locals ≤ R.locals) : va_CN R s args own idx y host b nl r (wsM y b nl r) rm mc ms n ∧ (Cond.static y).before args s = true ∧ True :=
  ⟨va_cnB n hts (good_all (code_in h.2.2.1)) rfl hrc hrs hl (hts _ (inA h.2.1)) h.2.2.2 hR, hts _ (inA h.1), trivial⟩
theorem cwI2 (hts : ∀ w ∈ c0 :: ALL, w.before args s = true) (hl : Cond.methodLink own idx y ∈ ALL) (h : MI y b nl n) (hrc : rm.cells = mc) (hrs : rm.slots = ms) (hR : rm.frames + 1 ≤ R.frames ∧ 8 + (nl + 11) + rm.locals ≤ R.locals) : CallB R s args own idx y b nl none (wsM y b nl none) rm mc ms n ∧ y.name = "<init>" ∧ (Cond.instanceMethod y).before args s = true :=
  ⟨callB_of n hts (good_all (code_in h.2.2.1)) rfl hrc hrs (hts _ (inA h.2.1)) (hts _ (inA hl)) ⟨h.2.2.2.1, h.2.2.2.2.1, h.2.2.2.2.2.1⟩ hR, h.2.2.2.2.2.2, hts _ (inA h.1)⟩
end CW
theorem q204 : Cond.fieldLink "ControlText$Bytes" 15 "ControlText$Bytes" "size" "I" ∈ ALL := mem_t 204 (by decide +kernel) (by decide +kernel)
theorem q452 : Cond.fieldLink "ControlText" 14 "ControlText" "text" "LControlText$Bytes;" ∈ ALL := mem_t 452 (by decide +kernel) (by decide +kernel)
theorem q478 : Cond.methodLink "ControlText" 66 yX0_cut ∈ ALL := mem_t 478 (by decide +kernel) (by decide +kernel)
theorem q481 : Cond.code yX0_cut prog_2_method_5_code 2 (Option.none : Option Jvm.ClassFile.FieldType) ∈ ALL := mem_t 481 (by decide +kernel) (by decide +kernel)
theorem q174 : Cond.initialized "ControlText$Bytes" ∈ ALL := mem_t 174 (by decide +kernel) (by decide +kernel)
theorem q479 : Cond.instanceMethod yX0_cut ∈ ALL := mem_t 479 (by decide +kernel) (by decide +kernel)
theorem q480 : Cond.selects "ControlText$Bytes" yX0_cut yX0_cut ∈ ALL := mem_t 480 (by decide +kernel) (by decide +kernel)
theorem mvX0_cut : MV yX0_cut cX0_cut 2 (Option.none : Option Jvm.ClassFile.FieldType) 1 := ⟨q479, q480, q174, q481, by decide +kernel, by decide +kernel, by decide +kernel⟩
theorem q202 : Cond.fieldLink "ControlText$Bytes" 9 "ControlText$Bytes" "bytes" "[I" ∈ ALL := mem_t 202 (by decide +kernel) (by decide +kernel)
theorem q490 : Cond.methodLink "ControlText" 72 yX0_put ∈ ALL := mem_t 490 (by decide +kernel) (by decide +kernel)
theorem q493 : Cond.code yX0_put prog_2_method_3_code 2 (Option.none : Option Jvm.ClassFile.FieldType) ∈ ALL := mem_t 493 (by decide +kernel) (by decide +kernel)
theorem q491 : Cond.instanceMethod yX0_put ∈ ALL := mem_t 491 (by decide +kernel) (by decide +kernel)
theorem q492 : Cond.selects "ControlText$Bytes" yX0_put yX0_put ∈ ALL := mem_t 492 (by decide +kernel) (by decide +kernel)
theorem mvX0_put : MV yX0_put cX0_put 2 (Option.none : Option Jvm.ClassFile.FieldType) 1 := ⟨q491, q492, q174, q493, by decide +kernel, by decide +kernel, by decide +kernel⟩
theorem q486 : Cond.methodLink "ControlText" 69 yX6_feedNumber ∈ ALL := mem_t 486 (by decide +kernel) (by decide +kernel)
theorem q489 : Cond.code yX6_feedNumber prog_1_method_4_code 3 (Option.none : Option Jvm.ClassFile.FieldType) ∈ ALL := mem_t 489 (by decide +kernel) (by decide +kernel)
theorem q173 : Cond.initialized "ControlText" ∈ ALL := mem_t 173 (by decide +kernel) (by decide +kernel)
theorem q488 : Cond.instanceMethod yX6_feedNumber ∈ ALL := mem_t 488 (by decide +kernel) (by decide +kernel)
theorem q5 : Cond.selects "ControlText" yX6_feedNumber yX6_feedNumber ∈ ALL := mem_t 5 (by decide +kernel) (by decide +kernel)
theorem mvX6_feedNumber : MV yX6_feedNumber cX6_feedNumber 3 (Option.none : Option Jvm.ClassFile.FieldType) 1 := ⟨q488, q5, q173, q489, by decide +kernel, by decide +kernel, by decide +kernel⟩
theorem q506 : Cond.methodLink "ControlText$Bytes" 19 yX0_get ∈ ALL := mem_t 506 (by decide +kernel) (by decide +kernel)
theorem q509 : Cond.code yX0_get prog_2_method_2_code 2 (Option.some Jvm.ClassFile.FieldType.int) ∈ ALL := mem_t 509 (by decide +kernel) (by decide +kernel)
theorem q507 : Cond.instanceMethod yX0_get ∈ ALL := mem_t 507 (by decide +kernel) (by decide +kernel)
theorem q508 : Cond.selects "ControlText$Bytes" yX0_get yX0_get ∈ ALL := mem_t 508 (by decide +kernel) (by decide +kernel)
theorem mvX0_get : MV yX0_get cX0_get 2 (Option.some Jvm.ClassFile.FieldType.int) 1 := ⟨q507, q508, q174, q509, by decide +kernel, by decide +kernel, by decide +kernel⟩
theorem q502 : Cond.methodLink "ControlText" 75 yX0_swap ∈ ALL := mem_t 502 (by decide +kernel) (by decide +kernel)
theorem q505 : Cond.code yX0_swap prog_2_method_4_code 4 (Option.some Jvm.ClassFile.FieldType.int) ∈ ALL := mem_t 505 (by decide +kernel) (by decide +kernel)
theorem q503 : Cond.instanceMethod yX0_swap ∈ ALL := mem_t 503 (by decide +kernel) (by decide +kernel)
theorem q504 : Cond.selects "ControlText$Bytes" yX0_swap yX0_swap ∈ ALL := mem_t 504 (by decide +kernel) (by decide +kernel)
theorem mvX0_swap : MV yX0_swap cX0_swap 4 (Option.some Jvm.ClassFile.FieldType.int) 2 := ⟨q503, q504, q174, q505, by decide +kernel, by decide +kernel, by decide +kernel⟩
theorem q308 : Cond.fieldLink "ControlText$Names" 59 "ControlText$Names" "size" "I" ∈ ALL := mem_t 308 (by decide +kernel) (by decide +kernel)
theorem q306 : Cond.fieldLink "ControlText$Names" 20 "ControlText$Names" "slotOf" "[I" ∈ ALL := mem_t 306 (by decide +kernel) (by decide +kernel)
theorem q307 : Cond.fieldLink "ControlText$Names" 23 "ControlText$Names" "slots" "[I" ∈ ALL := mem_t 307 (by decide +kernel) (by decide +kernel)
theorem q305 : Cond.fieldLink "ControlText$Names" 17 "ControlText$Names" "starts" "[I" ∈ ALL := mem_t 305 (by decide +kernel) (by decide +kernel)
theorem q310 : Cond.fieldLink "ControlText$Names" 63 "ControlText$Names" "used" "I" ∈ ALL := mem_t 310 (by decide +kernel) (by decide +kernel)
theorem q400 : Cond.fieldLink "ControlText$Parser" 26 "ControlText$Parser" "kind" "I" ∈ ALL := mem_t 400 (by decide +kernel) (by decide +kernel)
theorem q401 : Cond.fieldLink "ControlText$Parser" 92 "ControlText$Parser" "place" "I" ∈ ALL := mem_t 401 (by decide +kernel) (by decide +kernel)
theorem q403 : Cond.fieldLink "ControlText$Parser" 94 "ControlText$Parser" "placeBefore" "I" ∈ ALL := mem_t 403 (by decide +kernel) (by decide +kernel)
theorem q399 : Cond.fieldLink "ControlText$Parser" 23 "ControlText$Parser" "at" "I" ∈ ALL := mem_t 399 (by decide +kernel) (by decide +kernel)
theorem q402 : Cond.fieldLink "ControlText$Parser" 110 "ControlText$Parser" "value" "I" ∈ ALL := mem_t 402 (by decide +kernel) (by decide +kernel)
theorem q397 : Cond.fieldLink "ControlText$Parser" 15 "ControlText$Parser" "tokens" "LControlText$Tokens;" ∈ ALL := mem_t 397 (by decide +kernel) (by decide +kernel)
theorem q370 : Cond.fieldLink "ControlText$Tree" 33 "ControlText$Tree" "size" "I" ∈ ALL := mem_t 370 (by decide +kernel) (by decide +kernel)
theorem q363 : Cond.fieldLink "ControlText$Tree" 9 "ControlText$Tree" "kinds" "[I" ∈ ALL := mem_t 363 (by decide +kernel) (by decide +kernel)
theorem q364 : Cond.fieldLink "ControlText$Tree" 15 "ControlText$Tree" "places" "[I" ∈ ALL := mem_t 364 (by decide +kernel) (by decide +kernel)
theorem q365 : Cond.fieldLink "ControlText$Tree" 18 "ControlText$Tree" "values" "[I" ∈ ALL := mem_t 365 (by decide +kernel) (by decide +kernel)
theorem q366 : Cond.fieldLink "ControlText$Tree" 21 "ControlText$Tree" "children" "[I" ∈ ALL := mem_t 366 (by decide +kernel) (by decide +kernel)
theorem q398 : Cond.fieldLink "ControlText$Parser" 19 "ControlText$Parser" "tree" "LControlText$Tree;" ∈ ALL := mem_t 398 (by decide +kernel) (by decide +kernel)
theorem q622 : Cond.methodLink "ControlText$Parser" 50 yX3_add ∈ ALL := mem_t 622 (by decide +kernel) (by decide +kernel)
theorem q625 : Cond.code yX3_add prog_8_method_10_code 6 (Option.some Jvm.ClassFile.FieldType.int) ∈ ALL := mem_t 625 (by decide +kernel) (by decide +kernel)
theorem q181 : Cond.initialized "ControlText$Tree" ∈ ALL := mem_t 181 (by decide +kernel) (by decide +kernel)
theorem q623 : Cond.instanceMethod yX3_add ∈ ALL := mem_t 623 (by decide +kernel) (by decide +kernel)
theorem q624 : Cond.selects "ControlText$Tree" yX3_add yX3_add ∈ ALL := mem_t 624 (by decide +kernel) (by decide +kernel)
theorem mvX3_add : MV yX3_add cX3_add 6 (Option.some Jvm.ClassFile.FieldType.int) 4 := ⟨q623, q624, q181, q625, by decide +kernel, by decide +kernel, by decide +kernel⟩
theorem q614 : Cond.methodLink "ControlText$Parser" 39 yX4_take ∈ ALL := mem_t 614 (by decide +kernel) (by decide +kernel)
theorem q617 : Cond.code yX4_take prog_5_method_4_code 3 (Option.none : Option Jvm.ClassFile.FieldType) ∈ ALL := mem_t 617 (by decide +kernel) (by decide +kernel)
theorem q182 : Cond.initialized "ControlText$Parser" ∈ ALL := mem_t 182 (by decide +kernel) (by decide +kernel)
theorem q616 : Cond.instanceMethod yX4_take ∈ ALL := mem_t 616 (by decide +kernel) (by decide +kernel)
theorem q18 : Cond.selects "ControlText$Parser" yX4_take yX4_take ∈ ALL := mem_t 18 (by decide +kernel) (by decide +kernel)
theorem mvX4_take : MV yX4_take cX4_take 3 (Option.none : Option Jvm.ClassFile.FieldType) 1 := ⟨q616, q18, q182, q617, by decide +kernel, by decide +kernel, by decide +kernel⟩
theorem q634 : Cond.methodLink "ControlText$Parser" 115 yX4_kindOfBlock ∈ ALL := mem_t 634 (by decide +kernel) (by decide +kernel)
theorem q636 : Cond.code yX4_kindOfBlock prog_5_method_12_code 1 (Option.some Jvm.ClassFile.FieldType.int) ∈ ALL := mem_t 636 (by decide +kernel) (by decide +kernel)
theorem q635 : Cond.static yX4_kindOfBlock ∈ ALL := mem_t 635 (by decide +kernel) (by decide +kernel)
theorem mvX4_kindOfBlock : MS yX4_kindOfBlock cX4_kindOfBlock 1 (Option.some Jvm.ClassFile.FieldType.int) 1 := ⟨q635, q182, q636, by decide +kernel, by decide +kernel, by decide +kernel⟩
theorem q637 : Cond.methodLink "ControlText$Parser" 118 yX4_takeName ∈ ALL := mem_t 637 (by decide +kernel) (by decide +kernel)
theorem q640 : Cond.code yX4_takeName prog_5_method_8_code 2 (Option.some Jvm.ClassFile.FieldType.int) ∈ ALL := mem_t 640 (by decide +kernel) (by decide +kernel)
theorem q639 : Cond.instanceMethod yX4_takeName ∈ ALL := mem_t 639 (by decide +kernel) (by decide +kernel)
theorem q21 : Cond.selects "ControlText$Parser" yX4_takeName yX4_takeName ∈ ALL := mem_t 21 (by decide +kernel) (by decide +kernel)
theorem mvX4_takeName : MV yX4_takeName cX4_takeName 2 (Option.some Jvm.ClassFile.FieldType.int) 0 := ⟨q639, q21, q182, q640, by decide +kernel, by decide +kernel, by decide +kernel⟩
theorem q641 : Cond.methodLink "ControlText$Parser" 122 yX4_simpleType ∈ ALL := mem_t 641 (by decide +kernel) (by decide +kernel)
theorem q644 : Cond.code yX4_simpleType prog_5_method_18_code 2 (Option.none : Option Jvm.ClassFile.FieldType) ∈ ALL := mem_t 644 (by decide +kernel) (by decide +kernel)
theorem q643 : Cond.instanceMethod yX4_simpleType ∈ ALL := mem_t 643 (by decide +kernel) (by decide +kernel)
theorem q22 : Cond.selects "ControlText$Parser" yX4_simpleType yX4_simpleType ∈ ALL := mem_t 22 (by decide +kernel) (by decide +kernel)
theorem mvX4_simpleType : MV yX4_simpleType cX4_simpleType 2 (Option.none : Option Jvm.ClassFile.FieldType) 1 := ⟨q643, q22, q182, q644, by decide +kernel, by decide +kernel, by decide +kernel⟩
theorem q405 : Cond.fieldLink "ControlText$Parser" 32 "ControlText$Parser" "open" "I" ∈ ALL := mem_t 405 (by decide +kernel) (by decide +kernel)
theorem q404 : Cond.fieldLink "ControlText$Parser" 29 "ControlText$Parser" "signs" "I" ∈ ALL := mem_t 404 (by decide +kernel) (by decide +kernel)
theorem q406 : Cond.fieldLink "ControlText$Parser" 35 "ControlText$Parser" "tooDeep" "Z" ∈ ALL := mem_t 406 (by decide +kernel) (by decide +kernel)
theorem q753 : Cond.fieldLink "ControlText$Sign" 15 "ControlText$Sign" "BINDING" "[I" ∈ ALL := mem_t 753 (by decide +kernel) (by decide +kernel)
theorem q759 : Cond.methodLink "ControlText$Tree" 37 yX3_has ∈ ALL := mem_t 759 (by decide +kernel) (by decide +kernel)
theorem q762 : Cond.code yX3_has prog_8_method_3_code 2 (Option.some Jvm.ClassFile.FieldType.boolean) ∈ ALL := mem_t 762 (by decide +kernel) (by decide +kernel)
theorem q761 : Cond.instanceMethod yX3_has ∈ ALL := mem_t 761 (by decide +kernel) (by decide +kernel)
theorem q47 : Cond.selects "ControlText$Tree" yX3_has yX3_has ∈ ALL := mem_t 47 (by decide +kernel) (by decide +kernel)
theorem mvX3_has : MV yX3_has cX3_has 2 (Option.some Jvm.ClassFile.FieldType.boolean) 1 := ⟨q761, q47, q181, q762, by decide +kernel, by decide +kernel, by decide +kernel⟩
theorem q763 : Cond.methodLink "ControlText$Tree" 41 ⟨"java/lang/System", "arraycopy", "(Ljava/lang/Object;ILjava/lang/Object;II)V"⟩ ∈ ALL := mem_t 763 (by decide +kernel) (by decide +kernel)
theorem q765 : Cond.native ⟨"java/lang/System", "arraycopy", "(Ljava/lang/Object;ILjava/lang/Object;II)V"⟩ ∈ ALL := mem_t 765 (by decide +kernel) (by decide +kernel)
theorem q764 : Cond.static ⟨"java/lang/System", "arraycopy", "(Ljava/lang/Object;ILjava/lang/Object;II)V"⟩ ∈ ALL := mem_t 764 (by decide +kernel) (by decide +kernel)
theorem q187 : Cond.initialized "java/lang/System" ∈ ALL := mem_t 187 (by decide +kernel) (by decide +kernel)
theorem q731 : Cond.methodLink "ControlText$Parser" 192 yX4_operand ∈ ALL := mem_t 731 (by decide +kernel) (by decide +kernel)
theorem q734 : Cond.code yX4_operand prog_5_method_33_code 3 (Option.none : Option Jvm.ClassFile.FieldType) ∈ ALL := mem_t 734 (by decide +kernel) (by decide +kernel)
theorem q733 : Cond.instanceMethod yX4_operand ∈ ALL := mem_t 733 (by decide +kernel) (by decide +kernel)
theorem q43 : Cond.selects "ControlText$Parser" yX4_operand yX4_operand ∈ ALL := mem_t 43 (by decide +kernel) (by decide +kernel)
theorem mvX4_operand : MV yX4_operand cX4_operand 3 (Option.none : Option Jvm.ClassFile.FieldType) 1 := ⟨q733, q43, q182, q734, by decide +kernel, by decide +kernel, by decide +kernel⟩
theorem q747 : Cond.methodLink "ControlText$Parser" 195 yX7_operation ∈ ALL := mem_t 747 (by decide +kernel) (by decide +kernel)
theorem q749 : Cond.code yX7_operation prog_6_method_2_code 1 (Option.some Jvm.ClassFile.FieldType.int) ∈ ALL := mem_t 749 (by decide +kernel) (by decide +kernel)
theorem q186 : Cond.initialized "ControlText$Sign" ∈ ALL := mem_t 186 (by decide +kernel) (by decide +kernel)
theorem q748 : Cond.static yX7_operation ∈ ALL := mem_t 748 (by decide +kernel) (by decide +kernel)
theorem mvX7_operation : MS yX7_operation cX7_operation 1 (Option.some Jvm.ClassFile.FieldType.int) 1 := ⟨q748, q186, q749, by decide +kernel, by decide +kernel, by decide +kernel⟩
theorem q750 : Cond.methodLink "ControlText$Parser" 198 yX7_binding ∈ ALL := mem_t 750 (by decide +kernel) (by decide +kernel)
theorem q752 : Cond.code yX7_binding prog_6_method_4_code 1 (Option.some Jvm.ClassFile.FieldType.int) ∈ ALL := mem_t 752 (by decide +kernel) (by decide +kernel)
theorem q751 : Cond.static yX7_binding ∈ ALL := mem_t 751 (by decide +kernel) (by decide +kernel)
theorem mvX7_binding : MS yX7_binding cX7_binding 1 (Option.some Jvm.ClassFile.FieldType.int) 1 := ⟨q751, q186, q752, by decide +kernel, by decide +kernel, by decide +kernel⟩
theorem q719 : Cond.methodLink "ControlText$Parser" 112 yX4_mayOpen ∈ ALL := mem_t 719 (by decide +kernel) (by decide +kernel)
theorem q722 : Cond.code yX4_mayOpen prog_5_method_6_code 1 (Option.some Jvm.ClassFile.FieldType.boolean) ∈ ALL := mem_t 722 (by decide +kernel) (by decide +kernel)
theorem q721 : Cond.instanceMethod yX4_mayOpen ∈ ALL := mem_t 721 (by decide +kernel) (by decide +kernel)
theorem q40 : Cond.selects "ControlText$Parser" yX4_mayOpen yX4_mayOpen ∈ ALL := mem_t 40 (by decide +kernel) (by decide +kernel)
theorem mvX4_mayOpen : MV yX4_mayOpen cX4_mayOpen 1 (Option.some Jvm.ClassFile.FieldType.boolean) 0 := ⟨q721, q40, q182, q722, by decide +kernel, by decide +kernel, by decide +kernel⟩
theorem q755 : Cond.methodLink "ControlText$Parser" 175 yX3_wrap ∈ ALL := mem_t 755 (by decide +kernel) (by decide +kernel)
theorem q758 : Cond.code yX3_wrap prog_8_method_11_code 6 (Option.none : Option Jvm.ClassFile.FieldType) ∈ ALL := mem_t 758 (by decide +kernel) (by decide +kernel)
theorem q756 : Cond.instanceMethod yX3_wrap ∈ ALL := mem_t 756 (by decide +kernel) (by decide +kernel)
theorem q757 : Cond.selects "ControlText$Tree" yX3_wrap yX3_wrap ∈ ALL := mem_t 757 (by decide +kernel) (by decide +kernel)
theorem mvX3_wrap : MV yX3_wrap cX3_wrap 6 (Option.none : Option Jvm.ClassFile.FieldType) 4 := ⟨q756, q757, q181, q758, by decide +kernel, by decide +kernel, by decide +kernel⟩
theorem q727 : Cond.methodLink "ControlText$Parser" 188 yX4_expression ∈ ALL := mem_t 727 (by decide +kernel) (by decide +kernel)
theorem q730 : Cond.code yX4_expression prog_5_method_32_code 7 (Option.none : Option Jvm.ClassFile.FieldType) ∈ ALL := mem_t 730 (by decide +kernel) (by decide +kernel)
theorem q729 : Cond.instanceMethod yX4_expression ∈ ALL := mem_t 729 (by decide +kernel) (by decide +kernel)
theorem q42 : Cond.selects "ControlText$Parser" yX4_expression yX4_expression ∈ ALL := mem_t 42 (by decide +kernel) (by decide +kernel)
theorem mvX4_expression : MV yX4_expression cX4_expression 7 (Option.none : Option Jvm.ClassFile.FieldType) 2 := ⟨q729, q42, q182, q730, by decide +kernel, by decide +kernel, by decide +kernel⟩
theorem q715 : Cond.methodLink "ControlText$Parser" 166 yX4_takeOpening ∈ ALL := mem_t 715 (by decide +kernel) (by decide +kernel)
theorem q718 : Cond.code yX4_takeOpening prog_5_method_5_code 1 (Option.none : Option Jvm.ClassFile.FieldType) ∈ ALL := mem_t 718 (by decide +kernel) (by decide +kernel)
theorem q717 : Cond.instanceMethod yX4_takeOpening ∈ ALL := mem_t 717 (by decide +kernel) (by decide +kernel)
theorem q39 : Cond.selects "ControlText$Parser" yX4_takeOpening yX4_takeOpening ∈ ALL := mem_t 39 (by decide +kernel) (by decide +kernel)
theorem mvX4_takeOpening : MV yX4_takeOpening cX4_takeOpening 1 (Option.none : Option Jvm.ClassFile.FieldType) 0 := ⟨q717, q39, q182, q718, by decide +kernel, by decide +kernel, by decide +kernel⟩
theorem q743 : Cond.methodLink "ControlText$Parser" 179 yX4_takeComma ∈ ALL := mem_t 743 (by decide +kernel) (by decide +kernel)
theorem q746 : Cond.code yX4_takeComma prog_5_method_26_code 1 (Option.some Jvm.ClassFile.FieldType.boolean) ∈ ALL := mem_t 746 (by decide +kernel) (by decide +kernel)
theorem q745 : Cond.instanceMethod yX4_takeComma ∈ ALL := mem_t 745 (by decide +kernel) (by decide +kernel)
theorem q46 : Cond.selects "ControlText$Parser" yX4_takeComma yX4_takeComma ∈ ALL := mem_t 46 (by decide +kernel) (by decide +kernel)
theorem mvX4_takeComma : MV yX4_takeComma cX4_takeComma 1 (Option.some Jvm.ClassFile.FieldType.boolean) 0 := ⟨q745, q46, q182, q746, by decide +kernel, by decide +kernel, by decide +kernel⟩
theorem q735 : Cond.methodLink "ControlText$Parser" 172 yX4_takeClosing ∈ ALL := mem_t 735 (by decide +kernel) (by decide +kernel)
theorem q738 : Cond.code yX4_takeClosing prog_5_method_7_code 2 (Option.none : Option Jvm.ClassFile.FieldType) ∈ ALL := mem_t 738 (by decide +kernel) (by decide +kernel)
theorem q737 : Cond.instanceMethod yX4_takeClosing ∈ ALL := mem_t 737 (by decide +kernel) (by decide +kernel)
theorem q44 : Cond.selects "ControlText$Parser" yX4_takeClosing yX4_takeClosing ∈ ALL := mem_t 44 (by decide +kernel) (by decide +kernel)
theorem mvX4_takeClosing : MV yX4_takeClosing cX4_takeClosing 2 (Option.none : Option Jvm.ClassFile.FieldType) 1 := ⟨q737, q44, q182, q738, by decide +kernel, by decide +kernel, by decide +kernel⟩
theorem q657 : Cond.methodLink "ControlText$Parser" 131 yX4_nameNode ∈ ALL := mem_t 657 (by decide +kernel) (by decide +kernel)
theorem q660 : Cond.code yX4_nameNode prog_5_method_9_code 2 (Option.none : Option Jvm.ClassFile.FieldType) ∈ ALL := mem_t 660 (by decide +kernel) (by decide +kernel)
theorem q659 : Cond.instanceMethod yX4_nameNode ∈ ALL := mem_t 659 (by decide +kernel) (by decide +kernel)
theorem q26 : Cond.selects "ControlText$Parser" yX4_nameNode yX4_nameNode ∈ ALL := mem_t 26 (by decide +kernel) (by decide +kernel)
theorem mvX4_nameNode : MV yX4_nameNode cX4_nameNode 2 (Option.none : Option Jvm.ClassFile.FieldType) 1 := ⟨q659, q26, q182, q660, by decide +kernel, by decide +kernel, by decide +kernel⟩
theorem q739 : Cond.methodLink "ControlText$Parser" 201 yX4_operandByName ∈ ALL := mem_t 739 (by decide +kernel) (by decide +kernel)
theorem q742 : Cond.code yX4_operandByName prog_5_method_34_code 8 (Option.none : Option Jvm.ClassFile.FieldType) ∈ ALL := mem_t 742 (by decide +kernel) (by decide +kernel)
theorem q741 : Cond.instanceMethod yX4_operandByName ∈ ALL := mem_t 741 (by decide +kernel) (by decide +kernel)
theorem q45 : Cond.selects "ControlText$Parser" yX4_operandByName yX4_operandByName ∈ ALL := mem_t 45 (by decide +kernel) (by decide +kernel)
theorem mvX4_operandByName : MV yX4_operandByName cX4_operandByName 8 (Option.none : Option Jvm.ClassFile.FieldType) 1 := ⟨q741, q45, q182, q742, by decide +kernel, by decide +kernel, by decide +kernel⟩
theorem q669 : Cond.methodLink "ControlText$Parser" 142 yX4_literal ∈ ALL := mem_t 669 (by decide +kernel) (by decide +kernel)
theorem q672 : Cond.code yX4_literal prog_5_method_21_code 2 (Option.none : Option Jvm.ClassFile.FieldType) ∈ ALL := mem_t 672 (by decide +kernel) (by decide +kernel)
theorem q671 : Cond.instanceMethod yX4_literal ∈ ALL := mem_t 671 (by decide +kernel) (by decide +kernel)
theorem q29 : Cond.selects "ControlText$Parser" yX4_literal yX4_literal ∈ ALL := mem_t 29 (by decide +kernel) (by decide +kernel)
theorem mvX4_literal : MV yX4_literal cX4_literal 2 (Option.none : Option Jvm.ClassFile.FieldType) 1 := ⟨q671, q29, q182, q672, by decide +kernel, by decide +kernel, by decide +kernel⟩
theorem q723 : Cond.methodLink "ControlText$Parser" 169 yX4_outermostExpression ∈ ALL := mem_t 723 (by decide +kernel) (by decide +kernel)
theorem q726 : Cond.code yX4_outermostExpression prog_5_method_31_code 2 (Option.none : Option Jvm.ClassFile.FieldType) ∈ ALL := mem_t 726 (by decide +kernel) (by decide +kernel)
theorem q725 : Cond.instanceMethod yX4_outermostExpression ∈ ALL := mem_t 725 (by decide +kernel) (by decide +kernel)
theorem q41 : Cond.selects "ControlText$Parser" yX4_outermostExpression yX4_outermostExpression ∈ ALL := mem_t 41 (by decide +kernel) (by decide +kernel)
theorem mvX4_outermostExpression : MV yX4_outermostExpression cX4_outermostExpression 2 (Option.none : Option Jvm.ClassFile.FieldType) 1 := ⟨q725, q41, q182, q726, by decide +kernel, by decide +kernel, by decide +kernel⟩
theorem q665 : Cond.methodLink "ControlText$Parser" 139 yX4_constant ∈ ALL := mem_t 665 (by decide +kernel) (by decide +kernel)
theorem q668 : Cond.code yX4_constant prog_5_method_20_code 3 (Option.none : Option Jvm.ClassFile.FieldType) ∈ ALL := mem_t 668 (by decide +kernel) (by decide +kernel)
theorem q667 : Cond.instanceMethod yX4_constant ∈ ALL := mem_t 667 (by decide +kernel) (by decide +kernel)
theorem q28 : Cond.selects "ControlText$Parser" yX4_constant yX4_constant ∈ ALL := mem_t 28 (by decide +kernel) (by decide +kernel)
theorem mvX4_constant : MV yX4_constant cX4_constant 3 (Option.none : Option Jvm.ClassFile.FieldType) 1 := ⟨q667, q28, q182, q668, by decide +kernel, by decide +kernel, by decide +kernel⟩
theorem q778 : Cond.methodLink "ControlText$Parser" 182 yX4_startsConstant ∈ ALL := mem_t 778 (by decide +kernel) (by decide +kernel)
theorem q781 : Cond.code yX4_startsConstant prog_5_method_19_code 1 (Option.some Jvm.ClassFile.FieldType.boolean) ∈ ALL := mem_t 781 (by decide +kernel) (by decide +kernel)
theorem q780 : Cond.instanceMethod yX4_startsConstant ∈ ALL := mem_t 780 (by decide +kernel) (by decide +kernel)
theorem q51 : Cond.selects "ControlText$Parser" yX4_startsConstant yX4_startsConstant ∈ ALL := mem_t 51 (by decide +kernel) (by decide +kernel)
theorem mvX4_startsConstant : MV yX4_startsConstant cX4_startsConstant 1 (Option.some Jvm.ClassFile.FieldType.boolean) 0 := ⟨q780, q51, q182, q781, by decide +kernel, by decide +kernel, by decide +kernel⟩
theorem q782 : Cond.methodLink "ControlText$Parser" 185 yX4_ranges ∈ ALL := mem_t 782 (by decide +kernel) (by decide +kernel)
theorem q785 : Cond.code yX4_ranges prog_5_method_29_code 5 (Option.none : Option Jvm.ClassFile.FieldType) ∈ ALL := mem_t 785 (by decide +kernel) (by decide +kernel)
theorem q784 : Cond.instanceMethod yX4_ranges ∈ ALL := mem_t 784 (by decide +kernel) (by decide +kernel)
theorem q52 : Cond.selects "ControlText$Parser" yX4_ranges yX4_ranges ∈ ALL := mem_t 52 (by decide +kernel) (by decide +kernel)
theorem mvX4_ranges : MV yX4_ranges cX4_ranges 5 (Option.none : Option Jvm.ClassFile.FieldType) 1 := ⟨q784, q52, q182, q785, by decide +kernel, by decide +kernel, by decide +kernel⟩
theorem q703 : Cond.methodLink "ControlText$Parser" 70 yX4_body ∈ ALL := mem_t 703 (by decide +kernel) (by decide +kernel)
theorem q706 : Cond.code yX4_body prog_5_method_22_code 5 (Option.none : Option Jvm.ClassFile.FieldType) ∈ ALL := mem_t 706 (by decide +kernel) (by decide +kernel)
theorem q705 : Cond.instanceMethod yX4_body ∈ ALL := mem_t 705 (by decide +kernel) (by decide +kernel)
theorem q36 : Cond.selects "ControlText$Parser" yX4_body yX4_body ∈ ALL := mem_t 36 (by decide +kernel) (by decide +kernel)
theorem mvX4_body : MV yX4_body cX4_body 5 (Option.none : Option Jvm.ClassFile.FieldType) 1 := ⟨q705, q36, q182, q706, by decide +kernel, by decide +kernel, by decide +kernel⟩
theorem q766 : Cond.methodLink "ControlText$Parser" 153 yX4_assignment ∈ ALL := mem_t 766 (by decide +kernel) (by decide +kernel)
theorem q769 : Cond.code yX4_assignment prog_5_method_24_code 6 (Option.none : Option Jvm.ClassFile.FieldType) ∈ ALL := mem_t 769 (by decide +kernel) (by decide +kernel)
theorem q768 : Cond.instanceMethod yX4_assignment ∈ ALL := mem_t 768 (by decide +kernel) (by decide +kernel)
theorem q48 : Cond.selects "ControlText$Parser" yX4_assignment yX4_assignment ∈ ALL := mem_t 48 (by decide +kernel) (by decide +kernel)
theorem mvX4_assignment : MV yX4_assignment cX4_assignment 6 (Option.none : Option Jvm.ClassFile.FieldType) 3 := ⟨q768, q48, q182, q769, by decide +kernel, by decide +kernel, by decide +kernel⟩
theorem q711 : Cond.methodLink "ControlText$Parser" 149 yX4_invocation ∈ ALL := mem_t 711 (by decide +kernel) (by decide +kernel)
theorem q714 : Cond.code yX4_invocation prog_5_method_25_code 9 (Option.none : Option Jvm.ClassFile.FieldType) ∈ ALL := mem_t 714 (by decide +kernel) (by decide +kernel)
theorem q713 : Cond.instanceMethod yX4_invocation ∈ ALL := mem_t 713 (by decide +kernel) (by decide +kernel)
theorem q38 : Cond.selects "ControlText$Parser" yX4_invocation yX4_invocation ∈ ALL := mem_t 38 (by decide +kernel) (by decide +kernel)
theorem mvX4_invocation : MV yX4_invocation cX4_invocation 9 (Option.none : Option Jvm.ClassFile.FieldType) 3 := ⟨q713, q38, q182, q714, by decide +kernel, by decide +kernel, by decide +kernel⟩
theorem q770 : Cond.methodLink "ControlText$Parser" 156 yX4_ifStatement ∈ ALL := mem_t 770 (by decide +kernel) (by decide +kernel)
theorem q773 : Cond.code yX4_ifStatement prog_5_method_27_code 4 (Option.none : Option Jvm.ClassFile.FieldType) ∈ ALL := mem_t 773 (by decide +kernel) (by decide +kernel)
theorem q772 : Cond.instanceMethod yX4_ifStatement ∈ ALL := mem_t 772 (by decide +kernel) (by decide +kernel)
theorem q49 : Cond.selects "ControlText$Parser" yX4_ifStatement yX4_ifStatement ∈ ALL := mem_t 49 (by decide +kernel) (by decide +kernel)
theorem mvX4_ifStatement : MV yX4_ifStatement cX4_ifStatement 4 (Option.none : Option Jvm.ClassFile.FieldType) 1 := ⟨q772, q49, q182, q773, by decide +kernel, by decide +kernel, by decide +kernel⟩
theorem q774 : Cond.methodLink "ControlText$Parser" 159 yX4_caseStatement ∈ ALL := mem_t 774 (by decide +kernel) (by decide +kernel)
theorem q777 : Cond.code yX4_caseStatement prog_5_method_28_code 5 (Option.none : Option Jvm.ClassFile.FieldType) ∈ ALL := mem_t 777 (by decide +kernel) (by decide +kernel)
theorem q776 : Cond.instanceMethod yX4_caseStatement ∈ ALL := mem_t 776 (by decide +kernel) (by decide +kernel)
theorem q50 : Cond.selects "ControlText$Parser" yX4_caseStatement yX4_caseStatement ∈ ALL := mem_t 50 (by decide +kernel) (by decide +kernel)
theorem mvX4_caseStatement : MV yX4_caseStatement cX4_caseStatement 5 (Option.none : Option Jvm.ClassFile.FieldType) 1 := ⟨q776, q50, q182, q777, by decide +kernel, by decide +kernel, by decide +kernel⟩
theorem q786 : Cond.methodLink "ControlText$Parser" 162 yX4_forStatement ∈ ALL := mem_t 786 (by decide +kernel) (by decide +kernel)
theorem q789 : Cond.code yX4_forStatement prog_5_method_30_code 4 (Option.none : Option Jvm.ClassFile.FieldType) ∈ ALL := mem_t 789 (by decide +kernel) (by decide +kernel)
theorem q788 : Cond.instanceMethod yX4_forStatement ∈ ALL := mem_t 788 (by decide +kernel) (by decide +kernel)
theorem q53 : Cond.selects "ControlText$Parser" yX4_forStatement yX4_forStatement ∈ ALL := mem_t 53 (by decide +kernel) (by decide +kernel)
theorem mvX4_forStatement : MV yX4_forStatement cX4_forStatement 4 (Option.none : Option Jvm.ClassFile.FieldType) 1 := ⟨q788, q53, q182, q789, by decide +kernel, by decide +kernel, by decide +kernel⟩
theorem q707 : Cond.methodLink "ControlText$Parser" 145 yX4_statement ∈ ALL := mem_t 707 (by decide +kernel) (by decide +kernel)
theorem q710 : Cond.code yX4_statement prog_5_method_23_code 4 (Option.some Jvm.ClassFile.FieldType.boolean) ∈ ALL := mem_t 710 (by decide +kernel) (by decide +kernel)
theorem q709 : Cond.instanceMethod yX4_statement ∈ ALL := mem_t 709 (by decide +kernel) (by decide +kernel)
theorem q37 : Cond.selects "ControlText$Parser" yX4_statement yX4_statement ∈ ALL := mem_t 37 (by decide +kernel) (by decide +kernel)
theorem mvX4_statement : MV yX4_statement cX4_statement 4 (Option.some Jvm.ClassFile.FieldType.boolean) 1 := ⟨q709, q37, q182, q710, by decide +kernel, by decide +kernel, by decide +kernel⟩
theorem q689 : Cond.methodLink "ControlText$Parser" 222 yX4_coilValue ∈ ALL := mem_t 689 (by decide +kernel) (by decide +kernel)
theorem q691 : Cond.code yX4_coilValue prog_5_method_42_code 1 (Option.some Jvm.ClassFile.FieldType.int) ∈ ALL := mem_t 691 (by decide +kernel) (by decide +kernel)
theorem q690 : Cond.static yX4_coilValue ∈ ALL := mem_t 690 (by decide +kernel) (by decide +kernel)
theorem mvX4_coilValue : MS yX4_coilValue cX4_coilValue 1 (Option.some Jvm.ClassFile.FieldType.int) 1 := ⟨q690, q182, q691, by decide +kernel, by decide +kernel, by decide +kernel⟩
theorem q696 : Cond.methodLink "ControlText$Parser" 219 yX4_contactValue ∈ ALL := mem_t 696 (by decide +kernel) (by decide +kernel)
theorem q698 : Cond.code yX4_contactValue prog_5_method_40_code 1 (Option.some Jvm.ClassFile.FieldType.int) ∈ ALL := mem_t 698 (by decide +kernel) (by decide +kernel)
theorem q697 : Cond.static yX4_contactValue ∈ ALL := mem_t 697 (by decide +kernel) (by decide +kernel)
theorem mvX4_contactValue : MS yX4_contactValue cX4_contactValue 1 (Option.some Jvm.ClassFile.FieldType.int) 1 := ⟨q697, q182, q698, by decide +kernel, by decide +kernel, by decide +kernel⟩
theorem q692 : Cond.methodLink "ControlText$Parser" 216 yX4_contact ∈ ALL := mem_t 692 (by decide +kernel) (by decide +kernel)
theorem q695 : Cond.code yX4_contact prog_5_method_39_code 6 (Option.none : Option Jvm.ClassFile.FieldType) ∈ ALL := mem_t 695 (by decide +kernel) (by decide +kernel)
theorem q694 : Cond.instanceMethod yX4_contact ∈ ALL := mem_t 694 (by decide +kernel) (by decide +kernel)
theorem q34 : Cond.selects "ControlText$Parser" yX4_contact yX4_contact ∈ ALL := mem_t 34 (by decide +kernel) (by decide +kernel)
theorem mvX4_contact : MV yX4_contact cX4_contact 6 (Option.none : Option Jvm.ClassFile.FieldType) 1 := ⟨q694, q34, q182, q695, by decide +kernel, by decide +kernel, by decide +kernel⟩
theorem q685 : Cond.methodLink "ControlText$Parser" 213 yX4_coil ∈ ALL := mem_t 685 (by decide +kernel) (by decide +kernel)
theorem q688 : Cond.code yX4_coil prog_5_method_41_code 5 (Option.none : Option Jvm.ClassFile.FieldType) ∈ ALL := mem_t 688 (by decide +kernel) (by decide +kernel)
theorem q687 : Cond.instanceMethod yX4_coil ∈ ALL := mem_t 687 (by decide +kernel) (by decide +kernel)
theorem q33 : Cond.selects "ControlText$Parser" yX4_coil yX4_coil ∈ ALL := mem_t 33 (by decide +kernel) (by decide +kernel)
theorem mvX4_coil : MV yX4_coil cX4_coil 5 (Option.none : Option Jvm.ClassFile.FieldType) 1 := ⟨q687, q33, q182, q688, by decide +kernel, by decide +kernel, by decide +kernel⟩
theorem q681 : Cond.methodLink "ControlText$Parser" 210 yX4_cell ∈ ALL := mem_t 681 (by decide +kernel) (by decide +kernel)
theorem q684 : Cond.code yX4_cell prog_5_method_38_code 2 (Option.none : Option Jvm.ClassFile.FieldType) ∈ ALL := mem_t 684 (by decide +kernel) (by decide +kernel)
theorem q683 : Cond.instanceMethod yX4_cell ∈ ALL := mem_t 683 (by decide +kernel) (by decide +kernel)
theorem q32 : Cond.selects "ControlText$Parser" yX4_cell yX4_cell ∈ ALL := mem_t 32 (by decide +kernel) (by decide +kernel)
theorem mvX4_cell : MV yX4_cell cX4_cell 2 (Option.none : Option Jvm.ClassFile.FieldType) 1 := ⟨q683, q32, q182, q684, by decide +kernel, by decide +kernel, by decide +kernel⟩
theorem q699 : Cond.methodLink "ControlText$Parser" 207 yX4_startsCell ∈ ALL := mem_t 699 (by decide +kernel) (by decide +kernel)
theorem q702 : Cond.code yX4_startsCell prog_5_method_36_code 1 (Option.some Jvm.ClassFile.FieldType.boolean) ∈ ALL := mem_t 702 (by decide +kernel) (by decide +kernel)
theorem q701 : Cond.instanceMethod yX4_startsCell ∈ ALL := mem_t 701 (by decide +kernel) (by decide +kernel)
theorem q35 : Cond.selects "ControlText$Parser" yX4_startsCell yX4_startsCell ∈ ALL := mem_t 35 (by decide +kernel) (by decide +kernel)
theorem mvX4_startsCell : MV yX4_startsCell cX4_startsCell 1 (Option.some Jvm.ClassFile.FieldType.boolean) 0 := ⟨q701, q35, q182, q702, by decide +kernel, by decide +kernel, by decide +kernel⟩
theorem q677 : Cond.methodLink "ControlText$Parser" 204 yX4_row ∈ ALL := mem_t 677 (by decide +kernel) (by decide +kernel)
theorem q680 : Cond.code yX4_row prog_5_method_37_code 4 (Option.none : Option Jvm.ClassFile.FieldType) ∈ ALL := mem_t 680 (by decide +kernel) (by decide +kernel)
theorem q679 : Cond.instanceMethod yX4_row ∈ ALL := mem_t 679 (by decide +kernel) (by decide +kernel)
theorem q31 : Cond.selects "ControlText$Parser" yX4_row yX4_row ∈ ALL := mem_t 31 (by decide +kernel) (by decide +kernel)
theorem mvX4_row : MV yX4_row cX4_row 4 (Option.none : Option Jvm.ClassFile.FieldType) 1 := ⟨q679, q31, q182, q680, by decide +kernel, by decide +kernel, by decide +kernel⟩
theorem q661 : Cond.methodLink "ControlText$Parser" 134 yX4_type ∈ ALL := mem_t 661 (by decide +kernel) (by decide +kernel)
theorem q664 : Cond.code yX4_type prog_5_method_17_code 3 (Option.none : Option Jvm.ClassFile.FieldType) ∈ ALL := mem_t 664 (by decide +kernel) (by decide +kernel)
theorem q663 : Cond.instanceMethod yX4_type ∈ ALL := mem_t 663 (by decide +kernel) (by decide +kernel)
theorem q27 : Cond.selects "ControlText$Parser" yX4_type yX4_type ∈ ALL := mem_t 27 (by decide +kernel) (by decide +kernel)
theorem mvX4_type : MV yX4_type cX4_type 3 (Option.none : Option Jvm.ClassFile.FieldType) 1 := ⟨q663, q27, q182, q664, by decide +kernel, by decide +kernel, by decide +kernel⟩
theorem q649 : Cond.methodLink "ControlText$Parser" 125 yX4_startsSection ∈ ALL := mem_t 649 (by decide +kernel) (by decide +kernel)
theorem q652 : Cond.code yX4_startsSection prog_5_method_14_code 1 (Option.some Jvm.ClassFile.FieldType.boolean) ∈ ALL := mem_t 652 (by decide +kernel) (by decide +kernel)
theorem q651 : Cond.instanceMethod yX4_startsSection ∈ ALL := mem_t 651 (by decide +kernel) (by decide +kernel)
theorem q24 : Cond.selects "ControlText$Parser" yX4_startsSection yX4_startsSection ∈ ALL := mem_t 24 (by decide +kernel) (by decide +kernel)
theorem mvX4_startsSection : MV yX4_startsSection cX4_startsSection 1 (Option.some Jvm.ClassFile.FieldType.boolean) 0 := ⟨q651, q24, q182, q652, by decide +kernel, by decide +kernel, by decide +kernel⟩
theorem q653 : Cond.methodLink "ControlText$Parser" 128 yX4_declaration ∈ ALL := mem_t 653 (by decide +kernel) (by decide +kernel)
theorem q656 : Cond.code yX4_declaration prog_5_method_16_code 4 (Option.none : Option Jvm.ClassFile.FieldType) ∈ ALL := mem_t 656 (by decide +kernel) (by decide +kernel)
theorem q655 : Cond.instanceMethod yX4_declaration ∈ ALL := mem_t 655 (by decide +kernel) (by decide +kernel)
theorem q25 : Cond.selects "ControlText$Parser" yX4_declaration yX4_declaration ∈ ALL := mem_t 25 (by decide +kernel) (by decide +kernel)
theorem mvX4_declaration : MV yX4_declaration cX4_declaration 4 (Option.none : Option Jvm.ClassFile.FieldType) 1 := ⟨q655, q25, q182, q656, by decide +kernel, by decide +kernel, by decide +kernel⟩
theorem q339 : Cond.fieldLink "ControlText$Tokens" 29 "ControlText$Tokens" "size" "I" ∈ ALL := mem_t 339 (by decide +kernel) (by decide +kernel)
theorem q333 : Cond.fieldLink "ControlText$Tokens" 11 "ControlText$Tokens" "kinds" "[I" ∈ ALL := mem_t 333 (by decide +kernel) (by decide +kernel)
theorem q335 : Cond.fieldLink "ControlText$Tokens" 15 "ControlText$Tokens" "places" "[I" ∈ ALL := mem_t 335 (by decide +kernel) (by decide +kernel)
theorem q337 : Cond.fieldLink "ControlText$Tokens" 18 "ControlText$Tokens" "values" "[I" ∈ ALL := mem_t 337 (by decide +kernel) (by decide +kernel)
theorem q797 : Cond.methodLink "ControlText$Parser" 81 yX2_kind ∈ ALL := mem_t 797 (by decide +kernel) (by decide +kernel)
theorem q609 : Cond.code yX2_kind prog_7_method_2_code 2 (Option.some Jvm.ClassFile.FieldType.int) ∈ ALL := mem_t 609 (by decide +kernel) (by decide +kernel)
theorem q180 : Cond.initialized "ControlText$Tokens" ∈ ALL := mem_t 180 (by decide +kernel) (by decide +kernel)
theorem q607 : Cond.instanceMethod yX2_kind ∈ ALL := mem_t 607 (by decide +kernel) (by decide +kernel)
theorem q608 : Cond.selects "ControlText$Tokens" yX2_kind yX2_kind ∈ ALL := mem_t 608 (by decide +kernel) (by decide +kernel)
theorem mvX2_kind : MV yX2_kind cX2_kind 2 (Option.some Jvm.ClassFile.FieldType.int) 1 := ⟨q607, q608, q180, q609, by decide +kernel, by decide +kernel, by decide +kernel⟩
theorem q407 : Cond.fieldLink "ControlText$Parser" 83 "ControlText$Parser" "fault" "I" ∈ ALL := mem_t 407 (by decide +kernel) (by decide +kernel)
theorem q802 : Cond.methodLink "ControlText$Parser" 89 yX2_place ∈ ALL := mem_t 802 (by decide +kernel) (by decide +kernel)
theorem q805 : Cond.code yX2_place prog_7_method_3_code 2 (Option.some Jvm.ClassFile.FieldType.int) ∈ ALL := mem_t 805 (by decide +kernel) (by decide +kernel)
theorem q803 : Cond.instanceMethod yX2_place ∈ ALL := mem_t 803 (by decide +kernel) (by decide +kernel)
theorem q804 : Cond.selects "ControlText$Tokens" yX2_place yX2_place ∈ ALL := mem_t 804 (by decide +kernel) (by decide +kernel)
theorem mvX2_place : MV yX2_place cX2_place 2 (Option.some Jvm.ClassFile.FieldType.int) 1 := ⟨q803, q804, q180, q805, by decide +kernel, by decide +kernel, by decide +kernel⟩
theorem q409 : Cond.fieldLink "ControlText$Parser" 9 "ControlText$Parser" "faultPlace" "I" ∈ ALL := mem_t 409 (by decide +kernel) (by decide +kernel)
theorem q798 : Cond.methodLink "ControlText$Parser" 86 yX2_value ∈ ALL := mem_t 798 (by decide +kernel) (by decide +kernel)
theorem q801 : Cond.code yX2_value prog_7_method_4_code 2 (Option.some Jvm.ClassFile.FieldType.int) ∈ ALL := mem_t 801 (by decide +kernel) (by decide +kernel)
theorem q799 : Cond.instanceMethod yX2_value ∈ ALL := mem_t 799 (by decide +kernel) (by decide +kernel)
theorem q800 : Cond.selects "ControlText$Tokens" yX2_value yX2_value ∈ ALL := mem_t 800 (by decide +kernel) (by decide +kernel)
theorem mvX2_value : MV yX2_value cX2_value 2 (Option.some Jvm.ClassFile.FieldType.int) 1 := ⟨q799, q800, q180, q801, by decide +kernel, by decide +kernel, by decide +kernel⟩
theorem q618 : Cond.methodLink "ControlText$Parser" 43 yX3_forget ∈ ALL := mem_t 618 (by decide +kernel) (by decide +kernel)
theorem q621 : Cond.code yX3_forget prog_8_method_2_code 1 (Option.none : Option Jvm.ClassFile.FieldType) ∈ ALL := mem_t 621 (by decide +kernel) (by decide +kernel)
theorem q619 : Cond.instanceMethod yX3_forget ∈ ALL := mem_t 619 (by decide +kernel) (by decide +kernel)
theorem q620 : Cond.selects "ControlText$Tree" yX3_forget yX3_forget ∈ ALL := mem_t 620 (by decide +kernel) (by decide +kernel)
theorem mvX3_forget : MV yX3_forget cX3_forget 1 (Option.none : Option Jvm.ClassFile.FieldType) 0 := ⟨q619, q620, q181, q621, by decide +kernel, by decide +kernel, by decide +kernel⟩
theorem q626 : Cond.methodLink "ControlText$Parser" 54 yX4_startsBlock ∈ ALL := mem_t 626 (by decide +kernel) (by decide +kernel)
theorem q629 : Cond.code yX4_startsBlock prog_5_method_10_code 1 (Option.some Jvm.ClassFile.FieldType.boolean) ∈ ALL := mem_t 629 (by decide +kernel) (by decide +kernel)
theorem q628 : Cond.instanceMethod yX4_startsBlock ∈ ALL := mem_t 628 (by decide +kernel) (by decide +kernel)
theorem q19 : Cond.selects "ControlText$Parser" yX4_startsBlock yX4_startsBlock ∈ ALL := mem_t 19 (by decide +kernel) (by decide +kernel)
theorem mvX4_startsBlock : MV yX4_startsBlock cX4_startsBlock 1 (Option.some Jvm.ClassFile.FieldType.boolean) 0 := ⟨q628, q19, q182, q629, by decide +kernel, by decide +kernel, by decide +kernel⟩
theorem q630 : Cond.methodLink "ControlText$Parser" 58 yX4_blockHead ∈ ALL := mem_t 630 (by decide +kernel) (by decide +kernel)
theorem q633 : Cond.code yX4_blockHead prog_5_method_13_code 5 (Option.some Jvm.ClassFile.FieldType.int) ∈ ALL := mem_t 633 (by decide +kernel) (by decide +kernel)
theorem q632 : Cond.instanceMethod yX4_blockHead ∈ ALL := mem_t 632 (by decide +kernel) (by decide +kernel)
theorem q20 : Cond.selects "ControlText$Parser" yX4_blockHead yX4_blockHead ∈ ALL := mem_t 20 (by decide +kernel) (by decide +kernel)
theorem mvX4_blockHead : MV yX4_blockHead cX4_blockHead 5 (Option.some Jvm.ClassFile.FieldType.int) 1 := ⟨q632, q20, q182, q633, by decide +kernel, by decide +kernel, by decide +kernel⟩
theorem q645 : Cond.methodLink "ControlText$Parser" 62 yX4_sections ∈ ALL := mem_t 645 (by decide +kernel) (by decide +kernel)
theorem q648 : Cond.code yX4_sections prog_5_method_15_code 5 (Option.none : Option Jvm.ClassFile.FieldType) ∈ ALL := mem_t 648 (by decide +kernel) (by decide +kernel)
theorem q647 : Cond.instanceMethod yX4_sections ∈ ALL := mem_t 647 (by decide +kernel) (by decide +kernel)
theorem q23 : Cond.selects "ControlText$Parser" yX4_sections yX4_sections ∈ ALL := mem_t 23 (by decide +kernel) (by decide +kernel)
theorem mvX4_sections : MV yX4_sections cX4_sections 5 (Option.none : Option Jvm.ClassFile.FieldType) 1 := ⟨q647, q23, q182, q648, by decide +kernel, by decide +kernel, by decide +kernel⟩
theorem q790 : Cond.methodLink "ControlText$Parser" 73 yX4_endOfBlock ∈ ALL := mem_t 790 (by decide +kernel) (by decide +kernel)
theorem q792 : Cond.code yX4_endOfBlock prog_5_method_11_code 1 (Option.some Jvm.ClassFile.FieldType.int) ∈ ALL := mem_t 792 (by decide +kernel) (by decide +kernel)
theorem q791 : Cond.static yX4_endOfBlock ∈ ALL := mem_t 791 (by decide +kernel) (by decide +kernel)
theorem mvX4_endOfBlock : MS yX4_endOfBlock cX4_endOfBlock 1 (Option.some Jvm.ClassFile.FieldType.int) 1 := ⟨q791, q182, q792, by decide +kernel, by decide +kernel, by decide +kernel⟩
theorem q673 : Cond.methodLink "ControlText$Parser" 67 yX4_ladder ∈ ALL := mem_t 673 (by decide +kernel) (by decide +kernel)
theorem q676 : Cond.code yX4_ladder prog_5_method_35_code 6 (Option.none : Option Jvm.ClassFile.FieldType) ∈ ALL := mem_t 676 (by decide +kernel) (by decide +kernel)
theorem q675 : Cond.instanceMethod yX4_ladder ∈ ALL := mem_t 675 (by decide +kernel) (by decide +kernel)
theorem q30 : Cond.selects "ControlText$Parser" yX4_ladder yX4_ladder ∈ ALL := mem_t 30 (by decide +kernel) (by decide +kernel)
theorem mvX4_ladder : MV yX4_ladder cX4_ladder 6 (Option.none : Option Jvm.ClassFile.FieldType) 1 := ⟨q675, q30, q182, q676, by decide +kernel, by decide +kernel, by decide +kernel⟩
theorem q793 : Cond.methodLink "ControlText$Parser" 78 yX4_tellFault ∈ ALL := mem_t 793 (by decide +kernel) (by decide +kernel)
theorem q796 : Cond.code yX4_tellFault prog_5_method_3_code 2 (Option.none : Option Jvm.ClassFile.FieldType) ∈ ALL := mem_t 796 (by decide +kernel) (by decide +kernel)
theorem q795 : Cond.instanceMethod yX4_tellFault ∈ ALL := mem_t 795 (by decide +kernel) (by decide +kernel)
theorem q54 : Cond.selects "ControlText$Parser" yX4_tellFault yX4_tellFault ∈ ALL := mem_t 54 (by decide +kernel) (by decide +kernel)
theorem mvX4_tellFault : MV yX4_tellFault cX4_tellFault 2 (Option.none : Option Jvm.ClassFile.FieldType) 0 := ⟨q795, q54, q182, q796, by decide +kernel, by decide +kernel, by decide +kernel⟩
theorem q304 : Cond.fieldLink "ControlText$Names" 11 "ControlText$Names" "letters" "[I" ∈ ALL := mem_t 304 (by decide +kernel) (by decide +kernel)
theorem q298 : Cond.code yX6_great prog_1_method_16_code 1 (Option.some Jvm.ClassFile.FieldType.int) ∈ ALL := mem_t 298 (by decide +kernel) (by decide +kernel)
theorem q297 : Cond.static yX6_great ∈ ALL := mem_t 297 (by decide +kernel) (by decide +kernel)
theorem mvX6_great : MS yX6_great cX6_great 1 (Option.some Jvm.ClassFile.FieldType.int) 1 := ⟨q297, q173, q298, by decide +kernel, by decide +kernel, by decide +kernel⟩
theorem q280 : Cond.methodLink "ControlText$Names" 80 yX1_startOf ∈ ALL := mem_t 280 (by decide +kernel) (by decide +kernel)
theorem q283 : Cond.code yX1_startOf prog_4_method_9_code 2 (Option.some Jvm.ClassFile.FieldType.int) ∈ ALL := mem_t 283 (by decide +kernel) (by decide +kernel)
theorem q175 : Cond.initialized "ControlText$Names" ∈ ALL := mem_t 175 (by decide +kernel) (by decide +kernel)
theorem q282 : Cond.instanceMethod yX1_startOf ∈ ALL := mem_t 282 (by decide +kernel) (by decide +kernel)
theorem q2 : Cond.selects "ControlText$Names" yX1_startOf yX1_startOf ∈ ALL := mem_t 2 (by decide +kernel) (by decide +kernel)
theorem mvX1_startOf : MV yX1_startOf cX1_startOf 2 (Option.some Jvm.ClassFile.FieldType.int) 1 := ⟨q282, q2, q175, q283, by decide +kernel, by decide +kernel, by decide +kernel⟩
theorem q276 : Cond.methodLink "ControlText$Names" 70 yX1_firstSlot ∈ ALL := mem_t 276 (by decide +kernel) (by decide +kernel)
theorem q279 : Cond.code yX1_firstSlot prog_4_method_6_code 3 (Option.some Jvm.ClassFile.FieldType.int) ∈ ALL := mem_t 279 (by decide +kernel) (by decide +kernel)
theorem q278 : Cond.instanceMethod yX1_firstSlot ∈ ALL := mem_t 278 (by decide +kernel) (by decide +kernel)
theorem q1 : Cond.selects "ControlText$Names" yX1_firstSlot yX1_firstSlot ∈ ALL := mem_t 1 (by decide +kernel) (by decide +kernel)
theorem mvX1_firstSlot : MV yX1_firstSlot cX1_firstSlot 3 (Option.some Jvm.ClassFile.FieldType.int) 0 := ⟨q278, q1, q175, q279, by decide +kernel, by decide +kernel, by decide +kernel⟩
theorem q288 : Cond.methodLink "ControlText$Names" 76 yX1_isAddedLast ∈ ALL := mem_t 288 (by decide +kernel) (by decide +kernel)
theorem q291 : Cond.code yX1_isAddedLast prog_4_method_8_code 6 (Option.some Jvm.ClassFile.FieldType.boolean) ∈ ALL := mem_t 291 (by decide +kernel) (by decide +kernel)
theorem q290 : Cond.instanceMethod yX1_isAddedLast ∈ ALL := mem_t 290 (by decide +kernel) (by decide +kernel)
theorem q4 : Cond.selects "ControlText$Names" yX1_isAddedLast yX1_isAddedLast ∈ ALL := mem_t 4 (by decide +kernel) (by decide +kernel)
theorem mvX1_isAddedLast : MV yX1_isAddedLast cX1_isAddedLast 6 (Option.some Jvm.ClassFile.FieldType.boolean) 1 := ⟨q290, q4, q175, q291, by decide +kernel, by decide +kernel, by decide +kernel⟩
theorem q284 : Cond.methodLink "ControlText$Names" 73 yX1_keep ∈ ALL := mem_t 284 (by decide +kernel) (by decide +kernel)
theorem q287 : Cond.code yX1_keep prog_4_method_7_code 3 (Option.some Jvm.ClassFile.FieldType.int) ∈ ALL := mem_t 287 (by decide +kernel) (by decide +kernel)
theorem q286 : Cond.instanceMethod yX1_keep ∈ ALL := mem_t 286 (by decide +kernel) (by decide +kernel)
theorem q3 : Cond.selects "ControlText$Names" yX1_keep yX1_keep ∈ ALL := mem_t 3 (by decide +kernel) (by decide +kernel)
theorem mvX1_keep : MV yX1_keep cX1_keep 3 (Option.some Jvm.ClassFile.FieldType.int) 1 := ⟨q286, q3, q175, q287, by decide +kernel, by decide +kernel, by decide +kernel⟩
theorem q341 : Cond.fieldLink "ControlText$Tokens" 38 "ControlText$Tokens" "at" "I" ∈ ALL := mem_t 341 (by decide +kernel) (by decide +kernel)
theorem q331 : Cond.fieldLink "ControlText$Tokens" 21 "ControlText$Tokens" "text" "LControlText$Bytes;" ∈ ALL := mem_t 331 (by decide +kernel) (by decide +kernel)
theorem q530 : Cond.methodLink "ControlText$Tokens" 52 yX0_get ∈ ALL := mem_t 530 (by decide +kernel) (by decide +kernel)
theorem q573 : Cond.code yX6_isNameByte prog_1_method_15_code 1 (Option.some Jvm.ClassFile.FieldType.boolean) ∈ ALL := mem_t 573 (by decide +kernel) (by decide +kernel)
theorem q572 : Cond.static yX6_isNameByte ∈ ALL := mem_t 572 (by decide +kernel) (by decide +kernel)
theorem mvX6_isNameByte : MS yX6_isNameByte cX6_isNameByte 1 (Option.some Jvm.ClassFile.FieldType.boolean) 1 := ⟨q572, q173, q573, by decide +kernel, by decide +kernel, by decide +kernel⟩
theorem q332 : Cond.fieldLink "ControlText$Tokens" 25 "ControlText$Tokens" "names" "LControlText$Names;" ∈ ALL := mem_t 332 (by decide +kernel) (by decide +kernel)
theorem q584 : Cond.methodLink "ControlText$Tokens" 90 yX1_addLetter ∈ ALL := mem_t 584 (by decide +kernel) (by decide +kernel)
theorem q295 : Cond.code yX1_addLetter prog_4_method_4_code 2 (Option.none : Option Jvm.ClassFile.FieldType) ∈ ALL := mem_t 295 (by decide +kernel) (by decide +kernel)
theorem q293 : Cond.instanceMethod yX1_addLetter ∈ ALL := mem_t 293 (by decide +kernel) (by decide +kernel)
theorem q294 : Cond.selects "ControlText$Names" yX1_addLetter yX1_addLetter ∈ ALL := mem_t 294 (by decide +kernel) (by decide +kernel)
theorem mvX1_addLetter : MV yX1_addLetter cX1_addLetter 2 (Option.none : Option Jvm.ClassFile.FieldType) 1 := ⟨q293, q294, q175, q295, by decide +kernel, by decide +kernel, by decide +kernel⟩
theorem q585 : Cond.methodLink "ControlText$Tokens" 94 yX1_number ∈ ALL := mem_t 585 (by decide +kernel) (by decide +kernel)
theorem q275 : Cond.code yX1_number prog_4_method_5_code 4 (Option.some Jvm.ClassFile.FieldType.int) ∈ ALL := mem_t 275 (by decide +kernel) (by decide +kernel)
theorem q273 : Cond.instanceMethod yX1_number ∈ ALL := mem_t 273 (by decide +kernel) (by decide +kernel)
theorem q274 : Cond.selects "ControlText$Names" yX1_number yX1_number ∈ ALL := mem_t 274 (by decide +kernel) (by decide +kernel)
theorem mvX1_number : MV yX1_number cX1_number 4 (Option.some Jvm.ClassFile.FieldType.int) 0 := ⟨q273, q274, q175, q275, by decide +kernel, by decide +kernel, by decide +kernel⟩
theorem q535 : Cond.methodLink "ControlText$Tokens" 57 yX2_add ∈ ALL := mem_t 535 (by decide +kernel) (by decide +kernel)
theorem q538 : Cond.code yX2_add prog_7_method_6_code 4 (Option.none : Option Jvm.ClassFile.FieldType) ∈ ALL := mem_t 538 (by decide +kernel) (by decide +kernel)
theorem q537 : Cond.instanceMethod yX2_add ∈ ALL := mem_t 537 (by decide +kernel) (by decide +kernel)
theorem q9 : Cond.selects "ControlText$Tokens" yX2_add yX2_add ∈ ALL := mem_t 9 (by decide +kernel) (by decide +kernel)
theorem mvX2_add : MV yX2_add cX2_add 4 (Option.none : Option Jvm.ClassFile.FieldType) 3 := ⟨q537, q9, q180, q538, by decide +kernel, by decide +kernel, by decide +kernel⟩
theorem q570 : Cond.constantLong "ControlText$Tokens" 118 2147483647 ∈ ALL := mem_t 570 (by decide +kernel) (by decide +kernel)
theorem q553 : Cond.code yX6_isDigit prog_1_method_14_code 1 (Option.some Jvm.ClassFile.FieldType.boolean) ∈ ALL := mem_t 553 (by decide +kernel) (by decide +kernel)
theorem q552 : Cond.static yX6_isDigit ∈ ALL := mem_t 552 (by decide +kernel) (by decide +kernel)
theorem mvX6_isDigit : MS yX6_isDigit cX6_isDigit 1 (Option.some Jvm.ClassFile.FieldType.boolean) 1 := ⟨q552, q173, q553, by decide +kernel, by decide +kernel, by decide +kernel⟩
theorem q558 : Cond.constantLong "ControlText$Tokens" 108 (-1) ∈ ALL := mem_t 558 (by decide +kernel) (by decide +kernel)
theorem q548 : Cond.methodLink "ControlText$Tokens" 120 yX2_digit ∈ ALL := mem_t 548 (by decide +kernel) (by decide +kernel)
theorem q550 : Cond.code yX2_digit prog_7_method_15_code 2 (Option.some Jvm.ClassFile.FieldType.int) ∈ ALL := mem_t 550 (by decide +kernel) (by decide +kernel)
theorem q549 : Cond.static yX2_digit ∈ ALL := mem_t 549 (by decide +kernel) (by decide +kernel)
theorem mvX2_digit : MS yX2_digit cX2_digit 2 (Option.some Jvm.ClassFile.FieldType.int) 1 := ⟨q549, q180, q550, by decide +kernel, by decide +kernel, by decide +kernel⟩
theorem q554 : Cond.constantLong "ControlText$Tokens" 123 2147483648 ∈ ALL := mem_t 554 (by decide +kernel) (by decide +kernel)
theorem q555 : Cond.methodLink "ControlText$Tokens" 125 yX10_min ∈ ALL := mem_t 555 (by decide +kernel) (by decide +kernel)
theorem q557 : Cond.code yX10_min prog_13_method_70_code 4 (Option.some Jvm.ClassFile.FieldType.long) ∈ ALL := mem_t 557 (by decide +kernel) (by decide +kernel)
theorem q185 : Cond.initialized "java/lang/Math" ∈ ALL := mem_t 185 (by decide +kernel) (by decide +kernel)
theorem q556 : Cond.static yX10_min ∈ ALL := mem_t 556 (by decide +kernel) (by decide +kernel)
theorem mvX10_min : MS yX10_min cX10_min 4 (Option.some Jvm.ClassFile.FieldType.long) 2 := ⟨q556, q185, q557, by decide +kernel, by decide +kernel, by decide +kernel⟩
theorem q544 : Cond.methodLink "ControlText$Tokens" 100 yX2_digits ∈ ALL := mem_t 544 (by decide +kernel) (by decide +kernel)
theorem q547 : Cond.code yX2_digits prog_7_method_14_code 7 (Option.some Jvm.ClassFile.FieldType.long) ∈ ALL := mem_t 547 (by decide +kernel) (by decide +kernel)
theorem q546 : Cond.instanceMethod yX2_digits ∈ ALL := mem_t 546 (by decide +kernel) (by decide +kernel)
theorem q11 : Cond.selects "ControlText$Tokens" yX2_digits yX2_digits ∈ ALL := mem_t 11 (by decide +kernel) (by decide +kernel)
theorem mvX2_digits : MV yX2_digits cX2_digits 7 (Option.some Jvm.ClassFile.FieldType.long) 1 := ⟨q546, q11, q180, q547, by decide +kernel, by decide +kernel, by decide +kernel⟩
theorem q566 : Cond.methodLink "ControlText$Tokens" 110 yX2_addNumber ∈ ALL := mem_t 566 (by decide +kernel) (by decide +kernel)
theorem q569 : Cond.code yX2_addNumber prog_7_method_13_code 4 (Option.none : Option Jvm.ClassFile.FieldType) ∈ ALL := mem_t 569 (by decide +kernel) (by decide +kernel)
theorem q568 : Cond.instanceMethod yX2_addNumber ∈ ALL := mem_t 568 (by decide +kernel) (by decide +kernel)
theorem q13 : Cond.selects "ControlText$Tokens" yX2_addNumber yX2_addNumber ∈ ALL := mem_t 13 (by decide +kernel) (by decide +kernel)
theorem mvX2_addNumber : MV yX2_addNumber cX2_addNumber 4 (Option.none : Option Jvm.ClassFile.FieldType) 2 := ⟨q568, q13, q180, q569, by decide +kernel, by decide +kernel, by decide +kernel⟩
theorem q578 : Cond.constantLong "ControlText$Tokens" 104 16 ∈ ALL := mem_t 578 (by decide +kernel) (by decide +kernel)
theorem q579 : Cond.constantLong "ControlText$Tokens" 106 2 ∈ ALL := mem_t 579 (by decide +kernel) (by decide +kernel)
theorem q590 : Cond.methodLink "ControlText$Tokens" 137 yX2_placeRow ∈ ALL := mem_t 590 (by decide +kernel) (by decide +kernel)
theorem q592 : Cond.code yX2_placeRow prog_7_method_18_code 3 (Option.some Jvm.ClassFile.FieldType.int) ∈ ALL := mem_t 592 (by decide +kernel) (by decide +kernel)
theorem q591 : Cond.static yX2_placeRow ∈ ALL := mem_t 591 (by decide +kernel) (by decide +kernel)
theorem mvX2_placeRow : MS yX2_placeRow cX2_placeRow 3 (Option.some Jvm.ClassFile.FieldType.int) 2 := ⟨q591, q180, q592, by decide +kernel, by decide +kernel, by decide +kernel⟩
theorem q597 : Cond.methodLink "ControlText$Tokens" 141 yX10_max ∈ ALL := mem_t 597 (by decide +kernel) (by decide +kernel)
theorem q599 : Cond.code yX10_max prog_13_method_65_code 2 (Option.some Jvm.ClassFile.FieldType.int) ∈ ALL := mem_t 599 (by decide +kernel) (by decide +kernel)
theorem q598 : Cond.static yX10_max ∈ ALL := mem_t 598 (by decide +kernel) (by decide +kernel)
theorem mvX10_max : MS yX10_max cX10_max 2 (Option.some Jvm.ClassFile.FieldType.int) 2 := ⟨q598, q185, q599, by decide +kernel, by decide +kernel, by decide +kernel⟩
theorem q600 : Cond.methodLink "ControlText$Tokens" 144 yX2_isSignOfTwo ∈ ALL := mem_t 600 (by decide +kernel) (by decide +kernel)
theorem q602 : Cond.code yX2_isSignOfTwo prog_7_method_21_code 1 (Option.some Jvm.ClassFile.FieldType.boolean) ∈ ALL := mem_t 602 (by decide +kernel) (by decide +kernel)
theorem q601 : Cond.static yX2_isSignOfTwo ∈ ALL := mem_t 601 (by decide +kernel) (by decide +kernel)
theorem mvX2_isSignOfTwo : MS yX2_isSignOfTwo cX2_isSignOfTwo 1 (Option.some Jvm.ClassFile.FieldType.boolean) 1 := ⟨q601, q180, q602, by decide +kernel, by decide +kernel, by decide +kernel⟩
theorem q603 : Cond.methodLink "ControlText$Tokens" 147 yX2_isSignOfOne ∈ ALL := mem_t 603 (by decide +kernel) (by decide +kernel)
theorem q605 : Cond.code yX2_isSignOfOne prog_7_method_20_code 1 (Option.some Jvm.ClassFile.FieldType.boolean) ∈ ALL := mem_t 605 (by decide +kernel) (by decide +kernel)
theorem q604 : Cond.static yX2_isSignOfOne ∈ ALL := mem_t 604 (by decide +kernel) (by decide +kernel)
theorem mvX2_isSignOfOne : MS yX2_isSignOfOne cX2_isSignOfOne 1 (Option.some Jvm.ClassFile.FieldType.boolean) 1 := ⟨q604, q180, q605, by decide +kernel, by decide +kernel, by decide +kernel⟩
theorem q565 : Cond.constantLong "ControlText$Tokens" 135 3600000 ∈ ALL := mem_t 565 (by decide +kernel) (by decide +kernel)
theorem q564 : Cond.constantLong "ControlText$Tokens" 133 60000 ∈ ALL := mem_t 564 (by decide +kernel) (by decide +kernel)
theorem q563 : Cond.constantLong "ControlText$Tokens" 131 1000 ∈ ALL := mem_t 563 (by decide +kernel) (by decide +kernel)
theorem q559 : Cond.methodLink "ControlText$Tokens" 114 yX2_unit ∈ ALL := mem_t 559 (by decide +kernel) (by decide +kernel)
theorem q562 : Cond.code yX2_unit prog_7_method_16_code 2 (Option.some Jvm.ClassFile.FieldType.long) ∈ ALL := mem_t 562 (by decide +kernel) (by decide +kernel)
theorem q561 : Cond.instanceMethod yX2_unit ∈ ALL := mem_t 561 (by decide +kernel) (by decide +kernel)
theorem q12 : Cond.selects "ControlText$Tokens" yX2_unit yX2_unit ∈ ALL := mem_t 12 (by decide +kernel) (by decide +kernel)
theorem mvX2_unit : MV yX2_unit cX2_unit 2 (Option.some Jvm.ClassFile.FieldType.long) 0 := ⟨q561, q12, q180, q562, by decide +kernel, by decide +kernel, by decide +kernel⟩
theorem q531 : Cond.methodLink "ControlText$Tokens" 86 yX2_endOfComment ∈ ALL := mem_t 531 (by decide +kernel) (by decide +kernel)
theorem q534 : Cond.code yX2_endOfComment prog_7_method_9_code 3 (Option.some Jvm.ClassFile.FieldType.int) ∈ ALL := mem_t 534 (by decide +kernel) (by decide +kernel)
theorem q533 : Cond.instanceMethod yX2_endOfComment ∈ ALL := mem_t 533 (by decide +kernel) (by decide +kernel)
theorem q8 : Cond.selects "ControlText$Tokens" yX2_endOfComment yX2_endOfComment ∈ ALL := mem_t 8 (by decide +kernel) (by decide +kernel)
theorem mvX2_endOfComment : MV yX2_endOfComment cX2_endOfComment 3 (Option.some Jvm.ClassFile.FieldType.int) 1 := ⟨q533, q8, q180, q534, by decide +kernel, by decide +kernel, by decide +kernel⟩
theorem q526 : Cond.methodLink "ControlText$Tokens" 48 yX2_skipBlanks ∈ ALL := mem_t 526 (by decide +kernel) (by decide +kernel)
theorem q529 : Cond.code yX2_skipBlanks prog_7_method_8_code 4 (Option.some Jvm.ClassFile.FieldType.boolean) ∈ ALL := mem_t 529 (by decide +kernel) (by decide +kernel)
theorem q528 : Cond.instanceMethod yX2_skipBlanks ∈ ALL := mem_t 528 (by decide +kernel) (by decide +kernel)
theorem q7 : Cond.selects "ControlText$Tokens" yX2_skipBlanks yX2_skipBlanks ∈ ALL := mem_t 7 (by decide +kernel) (by decide +kernel)
theorem mvX2_skipBlanks : MV yX2_skipBlanks cX2_skipBlanks 4 (Option.some Jvm.ClassFile.FieldType.boolean) 0 := ⟨q528, q7, q180, q529, by decide +kernel, by decide +kernel, by decide +kernel⟩
theorem q593 : Cond.methodLink "ControlText$Tokens" 83 yX2_scanSign ∈ ALL := mem_t 593 (by decide +kernel) (by decide +kernel)
theorem q596 : Cond.code yX2_scanSign prog_7_method_19_code 4 (Option.none : Option Jvm.ClassFile.FieldType) ∈ ALL := mem_t 596 (by decide +kernel) (by decide +kernel)
theorem q595 : Cond.instanceMethod yX2_scanSign ∈ ALL := mem_t 595 (by decide +kernel) (by decide +kernel)
theorem q17 : Cond.selects "ControlText$Tokens" yX2_scanSign yX2_scanSign ∈ ALL := mem_t 17 (by decide +kernel) (by decide +kernel)
theorem mvX2_scanSign : MV yX2_scanSign cX2_scanSign 4 (Option.none : Option Jvm.ClassFile.FieldType) 0 := ⟨q595, q17, q180, q596, by decide +kernel, by decide +kernel, by decide +kernel⟩
theorem q586 : Cond.methodLink "ControlText$Tokens" 80 yX2_scanPlace ∈ ALL := mem_t 586 (by decide +kernel) (by decide +kernel)
theorem q589 : Cond.code yX2_scanPlace prog_7_method_17_code 6 (Option.none : Option Jvm.ClassFile.FieldType) ∈ ALL := mem_t 589 (by decide +kernel) (by decide +kernel)
theorem q588 : Cond.instanceMethod yX2_scanPlace ∈ ALL := mem_t 588 (by decide +kernel) (by decide +kernel)
theorem q16 : Cond.selects "ControlText$Tokens" yX2_scanPlace yX2_scanPlace ∈ ALL := mem_t 16 (by decide +kernel) (by decide +kernel)
theorem mvX2_scanPlace : MV yX2_scanPlace cX2_scanPlace 6 (Option.none : Option Jvm.ClassFile.FieldType) 0 := ⟨q588, q16, q180, q589, by decide +kernel, by decide +kernel, by decide +kernel⟩
theorem q580 : Cond.methodLink "ControlText$Tokens" 77 yX2_scanName ∈ ALL := mem_t 580 (by decide +kernel) (by decide +kernel)
theorem q583 : Cond.code yX2_scanName prog_7_method_10_code 3 (Option.none : Option Jvm.ClassFile.FieldType) ∈ ALL := mem_t 583 (by decide +kernel) (by decide +kernel)
theorem q582 : Cond.instanceMethod yX2_scanName ∈ ALL := mem_t 582 (by decide +kernel) (by decide +kernel)
theorem q15 : Cond.selects "ControlText$Tokens" yX2_scanName yX2_scanName ∈ ALL := mem_t 15 (by decide +kernel) (by decide +kernel)
theorem mvX2_scanName : MV yX2_scanName cX2_scanName 3 (Option.none : Option Jvm.ClassFile.FieldType) 0 := ⟨q582, q15, q180, q583, by decide +kernel, by decide +kernel, by decide +kernel⟩
theorem q574 : Cond.methodLink "ControlText$Tokens" 71 yX2_scanNumber ∈ ALL := mem_t 574 (by decide +kernel) (by decide +kernel)
theorem q577 : Cond.code yX2_scanNumber prog_7_method_11_code 4 (Option.none : Option Jvm.ClassFile.FieldType) ∈ ALL := mem_t 577 (by decide +kernel) (by decide +kernel)
theorem q576 : Cond.instanceMethod yX2_scanNumber ∈ ALL := mem_t 576 (by decide +kernel) (by decide +kernel)
theorem q14 : Cond.selects "ControlText$Tokens" yX2_scanNumber yX2_scanNumber ∈ ALL := mem_t 14 (by decide +kernel) (by decide +kernel)
theorem mvX2_scanNumber : MV yX2_scanNumber cX2_scanNumber 4 (Option.none : Option Jvm.ClassFile.FieldType) 0 := ⟨q576, q14, q180, q577, by decide +kernel, by decide +kernel, by decide +kernel⟩
theorem q540 : Cond.methodLink "ControlText$Tokens" 64 yX2_scanTime ∈ ALL := mem_t 540 (by decide +kernel) (by decide +kernel)
theorem q543 : Cond.code yX2_scanTime prog_7_method_12_code 6 (Option.none : Option Jvm.ClassFile.FieldType) ∈ ALL := mem_t 543 (by decide +kernel) (by decide +kernel)
theorem q542 : Cond.instanceMethod yX2_scanTime ∈ ALL := mem_t 542 (by decide +kernel) (by decide +kernel)
theorem q10 : Cond.selects "ControlText$Tokens" yX2_scanTime yX2_scanTime ∈ ALL := mem_t 10 (by decide +kernel) (by decide +kernel)
theorem mvX2_scanTime : MV yX2_scanTime cX2_scanTime 6 (Option.none : Option Jvm.ClassFile.FieldType) 0 := ⟨q542, q10, q180, q543, by decide +kernel, by decide +kernel, by decide +kernel⟩
theorem q518 : Cond.methodLink "ControlText$Tokens" 33 yX1_forget ∈ ALL := mem_t 518 (by decide +kernel) (by decide +kernel)
theorem q521 : Cond.code yX1_forget prog_4_method_3_code 3 (Option.none : Option Jvm.ClassFile.FieldType) ∈ ALL := mem_t 521 (by decide +kernel) (by decide +kernel)
theorem q519 : Cond.instanceMethod yX1_forget ∈ ALL := mem_t 519 (by decide +kernel) (by decide +kernel)
theorem q520 : Cond.selects "ControlText$Names" yX1_forget yX1_forget ∈ ALL := mem_t 520 (by decide +kernel) (by decide +kernel)
theorem mvX1_forget : MV yX1_forget cX1_forget 3 (Option.none : Option Jvm.ClassFile.FieldType) 0 := ⟨q519, q520, q175, q521, by decide +kernel, by decide +kernel, by decide +kernel⟩
theorem q522 : Cond.methodLink "ControlText$Tokens" 41 yX2_scanToken ∈ ALL := mem_t 522 (by decide +kernel) (by decide +kernel)
theorem q525 : Cond.code yX2_scanToken prog_7_method_7_code 3 (Option.none : Option Jvm.ClassFile.FieldType) ∈ ALL := mem_t 525 (by decide +kernel) (by decide +kernel)
theorem q524 : Cond.instanceMethod yX2_scanToken ∈ ALL := mem_t 524 (by decide +kernel) (by decide +kernel)
theorem q6 : Cond.selects "ControlText$Tokens" yX2_scanToken yX2_scanToken ∈ ALL := mem_t 6 (by decide +kernel) (by decide +kernel)
theorem mvX2_scanToken : MV yX2_scanToken cX2_scanToken 3 (Option.none : Option Jvm.ClassFile.FieldType) 0 := ⟨q524, q6, q180, q525, by decide +kernel, by decide +kernel, by decide +kernel⟩
theorem q606 : Cond.methodLink "ControlText$Tokens" 44 yX2_kind ∈ ALL := mem_t 606 (by decide +kernel) (by decide +kernel)
theorem q369 : Cond.fieldLink "ControlText$Tree" 30 "ControlText$Tree" "met" "[I" ∈ ALL := mem_t 369 (by decide +kernel) (by decide +kernel)
theorem q367 : Cond.fieldLink "ControlText$Tree" 24 "ControlText$Tree" "parents" "[I" ∈ ALL := mem_t 367 (by decide +kernel) (by decide +kernel)
theorem q810 : Cond.methodLink "ControlText$Tree" 47 yX3_firstUnfilled ∈ ALL := mem_t 810 (by decide +kernel) (by decide +kernel)
theorem q813 : Cond.code yX3_firstUnfilled prog_8_method_13_code 4 (Option.some Jvm.ClassFile.FieldType.int) ∈ ALL := mem_t 813 (by decide +kernel) (by decide +kernel)
theorem q812 : Cond.instanceMethod yX3_firstUnfilled ∈ ALL := mem_t 812 (by decide +kernel) (by decide +kernel)
theorem q55 : Cond.selects "ControlText$Tree" yX3_firstUnfilled yX3_firstUnfilled ∈ ALL := mem_t 55 (by decide +kernel) (by decide +kernel)
theorem mvX3_firstUnfilled : MV yX3_firstUnfilled cX3_firstUnfilled 4 (Option.some Jvm.ClassFile.FieldType.int) 1 := ⟨q812, q55, q181, q813, by decide +kernel, by decide +kernel, by decide +kernel⟩
theorem q368 : Cond.fieldLink "ControlText$Tree" 27 "ControlText$Tree" "ranks" "[I" ∈ ALL := mem_t 368 (by decide +kernel) (by decide +kernel)
theorem q455 : Cond.fieldLink "ControlText" 33 "ControlText" "tokens" "LControlText$Tokens;" ∈ ALL := mem_t 455 (by decide +kernel) (by decide +kernel)
theorem q514 : Cond.methodLink "ControlText" 79 yX2_scan ∈ ALL := mem_t 514 (by decide +kernel) (by decide +kernel)
theorem q517 : Cond.code yX2_scan prog_7_method_5_code 4 (Option.none : Option Jvm.ClassFile.FieldType) ∈ ALL := mem_t 517 (by decide +kernel) (by decide +kernel)
theorem q515 : Cond.instanceMethod yX2_scan ∈ ALL := mem_t 515 (by decide +kernel) (by decide +kernel)
theorem q516 : Cond.selects "ControlText$Tokens" yX2_scan yX2_scan ∈ ALL := mem_t 516 (by decide +kernel) (by decide +kernel)
theorem mvX2_scan : MV yX2_scan cX2_scan 4 (Option.none : Option Jvm.ClassFile.FieldType) 0 := ⟨q515, q516, q180, q517, by decide +kernel, by decide +kernel, by decide +kernel⟩
theorem q457 : Cond.fieldLink "ControlText" 49 "ControlText" "parser" "LControlText$Parser;" ∈ ALL := mem_t 457 (by decide +kernel) (by decide +kernel)
theorem q610 : Cond.methodLink "ControlText" 82 yX4_parse ∈ ALL := mem_t 610 (by decide +kernel) (by decide +kernel)
theorem q613 : Cond.code yX4_parse prog_5_method_2_code 5 (Option.none : Option Jvm.ClassFile.FieldType) ∈ ALL := mem_t 613 (by decide +kernel) (by decide +kernel)
theorem q611 : Cond.instanceMethod yX4_parse ∈ ALL := mem_t 611 (by decide +kernel) (by decide +kernel)
theorem q612 : Cond.selects "ControlText$Parser" yX4_parse yX4_parse ∈ ALL := mem_t 612 (by decide +kernel) (by decide +kernel)
theorem mvX4_parse : MV yX4_parse cX4_parse 5 (Option.none : Option Jvm.ClassFile.FieldType) 0 := ⟨q611, q612, q182, q613, by decide +kernel, by decide +kernel, by decide +kernel⟩
theorem q456 : Cond.fieldLink "ControlText" 40 "ControlText" "tree" "LControlText$Tree;" ∈ ALL := mem_t 456 (by decide +kernel) (by decide +kernel)
theorem q814 : Cond.methodLink "ControlText" 91 yX3_forget ∈ ALL := mem_t 814 (by decide +kernel) (by decide +kernel)
theorem q454 : Cond.fieldLink "ControlText" 24 "ControlText" "names" "LControlText$Names;" ∈ ALL := mem_t 454 (by decide +kernel) (by decide +kernel)
theorem q815 : Cond.methodLink "ControlText" 94 yX1_forget ∈ ALL := mem_t 815 (by decide +kernel) (by decide +kernel)
theorem q806 : Cond.methodLink "ControlText" 88 yX3_link ∈ ALL := mem_t 806 (by decide +kernel) (by decide +kernel)
theorem q809 : Cond.code yX3_link prog_8_method_12_code 3 (Option.none : Option Jvm.ClassFile.FieldType) ∈ ALL := mem_t 809 (by decide +kernel) (by decide +kernel)
theorem q807 : Cond.instanceMethod yX3_link ∈ ALL := mem_t 807 (by decide +kernel) (by decide +kernel)
theorem q808 : Cond.selects "ControlText$Tree" yX3_link yX3_link ∈ ALL := mem_t 808 (by decide +kernel) (by decide +kernel)
theorem mvX3_link : MV yX3_link cX3_link 3 (Option.none : Option Jvm.ClassFile.FieldType) 0 := ⟨q807, q808, q181, q809, by decide +kernel, by decide +kernel, by decide +kernel⟩
theorem q453 : Cond.fieldLink "ControlText" 18 "ControlText" "written" "LControlText$Bytes;" ∈ ALL := mem_t 453 (by decide +kernel) (by decide +kernel)
theorem q824 : Cond.methodLink "ControlText" 102 yX3_kind ∈ ALL := mem_t 824 (by decide +kernel) (by decide +kernel)
theorem q827 : Cond.code yX3_kind prog_8_method_4_code 2 (Option.some Jvm.ClassFile.FieldType.int) ∈ ALL := mem_t 827 (by decide +kernel) (by decide +kernel)
theorem q825 : Cond.instanceMethod yX3_kind ∈ ALL := mem_t 825 (by decide +kernel) (by decide +kernel)
theorem q826 : Cond.selects "ControlText$Tree" yX3_kind yX3_kind ∈ ALL := mem_t 826 (by decide +kernel) (by decide +kernel)
theorem mvX3_kind : MV yX3_kind cX3_kind 2 (Option.some Jvm.ClassFile.FieldType.int) 1 := ⟨q825, q826, q181, q827, by decide +kernel, by decide +kernel, by decide +kernel⟩
theorem q828 : Cond.methodLink "ControlText" 106 yX3_place ∈ ALL := mem_t 828 (by decide +kernel) (by decide +kernel)
theorem q831 : Cond.code yX3_place prog_8_method_5_code 2 (Option.some Jvm.ClassFile.FieldType.int) ∈ ALL := mem_t 831 (by decide +kernel) (by decide +kernel)
theorem q829 : Cond.instanceMethod yX3_place ∈ ALL := mem_t 829 (by decide +kernel) (by decide +kernel)
theorem q830 : Cond.selects "ControlText$Tree" yX3_place yX3_place ∈ ALL := mem_t 830 (by decide +kernel) (by decide +kernel)
theorem mvX3_place : MV yX3_place cX3_place 2 (Option.some Jvm.ClassFile.FieldType.int) 1 := ⟨q829, q830, q181, q831, by decide +kernel, by decide +kernel, by decide +kernel⟩
theorem q832 : Cond.methodLink "ControlText" 109 yX3_value ∈ ALL := mem_t 832 (by decide +kernel) (by decide +kernel)
theorem q835 : Cond.code yX3_value prog_8_method_6_code 2 (Option.some Jvm.ClassFile.FieldType.int) ∈ ALL := mem_t 835 (by decide +kernel) (by decide +kernel)
theorem q833 : Cond.instanceMethod yX3_value ∈ ALL := mem_t 833 (by decide +kernel) (by decide +kernel)
theorem q834 : Cond.selects "ControlText$Tree" yX3_value yX3_value ∈ ALL := mem_t 834 (by decide +kernel) (by decide +kernel)
theorem mvX3_value : MV yX3_value cX3_value 2 (Option.some Jvm.ClassFile.FieldType.int) 1 := ⟨q833, q834, q181, q835, by decide +kernel, by decide +kernel, by decide +kernel⟩
theorem q836 : Cond.methodLink "ControlText" 112 yX3_parent ∈ ALL := mem_t 836 (by decide +kernel) (by decide +kernel)
theorem q839 : Cond.code yX3_parent prog_8_method_8_code 2 (Option.some Jvm.ClassFile.FieldType.int) ∈ ALL := mem_t 839 (by decide +kernel) (by decide +kernel)
theorem q837 : Cond.instanceMethod yX3_parent ∈ ALL := mem_t 837 (by decide +kernel) (by decide +kernel)
theorem q838 : Cond.selects "ControlText$Tree" yX3_parent yX3_parent ∈ ALL := mem_t 838 (by decide +kernel) (by decide +kernel)
theorem mvX3_parent : MV yX3_parent cX3_parent 2 (Option.some Jvm.ClassFile.FieldType.int) 1 := ⟨q837, q838, q181, q839, by decide +kernel, by decide +kernel, by decide +kernel⟩
theorem q840 : Cond.methodLink "ControlText" 115 yX3_children ∈ ALL := mem_t 840 (by decide +kernel) (by decide +kernel)
theorem q843 : Cond.code yX3_children prog_8_method_7_code 2 (Option.some Jvm.ClassFile.FieldType.int) ∈ ALL := mem_t 843 (by decide +kernel) (by decide +kernel)
theorem q841 : Cond.instanceMethod yX3_children ∈ ALL := mem_t 841 (by decide +kernel) (by decide +kernel)
theorem q842 : Cond.selects "ControlText$Tree" yX3_children yX3_children ∈ ALL := mem_t 842 (by decide +kernel) (by decide +kernel)
theorem mvX3_children : MV yX3_children cX3_children 2 (Option.some Jvm.ClassFile.FieldType.int) 1 := ⟨q841, q842, q181, q843, by decide +kernel, by decide +kernel, by decide +kernel⟩
theorem q848 : Cond.methodLink "ControlText" 118 yX1_letterOf ∈ ALL := mem_t 848 (by decide +kernel) (by decide +kernel)
theorem q851 : Cond.code yX1_letterOf prog_4_method_10_code 4 (Option.some Jvm.ClassFile.FieldType.int) ∈ ALL := mem_t 851 (by decide +kernel) (by decide +kernel)
theorem q849 : Cond.instanceMethod yX1_letterOf ∈ ALL := mem_t 849 (by decide +kernel) (by decide +kernel)
theorem q850 : Cond.selects "ControlText$Names" yX1_letterOf yX1_letterOf ∈ ALL := mem_t 850 (by decide +kernel) (by decide +kernel)
theorem mvX1_letterOf : MV yX1_letterOf cX1_letterOf 4 (Option.some Jvm.ClassFile.FieldType.int) 2 := ⟨q849, q850, q175, q851, by decide +kernel, by decide +kernel, by decide +kernel⟩
theorem q935 : Cond.methodLink "ControlText$Writer" 112 yX5_contactSign ∈ ALL := mem_t 935 (by decide +kernel) (by decide +kernel)
theorem q937 : Cond.code yX5_contactSign prog_10_method_12_code 1 (Option.some Jvm.ClassFile.FieldType.int) ∈ ALL := mem_t 937 (by decide +kernel) (by decide +kernel)
theorem q183 : Cond.initialized "ControlText$Writer" ∈ ALL := mem_t 183 (by decide +kernel) (by decide +kernel)
theorem q936 : Cond.static yX5_contactSign ∈ ALL := mem_t 936 (by decide +kernel) (by decide +kernel)
theorem mvX5_contactSign : MS yX5_contactSign cX5_contactSign 1 (Option.some Jvm.ClassFile.FieldType.int) 1 := ⟨q936, q183, q937, by decide +kernel, by decide +kernel, by decide +kernel⟩
theorem q442 : Cond.fieldLink "ControlText$Writer" 9 "ControlText$Writer" "tree" "LControlText$Tree;" ∈ ALL := mem_t 442 (by decide +kernel) (by decide +kernel)
theorem q861 : Cond.methodLink "ControlText$Writer" 35 yX3_parent ∈ ALL := mem_t 861 (by decide +kernel) (by decide +kernel)
theorem q870 : Cond.methodLink "ControlText$Writer" 55 yX3_kind ∈ ALL := mem_t 870 (by decide +kernel) (by decide +kernel)
theorem q892 : Cond.methodLink "ControlText$Writer" 65 yX3_value ∈ ALL := mem_t 892 (by decide +kernel) (by decide +kernel)
theorem q893 : Cond.methodLink "ControlText$Writer" 118 yX7_binding ∈ ALL := mem_t 893 (by decide +kernel) (by decide +kernel)
theorem q894 : Cond.methodLink "ControlText$Writer" 52 yX3_rank ∈ ALL := mem_t 894 (by decide +kernel) (by decide +kernel)
theorem q897 : Cond.code yX3_rank prog_8_method_9_code 2 (Option.some Jvm.ClassFile.FieldType.int) ∈ ALL := mem_t 897 (by decide +kernel) (by decide +kernel)
theorem q895 : Cond.instanceMethod yX3_rank ∈ ALL := mem_t 895 (by decide +kernel) (by decide +kernel)
theorem q896 : Cond.selects "ControlText$Tree" yX3_rank yX3_rank ∈ ALL := mem_t 896 (by decide +kernel) (by decide +kernel)
theorem mvX3_rank : MV yX3_rank cX3_rank 2 (Option.some Jvm.ClassFile.FieldType.int) 1 := ⟨q895, q896, q181, q897, by decide +kernel, by decide +kernel, by decide +kernel⟩
theorem q960 : Cond.methodLink "ControlText$Writer" 115 yX5_coilSign ∈ ALL := mem_t 960 (by decide +kernel) (by decide +kernel)
theorem q962 : Cond.code yX5_coilSign prog_10_method_13_code 1 (Option.some Jvm.ClassFile.FieldType.int) ∈ ALL := mem_t 962 (by decide +kernel) (by decide +kernel)
theorem q961 : Cond.static yX5_coilSign ∈ ALL := mem_t 961 (by decide +kernel) (by decide +kernel)
theorem mvX5_coilSign : MS yX5_coilSign cX5_coilSign 1 (Option.some Jvm.ClassFile.FieldType.int) 1 := ⟨q961, q183, q962, by decide +kernel, by decide +kernel, by decide +kernel⟩
theorem q952 : Cond.constant "ControlText$Writer" 156 1000000000 ∈ ALL := mem_t 952 (by decide +kernel) (by decide +kernel)
theorem q444 : Cond.fieldLink "ControlText$Writer" 19 "ControlText$Writer" "out" "LControlText$Bytes;" ∈ ALL := mem_t 444 (by decide +kernel) (by decide +kernel)
theorem q886 : Cond.methodLink "ControlText$Writer" 130 yX0_put ∈ ALL := mem_t 886 (by decide +kernel) (by decide +kernel)
theorem q884 : Cond.methodLink "ControlText$Writer" 142 yX0_get ∈ ALL := mem_t 884 (by decide +kernel) (by decide +kernel)
theorem q880 : Cond.methodLink "ControlText$Writer" 133 yX5_part ∈ ALL := mem_t 880 (by decide +kernel) (by decide +kernel)
theorem q883 : Cond.code yX5_part prog_10_method_22_code 1 (Option.none : Option Jvm.ClassFile.FieldType) ∈ ALL := mem_t 883 (by decide +kernel) (by decide +kernel)
theorem q882 : Cond.instanceMethod yX5_part ∈ ALL := mem_t 882 (by decide +kernel) (by decide +kernel)
theorem q60 : Cond.selects "ControlText$Writer" yX5_part yX5_part ∈ ALL := mem_t 60 (by decide +kernel) (by decide +kernel)
theorem mvX5_part : MV yX5_part cX5_part 1 (Option.none : Option Jvm.ClassFile.FieldType) 0 := ⟨q882, q60, q183, q883, by decide +kernel, by decide +kernel, by decide +kernel⟩
theorem q443 : Cond.fieldLink "ControlText$Writer" 15 "ControlText$Writer" "names" "LControlText$Names;" ∈ ALL := mem_t 443 (by decide +kernel) (by decide +kernel)
theorem q887 : Cond.methodLink "ControlText$Writer" 136 yX1_letterOf ∈ ALL := mem_t 887 (by decide +kernel) (by decide +kernel)
theorem q876 : Cond.methodLink "ControlText$Writer" 100 yX5_word ∈ ALL := mem_t 876 (by decide +kernel) (by decide +kernel)
theorem q879 : Cond.code yX5_word prog_10_method_21_code 4 (Option.none : Option Jvm.ClassFile.FieldType) ∈ ALL := mem_t 879 (by decide +kernel) (by decide +kernel)
theorem q878 : Cond.instanceMethod yX5_word ∈ ALL := mem_t 878 (by decide +kernel) (by decide +kernel)
theorem q59 : Cond.selects "ControlText$Writer" yX5_word yX5_word ∈ ALL := mem_t 59 (by decide +kernel) (by decide +kernel)
theorem mvX5_word : MV yX5_word cX5_word 4 (Option.none : Option Jvm.ClassFile.FieldType) 1 := ⟨q878, q59, q183, q879, by decide +kernel, by decide +kernel, by decide +kernel⟩
theorem q945 : Cond.methodLink "ControlText$Writer" 148 yX10_abs ∈ ALL := mem_t 945 (by decide +kernel) (by decide +kernel)
theorem q947 : Cond.code yX10_abs prog_13_method_59_code 1 (Option.some Jvm.ClassFile.FieldType.int) ∈ ALL := mem_t 947 (by decide +kernel) (by decide +kernel)
theorem q946 : Cond.static yX10_abs ∈ ALL := mem_t 946 (by decide +kernel) (by decide +kernel)
theorem mvX10_abs : MS yX10_abs cX10_abs 1 (Option.some Jvm.ClassFile.FieldType.int) 1 := ⟨q946, q185, q947, by decide +kernel, by decide +kernel, by decide +kernel⟩
theorem q948 : Cond.methodLink "ControlText$Writer" 153 yX5_digits ∈ ALL := mem_t 948 (by decide +kernel) (by decide +kernel)
theorem q951 : Cond.code yX5_digits prog_10_method_25_code 3 (Option.none : Option Jvm.ClassFile.FieldType) ∈ ALL := mem_t 951 (by decide +kernel) (by decide +kernel)
theorem q950 : Cond.instanceMethod yX5_digits ∈ ALL := mem_t 950 (by decide +kernel) (by decide +kernel)
theorem q65 : Cond.selects "ControlText$Writer" yX5_digits yX5_digits ∈ ALL := mem_t 65 (by decide +kernel) (by decide +kernel)
theorem mvX5_digits : MV yX5_digits cX5_digits 3 (Option.none : Option Jvm.ClassFile.FieldType) 1 := ⟨q950, q65, q183, q951, by decide +kernel, by decide +kernel, by decide +kernel⟩
theorem q872 : Cond.methodLink "ControlText$Writer" 60 yX5_token ∈ ALL := mem_t 872 (by decide +kernel) (by decide +kernel)
theorem q875 : Cond.code yX5_token prog_10_method_20_code 2 (Option.none : Option Jvm.ClassFile.FieldType) ∈ ALL := mem_t 875 (by decide +kernel) (by decide +kernel)
theorem q874 : Cond.instanceMethod yX5_token ∈ ALL := mem_t 874 (by decide +kernel) (by decide +kernel)
theorem q58 : Cond.selects "ControlText$Writer" yX5_token yX5_token ∈ ALL := mem_t 58 (by decide +kernel) (by decide +kernel)
theorem mvX5_token : MV yX5_token cX5_token 2 (Option.none : Option Jvm.ClassFile.FieldType) 1 := ⟨q874, q58, q183, q875, by decide +kernel, by decide +kernel, by decide +kernel⟩
theorem q932 : Cond.methodLink "ControlText$Writer" 90 yX5_firstToken ∈ ALL := mem_t 932 (by decide +kernel) (by decide +kernel)
theorem q934 : Cond.code yX5_firstToken prog_10_method_11_code 2 (Option.some Jvm.ClassFile.FieldType.int) ∈ ALL := mem_t 934 (by decide +kernel) (by decide +kernel)
theorem q933 : Cond.static yX5_firstToken ∈ ALL := mem_t 933 (by decide +kernel) (by decide +kernel)
theorem mvX5_firstToken : MS yX5_firstToken cX5_firstToken 2 (Option.some Jvm.ClassFile.FieldType.int) 2 := ⟨q933, q183, q934, by decide +kernel, by decide +kernel, by decide +kernel⟩
theorem q938 : Cond.methodLink "ControlText$Writer" 97 yX5_bearsName ∈ ALL := mem_t 938 (by decide +kernel) (by decide +kernel)
theorem q940 : Cond.code yX5_bearsName prog_10_method_14_code 1 (Option.some Jvm.ClassFile.FieldType.boolean) ∈ ALL := mem_t 940 (by decide +kernel) (by decide +kernel)
theorem q939 : Cond.static yX5_bearsName ∈ ALL := mem_t 939 (by decide +kernel) (by decide +kernel)
theorem mvX5_bearsName : MS yX5_bearsName cX5_bearsName 1 (Option.some Jvm.ClassFile.FieldType.boolean) 1 := ⟨q939, q183, q940, by decide +kernel, by decide +kernel, by decide +kernel⟩
theorem q957 : Cond.methodLink "ControlText$Writer" 109 yX5_nextToken ∈ ALL := mem_t 957 (by decide +kernel) (by decide +kernel)
theorem q959 : Cond.code yX5_nextToken prog_10_method_15_code 2 (Option.some Jvm.ClassFile.FieldType.int) ∈ ALL := mem_t 959 (by decide +kernel) (by decide +kernel)
theorem q958 : Cond.static yX5_nextToken ∈ ALL := mem_t 958 (by decide +kernel) (by decide +kernel)
theorem mvX5_nextToken : MS yX5_nextToken cX5_nextToken 2 (Option.some Jvm.ClassFile.FieldType.int) 2 := ⟨q958, q183, q959, by decide +kernel, by decide +kernel, by decide +kernel⟩
theorem q953 : Cond.methodLink "ControlText$Writer" 106 yX5_place ∈ ALL := mem_t 953 (by decide +kernel) (by decide +kernel)
theorem q956 : Cond.code yX5_place prog_10_method_24_code 4 (Option.none : Option Jvm.ClassFile.FieldType) ∈ ALL := mem_t 956 (by decide +kernel) (by decide +kernel)
theorem q955 : Cond.instanceMethod yX5_place ∈ ALL := mem_t 955 (by decide +kernel) (by decide +kernel)
theorem q66 : Cond.selects "ControlText$Writer" yX5_place yX5_place ∈ ALL := mem_t 66 (by decide +kernel) (by decide +kernel)
theorem mvX5_place : MV yX5_place cX5_place 4 (Option.none : Option Jvm.ClassFile.FieldType) 1 := ⟨q955, q66, q183, q956, by decide +kernel, by decide +kernel, by decide +kernel⟩
theorem q941 : Cond.methodLink "ControlText$Writer" 103 yX5_number ∈ ALL := mem_t 941 (by decide +kernel) (by decide +kernel)
theorem q944 : Cond.code yX5_number prog_10_method_23_code 2 (Option.none : Option Jvm.ClassFile.FieldType) ∈ ALL := mem_t 944 (by decide +kernel) (by decide +kernel)
theorem q943 : Cond.instanceMethod yX5_number ∈ ALL := mem_t 943 (by decide +kernel) (by decide +kernel)
theorem q64 : Cond.selects "ControlText$Writer" yX5_number yX5_number ∈ ALL := mem_t 64 (by decide +kernel) (by decide +kernel)
theorem mvX5_number : MV yX5_number cX5_number 2 (Option.none : Option Jvm.ClassFile.FieldType) 1 := ⟨q943, q64, q183, q944, by decide +kernel, by decide +kernel, by decide +kernel⟩
theorem q888 : Cond.methodLink "ControlText$Writer" 93 yX5_isBracketed ∈ ALL := mem_t 888 (by decide +kernel) (by decide +kernel)
theorem q891 : Cond.code yX5_isBracketed prog_10_method_16_code 5 (Option.some Jvm.ClassFile.FieldType.boolean) ∈ ALL := mem_t 891 (by decide +kernel) (by decide +kernel)
theorem q890 : Cond.instanceMethod yX5_isBracketed ∈ ALL := mem_t 890 (by decide +kernel) (by decide +kernel)
theorem q61 : Cond.selects "ControlText$Writer" yX5_isBracketed yX5_isBracketed ∈ ALL := mem_t 61 (by decide +kernel) (by decide +kernel)
theorem mvX5_isBracketed : MV yX5_isBracketed cX5_isBracketed 5 (Option.some Jvm.ClassFile.FieldType.boolean) 1 := ⟨q890, q61, q183, q891, by decide +kernel, by decide +kernel, by decide +kernel⟩
theorem q898 : Cond.methodLink "ControlText$Writer" 124 yX5_lastToken ∈ ALL := mem_t 898 (by decide +kernel) (by decide +kernel)
theorem q900 : Cond.code yX5_lastToken prog_10_method_18_code 1 (Option.some Jvm.ClassFile.FieldType.int) ∈ ALL := mem_t 900 (by decide +kernel) (by decide +kernel)
theorem q899 : Cond.static yX5_lastToken ∈ ALL := mem_t 899 (by decide +kernel) (by decide +kernel)
theorem mvX5_lastToken : MS yX5_lastToken cX5_lastToken 1 (Option.some Jvm.ClassFile.FieldType.int) 1 := ⟨q899, q183, q900, by decide +kernel, by decide +kernel, by decide +kernel⟩
theorem q901 : Cond.methodLink "ControlText$Writer" 127 yX5_endsBySemicolon ∈ ALL := mem_t 901 (by decide +kernel) (by decide +kernel)
theorem q903 : Cond.code yX5_endsBySemicolon prog_10_method_19_code 1 (Option.some Jvm.ClassFile.FieldType.boolean) ∈ ALL := mem_t 903 (by decide +kernel) (by decide +kernel)
theorem q902 : Cond.static yX5_endsBySemicolon ∈ ALL := mem_t 902 (by decide +kernel) (by decide +kernel)
theorem mvX5_endsBySemicolon : MS yX5_endsBySemicolon cX5_endsBySemicolon 1 (Option.some Jvm.ClassFile.FieldType.boolean) 1 := ⟨q902, q183, q903, by decide +kernel, by decide +kernel, by decide +kernel⟩
theorem q871 : Cond.methodLink "ControlText$Writer" 121 yX3_children ∈ ALL := mem_t 871 (by decide +kernel) (by decide +kernel)
theorem q866 : Cond.methodLink "ControlText$Writer" 49 yX5_finish ∈ ALL := mem_t 866 (by decide +kernel) (by decide +kernel)
theorem q869 : Cond.code yX5_finish prog_10_method_17_code 3 (Option.none : Option Jvm.ClassFile.FieldType) ∈ ALL := mem_t 869 (by decide +kernel) (by decide +kernel)
theorem q868 : Cond.instanceMethod yX5_finish ∈ ALL := mem_t 868 (by decide +kernel) (by decide +kernel)
theorem q57 : Cond.selects "ControlText$Writer" yX5_finish yX5_finish ∈ ALL := mem_t 57 (by decide +kernel) (by decide +kernel)
theorem mvX5_finish : MV yX5_finish cX5_finish 3 (Option.none : Option Jvm.ClassFile.FieldType) 1 := ⟨q868, q57, q183, q869, by decide +kernel, by decide +kernel, by decide +kernel⟩
theorem q911 : Cond.fieldLink "ControlText$Sign" 9 "ControlText$Sign" "BETWEEN" "[I" ∈ ALL := mem_t 911 (by decide +kernel) (by decide +kernel)
theorem q919 : Cond.methodLink "ControlText$Writer" 84 yX5_behindFirst ∈ ALL := mem_t 919 (by decide +kernel) (by decide +kernel)
theorem q921 : Cond.code yX5_behindFirst prog_10_method_6_code 2 (Option.some Jvm.ClassFile.FieldType.int) ∈ ALL := mem_t 921 (by decide +kernel) (by decide +kernel)
theorem q920 : Cond.static yX5_behindFirst ∈ ALL := mem_t 920 (by decide +kernel) (by decide +kernel)
theorem mvX5_behindFirst : MS yX5_behindFirst cX5_behindFirst 2 (Option.some Jvm.ClassFile.FieldType.int) 2 := ⟨q920, q183, q921, by decide +kernel, by decide +kernel, by decide +kernel⟩
theorem q916 : Cond.methodLink "ControlText$Writer" 77 yX5_separatorInDeclaration ∈ ALL := mem_t 916 (by decide +kernel) (by decide +kernel)
theorem q918 : Cond.code yX5_separatorInDeclaration prog_10_method_7_code 2 (Option.some Jvm.ClassFile.FieldType.int) ∈ ALL := mem_t 918 (by decide +kernel) (by decide +kernel)
theorem q917 : Cond.static yX5_separatorInDeclaration ∈ ALL := mem_t 917 (by decide +kernel) (by decide +kernel)
theorem mvX5_separatorInDeclaration : MS yX5_separatorInDeclaration cX5_separatorInDeclaration 2 (Option.some Jvm.ClassFile.FieldType.int) 2 := ⟨q917, q183, q918, by decide +kernel, by decide +kernel, by decide +kernel⟩
theorem q922 : Cond.methodLink "ControlText$Writer" 81 yX5_separatorInIf ∈ ALL := mem_t 922 (by decide +kernel) (by decide +kernel)
theorem q924 : Cond.code yX5_separatorInIf prog_10_method_8_code 2 (Option.some Jvm.ClassFile.FieldType.int) ∈ ALL := mem_t 924 (by decide +kernel) (by decide +kernel)
theorem q923 : Cond.static yX5_separatorInIf ∈ ALL := mem_t 923 (by decide +kernel) (by decide +kernel)
theorem mvX5_separatorInIf : MS yX5_separatorInIf cX5_separatorInIf 2 (Option.some Jvm.ClassFile.FieldType.int) 2 := ⟨q923, q183, q924, by decide +kernel, by decide +kernel, by decide +kernel⟩
theorem q925 : Cond.methodLink "ControlText$Writer" 87 yX5_separatorInFor ∈ ALL := mem_t 925 (by decide +kernel) (by decide +kernel)
theorem q927 : Cond.code yX5_separatorInFor prog_10_method_9_code 2 (Option.some Jvm.ClassFile.FieldType.int) ∈ ALL := mem_t 927 (by decide +kernel) (by decide +kernel)
theorem q926 : Cond.static yX5_separatorInFor ∈ ALL := mem_t 926 (by decide +kernel) (by decide +kernel)
theorem mvX5_separatorInFor : MS yX5_separatorInFor cX5_separatorInFor 2 (Option.some Jvm.ClassFile.FieldType.int) 2 := ⟨q926, q183, q927, by decide +kernel, by decide +kernel, by decide +kernel⟩
theorem q913 : Cond.methodLink "ControlText$Writer" 73 yX5_separator ∈ ALL := mem_t 913 (by decide +kernel) (by decide +kernel)
theorem q915 : Cond.code yX5_separator prog_10_method_5_code 3 (Option.some Jvm.ClassFile.FieldType.int) ∈ ALL := mem_t 915 (by decide +kernel) (by decide +kernel)
theorem q914 : Cond.static yX5_separator ∈ ALL := mem_t 914 (by decide +kernel) (by decide +kernel)
theorem mvX5_separator : MS yX5_separator cX5_separator 3 (Option.some Jvm.ClassFile.FieldType.int) 3 := ⟨q914, q183, q915, by decide +kernel, by decide +kernel, by decide +kernel⟩
theorem q908 : Cond.methodLink "ControlText$Writer" 68 yX7_between ∈ ALL := mem_t 908 (by decide +kernel) (by decide +kernel)
theorem q910 : Cond.code yX7_between prog_6_method_3_code 1 (Option.some Jvm.ClassFile.FieldType.int) ∈ ALL := mem_t 910 (by decide +kernel) (by decide +kernel)
theorem q909 : Cond.static yX7_between ∈ ALL := mem_t 909 (by decide +kernel) (by decide +kernel)
theorem mvX7_between : MS yX7_between cX7_between 1 (Option.some Jvm.ClassFile.FieldType.int) 1 := ⟨q909, q186, q910, by decide +kernel, by decide +kernel, by decide +kernel⟩
theorem q860 : Cond.methodLink "ControlText$Writer" 23 yX0_cut ∈ ALL := mem_t 860 (by decide +kernel) (by decide +kernel)
theorem q862 : Cond.methodLink "ControlText$Writer" 39 yX5_finishUpTo ∈ ALL := mem_t 862 (by decide +kernel) (by decide +kernel)
theorem q865 : Cond.code yX5_finishUpTo prog_10_method_3_code 5 (Option.none : Option Jvm.ClassFile.FieldType) ∈ ALL := mem_t 865 (by decide +kernel) (by decide +kernel)
theorem q864 : Cond.instanceMethod yX5_finishUpTo ∈ ALL := mem_t 864 (by decide +kernel) (by decide +kernel)
theorem q56 : Cond.selects "ControlText$Writer" yX5_finishUpTo yX5_finishUpTo ∈ ALL := mem_t 56 (by decide +kernel) (by decide +kernel)
theorem mvX5_finishUpTo : MV yX5_finishUpTo cX5_finishUpTo 5 (Option.none : Option Jvm.ClassFile.FieldType) 2 := ⟨q864, q56, q183, q865, by decide +kernel, by decide +kernel, by decide +kernel⟩
theorem q904 : Cond.methodLink "ControlText$Writer" 43 yX5_separate ∈ ALL := mem_t 904 (by decide +kernel) (by decide +kernel)
theorem q907 : Cond.code yX5_separate prog_10_method_4_code 5 (Option.none : Option Jvm.ClassFile.FieldType) ∈ ALL := mem_t 907 (by decide +kernel) (by decide +kernel)
theorem q906 : Cond.instanceMethod yX5_separate ∈ ALL := mem_t 906 (by decide +kernel) (by decide +kernel)
theorem q62 : Cond.selects "ControlText$Writer" yX5_separate yX5_separate ∈ ALL := mem_t 62 (by decide +kernel) (by decide +kernel)
theorem mvX5_separate : MV yX5_separate cX5_separate 5 (Option.none : Option Jvm.ClassFile.FieldType) 1 := ⟨q906, q62, q183, q907, by decide +kernel, by decide +kernel, by decide +kernel⟩
theorem q928 : Cond.methodLink "ControlText$Writer" 46 yX5_begin ∈ ALL := mem_t 928 (by decide +kernel) (by decide +kernel)
theorem q931 : Cond.code yX5_begin prog_10_method_10_code 4 (Option.none : Option Jvm.ClassFile.FieldType) ∈ ALL := mem_t 931 (by decide +kernel) (by decide +kernel)
theorem q930 : Cond.instanceMethod yX5_begin ∈ ALL := mem_t 930 (by decide +kernel) (by decide +kernel)
theorem q63 : Cond.selects "ControlText$Writer" yX5_begin yX5_begin ∈ ALL := mem_t 63 (by decide +kernel) (by decide +kernel)
theorem mvX5_begin : MV yX5_begin cX5_begin 4 (Option.none : Option Jvm.ClassFile.FieldType) 1 := ⟨q930, q63, q183, q931, by decide +kernel, by decide +kernel, by decide +kernel⟩
theorem q458 : Cond.fieldLink "ControlText" 58 "ControlText" "writer" "LControlText$Writer;" ∈ ALL := mem_t 458 (by decide +kernel) (by decide +kernel)
theorem q856 : Cond.methodLink "ControlText" 121 yX5_writeTree ∈ ALL := mem_t 856 (by decide +kernel) (by decide +kernel)
theorem q859 : Cond.code yX5_writeTree prog_10_method_2_code 3 (Option.none : Option Jvm.ClassFile.FieldType) ∈ ALL := mem_t 859 (by decide +kernel) (by decide +kernel)
theorem q857 : Cond.instanceMethod yX5_writeTree ∈ ALL := mem_t 857 (by decide +kernel) (by decide +kernel)
theorem q858 : Cond.selects "ControlText$Writer" yX5_writeTree yX5_writeTree ∈ ALL := mem_t 858 (by decide +kernel) (by decide +kernel)
theorem mvX5_writeTree : MV yX5_writeTree cX5_writeTree 3 (Option.none : Option Jvm.ClassFile.FieldType) 0 := ⟨q857, q858, q183, q859, by decide +kernel, by decide +kernel, by decide +kernel⟩
theorem q967 : Cond.methodLink "ControlText" 124 yX0_get ∈ ALL := mem_t 967 (by decide +kernel) (by decide +kernel)
theorem q207 : Cond.laysFinal "ControlText$Bytes" "ControlText$Bytes" "bytes" "[I" ∈ ALL := mem_t 207 (by decide +kernel) (by decide +kernel)
theorem q209 : Cond.lays "ControlText$Bytes" "ControlText$Bytes" "size" "I" ∈ ALL := mem_t 209 (by decide +kernel) (by decide +kernel)
theorem q311 : Cond.laysFinal "ControlText$Names" "ControlText$Names" "letters" "[I" ∈ ALL := mem_t 311 (by decide +kernel) (by decide +kernel)
theorem q313 : Cond.laysFinal "ControlText$Names" "ControlText$Names" "starts" "[I" ∈ ALL := mem_t 313 (by decide +kernel) (by decide +kernel)
theorem q315 : Cond.laysFinal "ControlText$Names" "ControlText$Names" "slotOf" "[I" ∈ ALL := mem_t 315 (by decide +kernel) (by decide +kernel)
theorem q317 : Cond.laysFinal "ControlText$Names" "ControlText$Names" "slots" "[I" ∈ ALL := mem_t 317 (by decide +kernel) (by decide +kernel)
theorem q319 : Cond.lays "ControlText$Names" "ControlText$Names" "size" "I" ∈ ALL := mem_t 319 (by decide +kernel) (by decide +kernel)
theorem q321 : Cond.lays "ControlText$Names" "ControlText$Names" "used" "I" ∈ ALL := mem_t 321 (by decide +kernel) (by decide +kernel)
theorem q342 : Cond.laysFinal "ControlText$Tokens" "ControlText$Tokens" "text" "LControlText$Bytes;" ∈ ALL := mem_t 342 (by decide +kernel) (by decide +kernel)
theorem q344 : Cond.laysFinal "ControlText$Tokens" "ControlText$Tokens" "names" "LControlText$Names;" ∈ ALL := mem_t 344 (by decide +kernel) (by decide +kernel)
theorem q346 : Cond.laysFinal "ControlText$Tokens" "ControlText$Tokens" "kinds" "[I" ∈ ALL := mem_t 346 (by decide +kernel) (by decide +kernel)
theorem q348 : Cond.laysFinal "ControlText$Tokens" "ControlText$Tokens" "places" "[I" ∈ ALL := mem_t 348 (by decide +kernel) (by decide +kernel)
theorem q350 : Cond.laysFinal "ControlText$Tokens" "ControlText$Tokens" "values" "[I" ∈ ALL := mem_t 350 (by decide +kernel) (by decide +kernel)
theorem q352 : Cond.lays "ControlText$Tokens" "ControlText$Tokens" "size" "I" ∈ ALL := mem_t 352 (by decide +kernel) (by decide +kernel)
theorem q354 : Cond.lays "ControlText$Tokens" "ControlText$Tokens" "at" "I" ∈ ALL := mem_t 354 (by decide +kernel) (by decide +kernel)
theorem q374 : Cond.laysFinal "ControlText$Tree" "ControlText$Tree" "kinds" "[I" ∈ ALL := mem_t 374 (by decide +kernel) (by decide +kernel)
theorem q376 : Cond.laysFinal "ControlText$Tree" "ControlText$Tree" "places" "[I" ∈ ALL := mem_t 376 (by decide +kernel) (by decide +kernel)
theorem q378 : Cond.laysFinal "ControlText$Tree" "ControlText$Tree" "values" "[I" ∈ ALL := mem_t 378 (by decide +kernel) (by decide +kernel)
theorem q380 : Cond.laysFinal "ControlText$Tree" "ControlText$Tree" "children" "[I" ∈ ALL := mem_t 380 (by decide +kernel) (by decide +kernel)
theorem q382 : Cond.laysFinal "ControlText$Tree" "ControlText$Tree" "parents" "[I" ∈ ALL := mem_t 382 (by decide +kernel) (by decide +kernel)
theorem q384 : Cond.laysFinal "ControlText$Tree" "ControlText$Tree" "ranks" "[I" ∈ ALL := mem_t 384 (by decide +kernel) (by decide +kernel)
theorem q386 : Cond.laysFinal "ControlText$Tree" "ControlText$Tree" "met" "[I" ∈ ALL := mem_t 386 (by decide +kernel) (by decide +kernel)
theorem q388 : Cond.lays "ControlText$Tree" "ControlText$Tree" "size" "I" ∈ ALL := mem_t 388 (by decide +kernel) (by decide +kernel)
theorem q411 : Cond.laysFinal "ControlText$Parser" "ControlText$Parser" "tokens" "LControlText$Tokens;" ∈ ALL := mem_t 411 (by decide +kernel) (by decide +kernel)
theorem q413 : Cond.laysFinal "ControlText$Parser" "ControlText$Parser" "tree" "LControlText$Tree;" ∈ ALL := mem_t 413 (by decide +kernel) (by decide +kernel)
theorem q415 : Cond.lays "ControlText$Parser" "ControlText$Parser" "at" "I" ∈ ALL := mem_t 415 (by decide +kernel) (by decide +kernel)
theorem q417 : Cond.lays "ControlText$Parser" "ControlText$Parser" "kind" "I" ∈ ALL := mem_t 417 (by decide +kernel) (by decide +kernel)
theorem q419 : Cond.lays "ControlText$Parser" "ControlText$Parser" "place" "I" ∈ ALL := mem_t 419 (by decide +kernel) (by decide +kernel)
theorem q421 : Cond.lays "ControlText$Parser" "ControlText$Parser" "value" "I" ∈ ALL := mem_t 421 (by decide +kernel) (by decide +kernel)
theorem q423 : Cond.lays "ControlText$Parser" "ControlText$Parser" "placeBefore" "I" ∈ ALL := mem_t 423 (by decide +kernel) (by decide +kernel)
theorem q425 : Cond.lays "ControlText$Parser" "ControlText$Parser" "signs" "I" ∈ ALL := mem_t 425 (by decide +kernel) (by decide +kernel)
theorem q427 : Cond.lays "ControlText$Parser" "ControlText$Parser" "open" "I" ∈ ALL := mem_t 427 (by decide +kernel) (by decide +kernel)
theorem q429 : Cond.lays "ControlText$Parser" "ControlText$Parser" "tooDeep" "Z" ∈ ALL := mem_t 429 (by decide +kernel) (by decide +kernel)
theorem q431 : Cond.lays "ControlText$Parser" "ControlText$Parser" "fault" "I" ∈ ALL := mem_t 431 (by decide +kernel) (by decide +kernel)
theorem q433 : Cond.lays "ControlText$Parser" "ControlText$Parser" "faultPlace" "I" ∈ ALL := mem_t 433 (by decide +kernel) (by decide +kernel)
theorem q445 : Cond.laysFinal "ControlText$Writer" "ControlText$Writer" "tree" "LControlText$Tree;" ∈ ALL := mem_t 445 (by decide +kernel) (by decide +kernel)
theorem q447 : Cond.laysFinal "ControlText$Writer" "ControlText$Writer" "names" "LControlText$Names;" ∈ ALL := mem_t 447 (by decide +kernel) (by decide +kernel)
theorem q449 : Cond.laysFinal "ControlText$Writer" "ControlText$Writer" "out" "LControlText$Bytes;" ∈ ALL := mem_t 449 (by decide +kernel) (by decide +kernel)
theorem q459 : Cond.laysFinal "ControlText" "ControlText" "text" "LControlText$Bytes;" ∈ ALL := mem_t 459 (by decide +kernel) (by decide +kernel)
theorem q461 : Cond.laysFinal "ControlText" "ControlText" "written" "LControlText$Bytes;" ∈ ALL := mem_t 461 (by decide +kernel) (by decide +kernel)
theorem q463 : Cond.laysFinal "ControlText" "ControlText" "names" "LControlText$Names;" ∈ ALL := mem_t 463 (by decide +kernel) (by decide +kernel)
theorem q465 : Cond.laysFinal "ControlText" "ControlText" "tokens" "LControlText$Tokens;" ∈ ALL := mem_t 465 (by decide +kernel) (by decide +kernel)
theorem q467 : Cond.laysFinal "ControlText" "ControlText" "tree" "LControlText$Tree;" ∈ ALL := mem_t 467 (by decide +kernel) (by decide +kernel)
theorem q469 : Cond.laysFinal "ControlText" "ControlText" "parser" "LControlText$Parser;" ∈ ALL := mem_t 469 (by decide +kernel) (by decide +kernel)
theorem q471 : Cond.laysFinal "ControlText" "ControlText" "writer" "LControlText$Writer;" ∈ ALL := mem_t 471 (by decide +kernel) (by decide +kernel)
theorem q1026 : Cond.laysFinal "ControlTextModel" "ControlTextModel" "letters" "[I" ∈ ALL := mem_t 1026 (by decide +kernel) (by decide +kernel)
theorem q1028 : Cond.laysFinal "ControlTextModel" "ControlTextModel" "wordAt" "[I" ∈ ALL := mem_t 1028 (by decide +kernel) (by decide +kernel)
theorem q1030 : Cond.laysFinal "ControlTextModel" "ControlTextModel" "signs" "[I" ∈ ALL := mem_t 1030 (by decide +kernel) (by decide +kernel)
theorem q1032 : Cond.laysFinal "ControlTextModel" "ControlTextModel" "places" "[I" ∈ ALL := mem_t 1032 (by decide +kernel) (by decide +kernel)
theorem q1034 : Cond.lays "ControlTextModel" "ControlTextModel" "size" "I" ∈ ALL := mem_t 1034 (by decide +kernel) (by decide +kernel)
theorem q1036 : Cond.laysFinal "ControlTextModel" "ControlTextModel" "text" "[I" ∈ ALL := mem_t 1036 (by decide +kernel) (by decide +kernel)
theorem q1038 : Cond.lays "ControlTextModel" "ControlTextModel" "begin" "I" ∈ ALL := mem_t 1038 (by decide +kernel) (by decide +kernel)
theorem q1040 : Cond.lays "ControlTextModel" "ControlTextModel" "token" "I" ∈ ALL := mem_t 1040 (by decide +kernel) (by decide +kernel)
theorem q1042 : Cond.lays "ControlTextModel" "ControlTextModel" "worth" "I" ∈ ALL := mem_t 1042 (by decide +kernel) (by decide +kernel)
theorem q1044 : Cond.lays "ControlTextModel" "ControlTextModel" "next" "I" ∈ ALL := mem_t 1044 (by decide +kernel) (by decide +kernel)
theorem q1046 : Cond.lays "ControlTextModel" "ControlTextModel" "lastPlace" "I" ∈ ALL := mem_t 1046 (by decide +kernel) (by decide +kernel)
theorem q1048 : Cond.lays "ControlTextModel" "ControlTextModel" "fault" "I" ∈ ALL := mem_t 1048 (by decide +kernel) (by decide +kernel)
theorem q1050 : Cond.lays "ControlTextModel" "ControlTextModel" "faultPlace" "I" ∈ ALL := mem_t 1050 (by decide +kernel) (by decide +kernel)
theorem q1052 : Cond.lays "ControlTextModel" "ControlTextModel" "names" "I" ∈ ALL := mem_t 1052 (by decide +kernel) (by decide +kernel)
theorem q1054 : Cond.laysFinal "ControlTextModel" "ControlTextModel" "nameAt" "[I" ∈ ALL := mem_t 1054 (by decide +kernel) (by decide +kernel)
theorem q1056 : Cond.laysFinal "ControlTextModel" "ControlTextModel" "nameBytes" "[I" ∈ ALL := mem_t 1056 (by decide +kernel) (by decide +kernel)
theorem q1058 : Cond.lays "ControlTextModel" "ControlTextModel" "nodes" "I" ∈ ALL := mem_t 1058 (by decide +kernel) (by decide +kernel)
theorem q1060 : Cond.laysFinal "ControlTextModel" "ControlTextModel" "kinds" "[I" ∈ ALL := mem_t 1060 (by decide +kernel) (by decide +kernel)
theorem q1062 : Cond.laysFinal "ControlTextModel" "ControlTextModel" "where" "[I" ∈ ALL := mem_t 1062 (by decide +kernel) (by decide +kernel)
theorem q1064 : Cond.laysFinal "ControlTextModel" "ControlTextModel" "values" "[I" ∈ ALL := mem_t 1064 (by decide +kernel) (by decide +kernel)
theorem q1066 : Cond.laysFinal "ControlTextModel" "ControlTextModel" "parents" "[I" ∈ ALL := mem_t 1066 (by decide +kernel) (by decide +kernel)
theorem q1068 : Cond.laysFinal "ControlTextModel" "ControlTextModel" "firsts" "[I" ∈ ALL := mem_t 1068 (by decide +kernel) (by decide +kernel)
theorem q1070 : Cond.laysFinal "ControlTextModel" "ControlTextModel" "lasts" "[I" ∈ ALL := mem_t 1070 (by decide +kernel) (by decide +kernel)
theorem q1072 : Cond.laysFinal "ControlTextModel" "ControlTextModel" "siblings" "[I" ∈ ALL := mem_t 1072 (by decide +kernel) (by decide +kernel)
theorem q1074 : Cond.lays "ControlTextModel" "ControlTextModel" "current" "I" ∈ ALL := mem_t 1074 (by decide +kernel) (by decide +kernel)
theorem q1076 : Cond.lays "ControlTextModel" "ControlTextModel" "due" "I" ∈ ALL := mem_t 1076 (by decide +kernel) (by decide +kernel)
theorem q1078 : Cond.laysFinal "ControlTextModel" "ControlTextModel" "dues" "[I" ∈ ALL := mem_t 1078 (by decide +kernel) (by decide +kernel)
theorem q1080 : Cond.lays "ControlTextModel" "ControlTextModel" "open" "I" ∈ ALL := mem_t 1080 (by decide +kernel) (by decide +kernel)
theorem q1082 : Cond.lays "ControlTextModel" "ControlTextModel" "signsOpen" "I" ∈ ALL := mem_t 1082 (by decide +kernel) (by decide +kernel)
theorem q1084 : Cond.lays "ControlTextModel" "ControlTextModel" "inner" "I" ∈ ALL := mem_t 1084 (by decide +kernel) (by decide +kernel)
theorem q1086 : Cond.lays "ControlTextModel" "ControlTextModel" "namePlace" "I" ∈ ALL := mem_t 1086 (by decide +kernel) (by decide +kernel)
theorem q1088 : Cond.lays "ControlTextModel" "ControlTextModel" "nameNumber" "I" ∈ ALL := mem_t 1088 (by decide +kernel) (by decide +kernel)
theorem q1090 : Cond.lays "ControlTextModel" "ControlTextModel" "minusPlace" "I" ∈ ALL := mem_t 1090 (by decide +kernel) (by decide +kernel)
theorem q1092 : Cond.lays "ControlTextModel" "ControlTextModel" "operands" "I" ∈ ALL := mem_t 1092 (by decide +kernel) (by decide +kernel)
theorem q1094 : Cond.laysFinal "ControlTextModel" "ControlTextModel" "operand" "[I" ∈ ALL := mem_t 1094 (by decide +kernel) (by decide +kernel)
theorem q1096 : Cond.lays "ControlTextModel" "ControlTextModel" "waiting" "I" ∈ ALL := mem_t 1096 (by decide +kernel) (by decide +kernel)
theorem q1098 : Cond.laysFinal "ControlTextModel" "ControlTextModel" "waitingSign" "[I" ∈ ALL := mem_t 1098 (by decide +kernel) (by decide +kernel)
theorem q1100 : Cond.laysFinal "ControlTextModel" "ControlTextModel" "waitingPlace" "[I" ∈ ALL := mem_t 1100 (by decide +kernel) (by decide +kernel)
theorem q1102 : Cond.lays "ControlTextModel" "ControlTextModel" "beginnings" "I" ∈ ALL := mem_t 1102 (by decide +kernel) (by decide +kernel)
theorem q1104 : Cond.laysFinal "ControlTextModel" "ControlTextModel" "beginning" "[I" ∈ ALL := mem_t 1104 (by decide +kernel) (by decide +kernel)
theorem q1106 : Cond.lays "ControlTextModel" "ControlTextModel" "count" "I" ∈ ALL := mem_t 1106 (by decide +kernel) (by decide +kernel)
theorem q1108 : Cond.laysFinal "ControlTextModel" "ControlTextModel" "byNumber" "[I" ∈ ALL := mem_t 1108 (by decide +kernel) (by decide +kernel)
theorem q1110 : Cond.laysFinal "ControlTextModel" "ControlTextModel" "numberOf" "[I" ∈ ALL := mem_t 1110 (by decide +kernel) (by decide +kernel)
theorem q1112 : Cond.lays "ControlTextModel" "ControlTextModel" "writtenSize" "I" ∈ ALL := mem_t 1112 (by decide +kernel) (by decide +kernel)
theorem q1114 : Cond.laysFinal "ControlTextModel" "ControlTextModel" "written" "[I" ∈ ALL := mem_t 1114 (by decide +kernel) (by decide +kernel)
theorem q1116 : Cond.lays "ControlTextModel" "ControlTextModel" "items" "I" ∈ ALL := mem_t 1116 (by decide +kernel) (by decide +kernel)
theorem q1118 : Cond.laysFinal "ControlTextModel" "ControlTextModel" "itemKind" "[I" ∈ ALL := mem_t 1118 (by decide +kernel) (by decide +kernel)
theorem q1120 : Cond.laysFinal "ControlTextModel" "ControlTextModel" "itemOf" "[I" ∈ ALL := mem_t 1120 (by decide +kernel) (by decide +kernel)
theorem layX0a : ∀ w ∈ u_ws RX0 TX0 2, w ∈ ALL := by
  show ∀ w ∈ ([Cond.laysFinal "ControlText$Bytes" "ControlText$Bytes" "bytes" "[I", Cond.lays "ControlText$Bytes" "ControlText$Bytes" "size" "I"] : List Cond), w ∈ ALL
  exact List.forall_mem_cons.mpr ⟨q207, List.forall_mem_cons.mpr ⟨q209, fun _ h => absurd h List.not_mem_nil⟩⟩
theorem layX0 {c0 : Cond} : ∀ w ∈ u_ws RX0 TX0 2, w ∈ c0 :: ALL := fun w h => inA (layX0a w h)
theorem layX1a : ∀ w ∈ u_ws RX1 TX1 6, w ∈ ALL := by
  show ∀ w ∈ ([Cond.laysFinal "ControlText$Names" "ControlText$Names" "letters" "[I", Cond.laysFinal "ControlText$Names" "ControlText$Names" "starts" "[I", Cond.laysFinal "ControlText$Names" "ControlText$Names" "slotOf" "[I", Cond.laysFinal "ControlText$Names" "ControlText$Names" "slots" "[I", Cond.lays "ControlText$Names" "ControlText$Names" "size" "I", Cond.lays "ControlText$Names" "ControlText$Names" "used" "I"] : List Cond), w ∈ ALL
  exact List.forall_mem_cons.mpr ⟨q311, List.forall_mem_cons.mpr ⟨q313, List.forall_mem_cons.mpr ⟨q315, List.forall_mem_cons.mpr ⟨q317, List.forall_mem_cons.mpr ⟨q319, List.forall_mem_cons.mpr ⟨q321, fun _ h => absurd h List.not_mem_nil⟩⟩⟩⟩⟩⟩
theorem layX1 {c0 : Cond} : ∀ w ∈ u_ws RX1 TX1 6, w ∈ c0 :: ALL := fun w h => inA (layX1a w h)
theorem layX2a : ∀ w ∈ u_ws RX2 TX2 7, w ∈ ALL := by
  show ∀ w ∈ ([Cond.laysFinal "ControlText$Tokens" "ControlText$Tokens" "text" "LControlText$Bytes;", Cond.laysFinal "ControlText$Tokens" "ControlText$Tokens" "names" "LControlText$Names;", Cond.laysFinal "ControlText$Tokens" "ControlText$Tokens" "kinds" "[I", Cond.laysFinal "ControlText$Tokens" "ControlText$Tokens" "places" "[I", Cond.laysFinal "ControlText$Tokens" "ControlText$Tokens" "values" "[I", Cond.lays "ControlText$Tokens" "ControlText$Tokens" "size" "I", Cond.lays "ControlText$Tokens" "ControlText$Tokens" "at" "I"] : List Cond), w ∈ ALL
  exact List.forall_mem_cons.mpr ⟨q342, List.forall_mem_cons.mpr ⟨q344, List.forall_mem_cons.mpr ⟨q346, List.forall_mem_cons.mpr ⟨q348, List.forall_mem_cons.mpr ⟨q350, List.forall_mem_cons.mpr ⟨q352, List.forall_mem_cons.mpr ⟨q354, fun _ h => absurd h List.not_mem_nil⟩⟩⟩⟩⟩⟩⟩
theorem layX2 {c0 : Cond} : ∀ w ∈ u_ws RX2 TX2 7, w ∈ c0 :: ALL := fun w h => inA (layX2a w h)
theorem layX3a : ∀ w ∈ u_ws RX3 TX3 8, w ∈ ALL := by
  show ∀ w ∈ ([Cond.laysFinal "ControlText$Tree" "ControlText$Tree" "kinds" "[I", Cond.laysFinal "ControlText$Tree" "ControlText$Tree" "places" "[I", Cond.laysFinal "ControlText$Tree" "ControlText$Tree" "values" "[I", Cond.laysFinal "ControlText$Tree" "ControlText$Tree" "children" "[I", Cond.laysFinal "ControlText$Tree" "ControlText$Tree" "parents" "[I", Cond.laysFinal "ControlText$Tree" "ControlText$Tree" "ranks" "[I", Cond.laysFinal "ControlText$Tree" "ControlText$Tree" "met" "[I", Cond.lays "ControlText$Tree" "ControlText$Tree" "size" "I"] : List Cond), w ∈ ALL
  exact List.forall_mem_cons.mpr ⟨q374, List.forall_mem_cons.mpr ⟨q376, List.forall_mem_cons.mpr ⟨q378, List.forall_mem_cons.mpr ⟨q380, List.forall_mem_cons.mpr ⟨q382, List.forall_mem_cons.mpr ⟨q384, List.forall_mem_cons.mpr ⟨q386, List.forall_mem_cons.mpr ⟨q388, fun _ h => absurd h List.not_mem_nil⟩⟩⟩⟩⟩⟩⟩⟩
theorem layX3 {c0 : Cond} : ∀ w ∈ u_ws RX3 TX3 8, w ∈ c0 :: ALL := fun w h => inA (layX3a w h)
theorem layX4a : ∀ w ∈ u_ws RX4 TX4 12, w ∈ ALL := by
  show ∀ w ∈ ([Cond.laysFinal "ControlText$Parser" "ControlText$Parser" "tokens" "LControlText$Tokens;", Cond.laysFinal "ControlText$Parser" "ControlText$Parser" "tree" "LControlText$Tree;", Cond.lays "ControlText$Parser" "ControlText$Parser" "at" "I", Cond.lays "ControlText$Parser" "ControlText$Parser" "kind" "I", Cond.lays "ControlText$Parser" "ControlText$Parser" "place" "I", Cond.lays "ControlText$Parser" "ControlText$Parser" "value" "I", Cond.lays "ControlText$Parser" "ControlText$Parser" "placeBefore" "I", Cond.lays "ControlText$Parser" "ControlText$Parser" "signs" "I", Cond.lays "ControlText$Parser" "ControlText$Parser" "open" "I", Cond.lays "ControlText$Parser" "ControlText$Parser" "tooDeep" "Z", Cond.lays "ControlText$Parser" "ControlText$Parser" "fault" "I", Cond.lays "ControlText$Parser" "ControlText$Parser" "faultPlace" "I"] : List Cond), w ∈ ALL
  exact List.forall_mem_cons.mpr ⟨q411, List.forall_mem_cons.mpr ⟨q413, List.forall_mem_cons.mpr ⟨q415, List.forall_mem_cons.mpr ⟨q417, List.forall_mem_cons.mpr ⟨q419, List.forall_mem_cons.mpr ⟨q421, List.forall_mem_cons.mpr ⟨q423, List.forall_mem_cons.mpr ⟨q425, List.forall_mem_cons.mpr ⟨q427, List.forall_mem_cons.mpr ⟨q429, List.forall_mem_cons.mpr ⟨q431, List.forall_mem_cons.mpr ⟨q433, fun _ h => absurd h List.not_mem_nil⟩⟩⟩⟩⟩⟩⟩⟩⟩⟩⟩⟩
theorem layX4 {c0 : Cond} : ∀ w ∈ u_ws RX4 TX4 12, w ∈ c0 :: ALL := fun w h => inA (layX4a w h)
theorem layX5a : ∀ w ∈ u_ws RX5 TX5 3, w ∈ ALL := by
  show ∀ w ∈ ([Cond.laysFinal "ControlText$Writer" "ControlText$Writer" "tree" "LControlText$Tree;", Cond.laysFinal "ControlText$Writer" "ControlText$Writer" "names" "LControlText$Names;", Cond.laysFinal "ControlText$Writer" "ControlText$Writer" "out" "LControlText$Bytes;"] : List Cond), w ∈ ALL
  exact List.forall_mem_cons.mpr ⟨q445, List.forall_mem_cons.mpr ⟨q447, List.forall_mem_cons.mpr ⟨q449, fun _ h => absurd h List.not_mem_nil⟩⟩⟩
theorem layX5 {c0 : Cond} : ∀ w ∈ u_ws RX5 TX5 3, w ∈ c0 :: ALL := fun w h => inA (layX5a w h)
theorem layX6a : ∀ w ∈ u_ws RX6 TX6 7, w ∈ ALL := by
  show ∀ w ∈ ([Cond.laysFinal "ControlText" "ControlText" "text" "LControlText$Bytes;", Cond.laysFinal "ControlText" "ControlText" "written" "LControlText$Bytes;", Cond.laysFinal "ControlText" "ControlText" "names" "LControlText$Names;", Cond.laysFinal "ControlText" "ControlText" "tokens" "LControlText$Tokens;", Cond.laysFinal "ControlText" "ControlText" "tree" "LControlText$Tree;", Cond.laysFinal "ControlText" "ControlText" "parser" "LControlText$Parser;", Cond.laysFinal "ControlText" "ControlText" "writer" "LControlText$Writer;"] : List Cond), w ∈ ALL
  exact List.forall_mem_cons.mpr ⟨q459, List.forall_mem_cons.mpr ⟨q461, List.forall_mem_cons.mpr ⟨q463, List.forall_mem_cons.mpr ⟨q465, List.forall_mem_cons.mpr ⟨q467, List.forall_mem_cons.mpr ⟨q469, List.forall_mem_cons.mpr ⟨q471, fun _ h => absurd h List.not_mem_nil⟩⟩⟩⟩⟩⟩⟩
theorem layX6 {c0 : Cond} : ∀ w ∈ u_ws RX6 TX6 7, w ∈ c0 :: ALL := fun w h => inA (layX6a w h)
theorem layX8a : ∀ w ∈ u_ws RX8 TX8 48, w ∈ ALL := by
  show ∀ w ∈ ([Cond.laysFinal "ControlTextModel" "ControlTextModel" "letters" "[I", Cond.laysFinal "ControlTextModel" "ControlTextModel" "wordAt" "[I", Cond.laysFinal "ControlTextModel" "ControlTextModel" "signs" "[I", Cond.laysFinal "ControlTextModel" "ControlTextModel" "places" "[I", Cond.lays "ControlTextModel" "ControlTextModel" "size" "I", Cond.laysFinal "ControlTextModel" "ControlTextModel" "text" "[I", Cond.lays "ControlTextModel" "ControlTextModel" "begin" "I", Cond.lays "ControlTextModel" "ControlTextModel" "token" "I", Cond.lays "ControlTextModel" "ControlTextModel" "worth" "I", Cond.lays "ControlTextModel" "ControlTextModel" "next" "I", Cond.lays "ControlTextModel" "ControlTextModel" "lastPlace" "I", Cond.lays "ControlTextModel" "ControlTextModel" "fault" "I", Cond.lays "ControlTextModel" "ControlTextModel" "faultPlace" "I", Cond.lays "ControlTextModel" "ControlTextModel" "names" "I", Cond.laysFinal "ControlTextModel" "ControlTextModel" "nameAt" "[I", Cond.laysFinal "ControlTextModel" "ControlTextModel" "nameBytes" "[I", Cond.lays "ControlTextModel" "ControlTextModel" "nodes" "I", Cond.laysFinal "ControlTextModel" "ControlTextModel" "kinds" "[I", Cond.laysFinal "ControlTextModel" "ControlTextModel" "where" "[I", Cond.laysFinal "ControlTextModel" "ControlTextModel" "values" "[I", Cond.laysFinal "ControlTextModel" "ControlTextModel" "parents" "[I", Cond.laysFinal "ControlTextModel" "ControlTextModel" "firsts" "[I", Cond.laysFinal "ControlTextModel" "ControlTextModel" "lasts" "[I", Cond.laysFinal "ControlTextModel" "ControlTextModel" "siblings" "[I", Cond.lays "ControlTextModel" "ControlTextModel" "current" "I", Cond.lays "ControlTextModel" "ControlTextModel" "due" "I", Cond.laysFinal "ControlTextModel" "ControlTextModel" "dues" "[I", Cond.lays "ControlTextModel" "ControlTextModel" "open" "I", Cond.lays "ControlTextModel" "ControlTextModel" "signsOpen" "I", Cond.lays "ControlTextModel" "ControlTextModel" "inner" "I", Cond.lays "ControlTextModel" "ControlTextModel" "namePlace" "I", Cond.lays "ControlTextModel" "ControlTextModel" "nameNumber" "I", Cond.lays "ControlTextModel" "ControlTextModel" "minusPlace" "I", Cond.lays "ControlTextModel" "ControlTextModel" "operands" "I", Cond.laysFinal "ControlTextModel" "ControlTextModel" "operand" "[I", Cond.lays "ControlTextModel" "ControlTextModel" "waiting" "I", Cond.laysFinal "ControlTextModel" "ControlTextModel" "waitingSign" "[I", Cond.laysFinal "ControlTextModel" "ControlTextModel" "waitingPlace" "[I", Cond.lays "ControlTextModel" "ControlTextModel" "beginnings" "I", Cond.laysFinal "ControlTextModel" "ControlTextModel" "beginning" "[I", Cond.lays "ControlTextModel" "ControlTextModel" "count" "I", Cond.laysFinal "ControlTextModel" "ControlTextModel" "byNumber" "[I", Cond.laysFinal "ControlTextModel" "ControlTextModel" "numberOf" "[I", Cond.lays "ControlTextModel" "ControlTextModel" "writtenSize" "I", Cond.laysFinal "ControlTextModel" "ControlTextModel" "written" "[I", Cond.lays "ControlTextModel" "ControlTextModel" "items" "I", Cond.laysFinal "ControlTextModel" "ControlTextModel" "itemKind" "[I", Cond.laysFinal "ControlTextModel" "ControlTextModel" "itemOf" "[I"] : List Cond), w ∈ ALL
  exact List.forall_mem_cons.mpr ⟨q1026, List.forall_mem_cons.mpr ⟨q1028, List.forall_mem_cons.mpr ⟨q1030, List.forall_mem_cons.mpr ⟨q1032, List.forall_mem_cons.mpr ⟨q1034, List.forall_mem_cons.mpr ⟨q1036, List.forall_mem_cons.mpr ⟨q1038, List.forall_mem_cons.mpr ⟨q1040, List.forall_mem_cons.mpr ⟨q1042, List.forall_mem_cons.mpr ⟨q1044, List.forall_mem_cons.mpr ⟨q1046, List.forall_mem_cons.mpr ⟨q1048, List.forall_mem_cons.mpr ⟨q1050, List.forall_mem_cons.mpr ⟨q1052, List.forall_mem_cons.mpr ⟨q1054, List.forall_mem_cons.mpr ⟨q1056, List.forall_mem_cons.mpr ⟨q1058, List.forall_mem_cons.mpr ⟨q1060, List.forall_mem_cons.mpr ⟨q1062, List.forall_mem_cons.mpr ⟨q1064, List.forall_mem_cons.mpr ⟨q1066, List.forall_mem_cons.mpr ⟨q1068, List.forall_mem_cons.mpr ⟨q1070, List.forall_mem_cons.mpr ⟨q1072, List.forall_mem_cons.mpr ⟨q1074, List.forall_mem_cons.mpr ⟨q1076, List.forall_mem_cons.mpr ⟨q1078, List.forall_mem_cons.mpr ⟨q1080, List.forall_mem_cons.mpr ⟨q1082, List.forall_mem_cons.mpr ⟨q1084, List.forall_mem_cons.mpr ⟨q1086, List.forall_mem_cons.mpr ⟨q1088, List.forall_mem_cons.mpr ⟨q1090, List.forall_mem_cons.mpr ⟨q1092, List.forall_mem_cons.mpr ⟨q1094, List.forall_mem_cons.mpr ⟨q1096, List.forall_mem_cons.mpr ⟨q1098, List.forall_mem_cons.mpr ⟨q1100, List.forall_mem_cons.mpr ⟨q1102, List.forall_mem_cons.mpr ⟨q1104, List.forall_mem_cons.mpr ⟨q1106, List.forall_mem_cons.mpr ⟨q1108, List.forall_mem_cons.mpr ⟨q1110, List.forall_mem_cons.mpr ⟨q1112, List.forall_mem_cons.mpr ⟨q1114, List.forall_mem_cons.mpr ⟨q1116, List.forall_mem_cons.mpr ⟨q1118, List.forall_mem_cons.mpr ⟨q1120, fun _ h => absurd h List.not_mem_nil⟩⟩⟩⟩⟩⟩⟩⟩⟩⟩⟩⟩⟩⟩⟩⟩⟩⟩⟩⟩⟩⟩⟩⟩⟩⟩⟩⟩⟩⟩⟩⟩⟩⟩⟩⟩⟩⟩⟩⟩⟩⟩⟩⟩⟩⟩⟩⟩
theorem layX8 {c0 : Cond} : ∀ w ∈ u_ws RX8 TX8 48, w ∈ c0 :: ALL := fun w h => inA (layX8a w h)
def nestF : List (String × Nat × String × String × String × String) := [("ControlText", 62, "ControlText$Bytes", "size", "I", "ControlText"), ("ControlText$Tokens", 89, "ControlText$Bytes", "size", "I", "ControlText"), ("ControlText$Writer", 141, "ControlText$Bytes", "size", "I", "ControlText"), ("ControlText", 99, "ControlText$Names", "size", "I", "ControlText"), ("ControlText$Parser", 100, "ControlText$Tokens", "kinds", "[I", "ControlText"), ("ControlText$Parser", 104, "ControlText$Tokens", "places", "[I", "ControlText"), ("ControlText$Parser", 107, "ControlText$Tokens", "values", "[I", "ControlText"), ("ControlText$Parser", 97, "ControlText$Tokens", "size", "I", "ControlText"), ("ControlText$Writer", 29, "ControlText$Tree", "size", "I", "ControlText"), ("ControlText", 98, "ControlText$Tree", "size", "I", "ControlText"), ("ControlText$Parser", 165, "ControlText$Tree", "size", "I", "ControlText"), ("ControlText", 85, "ControlText$Parser", "fault", "I", "ControlText"), ("ControlText", 95, "ControlText$Parser", "faultPlace", "I", "ControlText")]
def nestM : List (String × Nat × MethodName × String) := [("ControlText$Names", 66, yX6_great, "ControlText"), ("ControlText", 39, yX3_init, "ControlText"), ("ControlText$Tokens", 61, yX6_great, "ControlText"), ("ControlText$Tokens", 67, yX6_isDigit, "ControlText"), ("ControlText$Tokens", 74, yX6_isNameByte, "ControlText"), ("ControlText$Writer", 145, yX6_isNameByte, "ControlText")]
theorem nf0 : ("ControlText", 62, "ControlText$Bytes", "size", "I", "ControlText") ∈ nestF := List.mem_of_getElem? (i := 0) rfl
theorem nf1 : ("ControlText$Tokens", 89, "ControlText$Bytes", "size", "I", "ControlText") ∈ nestF := List.mem_of_getElem? (i := 1) rfl
theorem nf2 : ("ControlText$Writer", 141, "ControlText$Bytes", "size", "I", "ControlText") ∈ nestF := List.mem_of_getElem? (i := 2) rfl
theorem nf3 : ("ControlText", 99, "ControlText$Names", "size", "I", "ControlText") ∈ nestF := List.mem_of_getElem? (i := 3) rfl
theorem nf4 : ("ControlText$Parser", 100, "ControlText$Tokens", "kinds", "[I", "ControlText") ∈ nestF := List.mem_of_getElem? (i := 4) rfl
theorem nf5 : ("ControlText$Parser", 104, "ControlText$Tokens", "places", "[I", "ControlText") ∈ nestF := List.mem_of_getElem? (i := 5) rfl
theorem nf6 : ("ControlText$Parser", 107, "ControlText$Tokens", "values", "[I", "ControlText") ∈ nestF := List.mem_of_getElem? (i := 6) rfl
theorem nf7 : ("ControlText$Parser", 97, "ControlText$Tokens", "size", "I", "ControlText") ∈ nestF := List.mem_of_getElem? (i := 7) rfl
theorem nf8 : ("ControlText$Writer", 29, "ControlText$Tree", "size", "I", "ControlText") ∈ nestF := List.mem_of_getElem? (i := 8) rfl
theorem nf9 : ("ControlText", 98, "ControlText$Tree", "size", "I", "ControlText") ∈ nestF := List.mem_of_getElem? (i := 9) rfl
theorem nf10 : ("ControlText$Parser", 165, "ControlText$Tree", "size", "I", "ControlText") ∈ nestF := List.mem_of_getElem? (i := 10) rfl
theorem nf11 : ("ControlText", 85, "ControlText$Parser", "fault", "I", "ControlText") ∈ nestF := List.mem_of_getElem? (i := 11) rfl
theorem nf12 : ("ControlText", 95, "ControlText$Parser", "faultPlace", "I", "ControlText") ∈ nestF := List.mem_of_getElem? (i := 12) rfl
theorem nm0_in : ("ControlText$Names", 66, yX6_great, "ControlText") ∈ nestM := List.mem_of_getElem? (i := 0) rfl
theorem nm1_in : ("ControlText", 39, yX3_init, "ControlText") ∈ nestM := List.mem_of_getElem? (i := 1) rfl
theorem nm2_in : ("ControlText$Tokens", 61, yX6_great, "ControlText") ∈ nestM := List.mem_of_getElem? (i := 2) rfl
theorem nm3_in : ("ControlText$Tokens", 67, yX6_isDigit, "ControlText") ∈ nestM := List.mem_of_getElem? (i := 3) rfl
theorem nm4_in : ("ControlText$Tokens", 74, yX6_isNameByte, "ControlText") ∈ nestM := List.mem_of_getElem? (i := 4) rfl
theorem nm5_in : ("ControlText$Writer", 145, yX6_isNameByte, "ControlText") ∈ nestM := List.mem_of_getElem? (i := 5) rfl
abbrev t_BETWEEN : List Int32 := [286, 287, 38, 61, 15422, 60, 62, 15421, 15933, 43, 45, 42, 47, 289]
abbrev t_BINDING : List Int32 := [0, 1, 2, 3, 3, 4, 4, 4, 4, 5, 5, 6, 6, 6]
def statA : List (String × String × Nat × List Int32) := [("ControlText$Sign", "BETWEEN", 0, t_BETWEEN), ("ControlText$Sign", "BINDING", 1, t_BINDING)]
theorem st0 : ("ControlText$Sign", "BETWEEN", 0, t_BETWEEN) ∈ statA := List.mem_of_getElem? (i := 0) rfl
theorem st1 : ("ControlText$Sign", "BINDING", 1, t_BINDING) ∈ statA := List.mem_of_getElem? (i := 1) rfl
end
section
/-! Words for what a method computes: an Option, none where the machine would leave the road (an index out of its row, a division by 0, no fuel). -/
def FU : Nat := 20000
def nm {α β : Type} (a : α) (f : α → Option β) : Option β := f a
def gd {β : Type} (i : Int32) (n : Nat) (k : Option β) : Option β := if ¬ (i < 0 ∨ n ≤ i.toNatClampNeg) then k else none
def dz {β : Type} (y : Int32) (k : Option β) : Option β := if y = 0 then none else k
def ac {β : Type} (sp dp n : Int32) (n0 n1 : Nat) (k : Option β) : Option β := if ¬ sp < 0 ∧ ¬ dp < 0 ∧ ¬ n < 0 ∧ sp.toNatClampNeg + n.toNatClampNeg ≤ n0 ∧ dp.toNatClampNeg + n.toNatClampNeg ≤ n1 then k else none
theorem nm_use {α β : Type} {a x : α} {f : α → Option β} {r : β} (e : x = a) (h : nm a f = some r) : f x = some r := by subst e; exact h
theorem gd_use {β : Type} {i : Int32} {n : Nat} {k : Option β} {r : β} (h : gd i n k = some r) : vp_in i n ∧ k = some r := by
  unfold gd at h
  by_cases c : ¬ (i < 0 ∨ n ≤ i.toNatClampNeg)
  · rw [if_pos c] at h; exact ⟨c, h⟩
  · rw [if_neg c] at h; cases h
theorem dz_use {β : Type} {y : Int32} {k : Option β} {r : β} (h : dz y k = some r) : ¬ y = 0 ∧ k = some r := by
  unfold dz at h
  by_cases c : y = 0
  · rw [if_pos c] at h; cases h
  · rw [if_neg c] at h; exact ⟨c, h⟩
theorem ac_use {β : Type} {sp dp n : Int32} {n0 n1 : Nat} {k : Option β} {r : β} (h : ac sp dp n n0 n1 k = some r) : ¬ sp < 0 ∧ ¬ dp < 0 ∧ ¬ n < 0 ∧ sp.toNatClampNeg + n.toNatClampNeg ≤ n0 ∧ dp.toNatClampNeg + n.toNatClampNeg ≤ n1 ∧ k = some r := by
  unfold ac at h
  by_cases c : ¬ sp < 0 ∧ ¬ dp < 0 ∧ ¬ n < 0 ∧ sp.toNatClampNeg + n.toNatClampNeg ≤ n0 ∧ dp.toNatClampNeg + n.toNatClampNeg ≤ n1
  · rw [if_pos c] at h; exact ⟨c.1, c.2.1, c.2.2.1, c.2.2.2.1, c.2.2.2.2, h⟩
  · rw [if_neg c] at h; cases h
theorem ob_use {α β : Type} {x : Option α} {f : α → Option β} {t : β} (h : x.bind f = some t) : ∃ r, x = some r ∧ f r = some t := by
  cases x with
  | none => cases h
  | some r => exact ⟨r, rfl, h⟩
theorem if_t {β : Type} {c : Prop} {dc : Decidable c} {a b x : β} (hc : c) (h : (if c then a else b) = x) : a = x := by rw [if_pos hc] at h; exact h
theorem if_f {β : Type} {c : Prop} {dc : Decidable c} {a b x : β} (hc : ¬ c) (h : (if c then a else b) = x) : b = x := by rw [if_neg hc] at h; exact h
theorem sw_hit {x k : Int32} {a o d : Int} {r : List (Int × Int)} (h : x = k) (hk : k.toInt = a) : Op.lookupswitch.offset ((a, o) :: r) d x.toInt = o := by
  rw [Op.lookupswitch.offset_cons, if_pos]
  rw [h, hk]
/-- some cells of a world by others, place for place -/
def va_rep : va_W → List Nat → va_W → va_W
  | w, i :: is, x :: xs => va_rep (w.set i x) is xs
  | w, _, _ => w
theorem va_rep_get : ∀ (is : List Nat) (xs w : va_W) (k : Nat) (q : Nat × va_E), (va_rep w is xs)[k]? = some q → (∃ j : Nat, xs[j]? = some q) ∨ (w[k]? = some q ∧ k ∉ is.take xs.length)
  | [], xs, w, k, q, h => Or.inr ⟨by simpa [va_rep] using h, by simp⟩
  | _ :: _, [], w, k, q, h => Or.inr ⟨by simpa [va_rep] using h, by simp⟩
  | i :: is, x :: xs, w, k, q, h => by
    rcases va_rep_get is xs (w.set i x) k q h with ⟨j, hj⟩ | ⟨h1, h2⟩
    · exact Or.inl ⟨j + 1, by simpa using hj⟩
    · by_cases e : k = i
      · subst e
        rw [List.getElem?_set] at h1
        by_cases hl : k < w.length
        · simp [hl] at h1
          exact Or.inl ⟨0, by simp [h1]⟩
        · simp [hl] at h1
      · rw [List.getElem?_set_ne (Ne.symm e)] at h1
        refine Or.inr ⟨h1, ?_⟩
        simp only [List.length_cons, List.take_succ_cons, List.mem_cons, not_or]
        exact ⟨e, h2⟩
theorem va_D.fst {A : Nat → Prop} {w w' : va_W} (hD : va_D A w) (h : w'.map Prod.fst = w.map Prod.fst) : va_D A w' := by
  have key : ∀ (k : Nat) (q : Nat × va_E), w'[k]? = some q → ∃ q', w[k]? = some q' ∧ q'.1 = q.1 := by
    intro k q hq
    have h1 : (w'.map Prod.fst)[k]? = some q.1 := by rw [List.getElem?_map, hq]; rfl
    rw [h, List.getElem?_map] at h1
    cases hw : w[k]? with
    | none => rw [hw] at h1; cases h1
    | some q' => rw [hw] at h1; exact ⟨q', rfl, Option.some.inj h1⟩
  refine ⟨fun i j p q hi hj e => ?_, fun k q hk => ?_⟩
  · obtain ⟨p', a1, a2⟩ := key i p hi
    obtain ⟨q', b1, b2⟩ := key j q hj
    exact hD.1 i j p' q' a1 b1 (by rw [a2, b2, e])
  · obtain ⟨q', a1, a2⟩ := key k q hk
    have := hD.2 k q' a1
    rw [a2] at this
    exact this
theorem va_rep_P {A : Nat → Prop} {D : va_G} {cl : List vw_C} {w wc w1 : va_W} {H H1 : Heap} (hP : va_P D cl w H) (hD : va_D A w) (isC : List Nat) (hC : isC.map (fun i => w[i]?) = wc.map some) (hlen : w1.length = wc.length)
    (hk : ∀ q : Nat, q < H.size → ¬ va_A wc H.size q → H1[q]? = H[q]?) (hP1 : va_P D cl w1 H1) : va_P D cl (va_rep w isC w1) H1 := by
  intro k q hq
  rcases va_rep_get isC w1 w k q hq with ⟨j, hj⟩ | ⟨h1, h2⟩
  · exact hP1 j q hj
  · have hlt := (hP k q h1).lt
    refine (hP k q h1).kept (hk q.1 hlt ?_)
    rintro (⟨k2, e, h⟩ | h)
    · have h3 : (isC.map (fun i => w[i]?))[k2]? = some (some (q.1, e)) := by rw [hC, List.getElem?_map, h]; rfl
      rw [List.getElem?_map] at h3
      cases hi : isC[k2]? with
      | none => rw [hi] at h3; cases h3
      | some i =>
        rw [hi] at h3
        have h4 : w[i]? = some (q.1, e) := Option.some.inj h3
        have h5 := hD.1 k i q (q.1, e) h1 h4 rfl
        subst h5
        apply h2
        have hl2 : isC.length = wc.length := by have := congrArg List.length hC; simpa using this
        rw [hlen, ← hl2, List.take_length]
        exact List.mem_of_getElem? hi
    · omega
end
section
/-! What holds beside the world: links to private members of nest mates, and the rows of numbers in static fields. -/
def Ev (cI : ClassId) (sd : Nat → Nat) (A : Nat → Prop) (U : State) : Prop :=
  (∀ q ∈ nestF, va_Nw (.fieldLinkNest q.1 q.2.1 q.2.2.1 q.2.2.2.1 q.2.2.2.2.1 q.2.2.2.2.2) U) ∧ (∀ q ∈ nestM, va_Nw (.methodLinkNest q.1 q.2.1 q.2.2.1 q.2.2.2) U) ∧
  ∀ q ∈ statA, va_Z q.1 q.2.1 "[I" (.ref (sd q.2.2.1)) A U U.heap ∧ U.heap[sd q.2.2.1]? = some (vp_cell cI (q.2.2.2.length, .inl (fun j => q.2.2.2.getD j 0))) ∧ ¬ A (sd q.2.2.1)
theorem Ev.go {cI : ClassId} {sd : Nat → Nat} {A A1 : Nat → Prop} {s U : State} (hW : s.WarmedH U.vm) (hq : ∀ a : Nat, a < s.heap.size → ¬ A a → U.heap[a]? = s.heap[a]?) (hA : ∀ q, A1 q → A q) (h : Ev cI sd A s) : Ev cI sd A1 U := by
  refine ⟨fun q hq2 => va_Nw.warmF hW (h.1 q hq2), fun q hq2 => va_Nw.warmM hW (h.2.1 q hq2), fun q hq2 => ?_⟩
  obtain ⟨h1, h2, h3⟩ := h.2.2 q hq2
  refine ⟨((h1.moved hW.alike).kept hq).narrow hA, ?_, fun z => h3 (hA _ z)⟩
  rw [hq _ (Array.getElem?_eq_some_iff.mp h2).1 h3]
  exact h2
theorem Ev.same {cI : ClassId} {sd : Nat → Nat} {A : Nat → Prop} {s U : State} (hv : s.vm = U.vm) (hh : U.heap = s.heap) (h : Ev cI sd A s) : Ev cI sd A U := by
  refine ⟨fun q hq2 => va_Nw.same rfl hv (h.1 q hq2), fun q hq2 => va_Nw.same rfl hv (h.2.1 q hq2), fun q hq2 => ?_⟩
  obtain ⟨h1, h2, h3⟩ := h.2.2 q hq2
  rw [hh]
  exact ⟨h1.moved (by rw [hv]; exact Vm.Alike.refl _), h2, h3⟩
/-- a contract: from the world w0 to the world w1, the answer 'ret', nothing else changed, nothing made -/
def CP (D : va_G) (cI : ClassId) (sd : Nat → Nat) (w0 : va_W) (as : List Value) (sz : Nat) : Array Value → State → Prop := va_Pc as (fun U => U.heap.size = sz ∧ va_P D vwCl w0 U.heap ∧ va_K D vwCl [(cI, .int)] U ∧ va_D (fun _ => True) w0 ∧ Ev cI sd (va_A w0 sz) U)
def CQ (D : va_G) (A : Nat → Prop) (w1 : va_W) (ret : Option Value) : Array Value → State → Outcome → State → Prop := fun _ st oc t => (oc = .returned ret ∧ va_P D vwCl w1 t.heap ∧ va_D A w1) ∧ va_F A st t
def Ctr (l : Launch) (D : va_G) (cI : ClassId) (sd : Nat → Nat) (y : MethodName) (ws : List Cond) (rm : Room) (as : List Value) (w0 w1 : va_W) (ret : Option Value) : Prop := ∀ sz : Nat, Met l y ws rm (CP D cI sd w0 as sz) (CQ D (va_A w0 sz) w1 ret) 0 0 (va_A w0 sz)
theorem CP.blind {D : va_G} {cI : ClassId} {sd : Nat → Nat} {w0 : va_W} {as : List Value} {sz : Nat} : FrameBlind (CP D cI sd w0 as sz) := fun a U g mk q => by
  obtain ⟨q0, q1, qP, qK, qD, qE⟩ := q
  exact ⟨q0, q1, qP, va_K.moved (u := U) (U := U.calling g mk a) (Vm.Alike.refl U.vm) qK, qD, Ev.same (s := U) (U := U.calling g mk a) rfl rfl qE⟩
/-- a contract out of a walk, for methods of the JDK too -/
theorem met_of {l : Launch} {y : MethodName} {ws ws' : List Cond} {rm : Room} {Pc : Array Value → State → Prop} {Qc : Array Value → State → Outcome → State → Prop} {mc ms : Nat} {free : Addr → Prop} {cc : ByteArray} {maxL : Nat} {rt : Option FieldType}
    (hy : plainFor y = true) (hw : ws = Cond.code y cc maxL rt :: ws')
    (body : ∀ p e s m args below meth c s₁, BodyLoose p l y (headSpec ws rm) cc maxL rt e s m args below meth c s₁ → c.maxLocals = maxL → Pc args s →
      W p l e rm s m args below meth c s.heap [] 0 0 (MQ below Qc args s mc ms free) (entryFrame m args maxL)) : Met l y ws rm Pc Qc mc ms free := by
  refine MetFree.of_bodySF (code := cc) (maxLocals := maxL) (ret := rt) hy (fun args s m h hn => ?_) (fun p e s m args below meth c s₁ B hml hP _ => ?_)
  · obtain ⟨meth, c, h1, h2, h3, h4, h5, h6, -, -⟩ := Cond.code_spec hn (atoms_spec (ws := ws) h _ (by rw [hw]; exact List.mem_cons_self))
    exact ⟨meth, c, h1, h2, h3, h4, h5, h6⟩
  · obtain ⟨t, a1, o, b1, b2, b3⟩ := body p e s m args below meth c s₁ B hml hP s₁ (by rw [B.state]; rfl) (Stand.of_body B)
    exact ⟨t, o, a1, b1, b2, ⟨b3.1, b3.2⟩⟩
theorem Ctr.of {l : Launch} {D : va_G} {cI : ClassId} {sd : Nat → Nat} {y : MethodName} {ws ws' : List Cond} {rm : Room} {as : List Value} {w0 w1 : va_W} {ret : Option Value} {cc : ByteArray} {maxL : Nat} {rt : Option FieldType} {own : String}
    (hy : plainFor y = true) (hw : ws = Cond.code y cc maxL rt :: ws') (hcl : y.cls = own) (hsl : (lg_sl as).length ≤ maxL)
    (body : ∀ (p : Program) (e : Env) (s : State) (m : MethodId) (below : List Frame) (meth : Method) (c : Code) (A : Nat → Prop) (ls : Array Slot), p.tables.exec = Jvm.exec → c.code = cc → meth.sig.returnType = rt → c.maxLocals = maxL → s.vm.findClass own = some m.cls → (∀ w ∈ ws, w.before as.toArray s = true) → meth.locks = false → va_K D vwCl [(cI, .int)] s → Ev cI sd A s → (∀ q : Nat, s.heap.size ≤ q → A q) → va_P D vwCl w0 s.heap → va_D A w0 → va_S A s.heap s.heap [] → lv_has ls maxL (lv_args 0 as) →
      W p l e rm s m as.toArray below meth c s.heap [] 0 0 (MQ below (CQ D A w1 ret) as.toArray s 0 0 A) (F0 m 0 ls [])) : Ctr l D cI sd y ws rm as w0 w1 ret := by
  intro sz
  refine met_of (cc := cc) (maxL := maxL) (rt := rt) hy hw ?_
  intro p e s m args below meth c s₁ B hml hv
  obtain ⟨rfl, hsz, hP, hK, hD0, hE⟩ := hv
  subst hsz
  have hts := atoms_spec (ws := ws) B.pre
  have hown : s.vm.findClass y.cls = some m.cls := findClass_of_methodNamed B.named
  rw [lg_entry_eq]
  exact body p e s m below meth c _ _ B.exec B.bytes B.returns hml (hcl ▸ hown) hts B.notSynchronized hK hE (fun q h => Or.inr h) hP hD0.self va_S.rf (lv_entry as hsl)
section RT
variable {p : Program} {l : Launch} {e : Env} {R : Room} {s : State} {m : MethodId} {args : Array Value} {below : List Frame} {meth : Method} {c : Code} {H : Heap} {locs : List Loc} {cc : ByteArray} {D : va_G} {A : Nat → Prop} {w1 : va_W} {ret : Option Value} {pc : Nat} {ls : Array Slot}
theorem rt_v (hx : p.tables.exec = Jvm.exec) (hb : c.code = cc) (hr : meth.sig.returnType = none) (hlk : meth.locks = false) (hP : va_P D vwCl w1 H) (hD : va_D A w1) (hS : va_S A s.heap H locs) (he : ret = none) (hdg : decode cc pc = .ok (.return_, 1)) : W p l e R s m args below meth c H locs 0 0 (MQ below (CQ D A w1 ret) args s 0 0 A) (F0 m pc ls []) := by
  subst he
  exact W.vret hx hb hr (fun t ht hW => ⟨⟨rfl, by rw [ht]; exact hP, hD⟩, hS.F ht⟩) hS.2.2 hdg hlk
theorem rt_i {v : Int32} (hx : p.tables.exec = Jvm.exec) (hb : c.code = cc) (hr : meth.sig.returnType = some .int) (hlk : meth.locks = false) (hP : va_P D vwCl w1 H) (hD : va_D A w1) (hS : va_S A s.heap H locs) (he : ret = some (.int v)) (hdg : decode cc pc = .ok (.ireturn, 1)) : W p l e R s m args below meth c H locs 0 0 (MQ below (CQ D A w1 ret) args s 0 0 A) (F0 m pc ls [.int v]) := by
  subst he
  exact W.iret hx hb hr (fun t ht hW => ⟨⟨rfl, by rw [ht]; exact hP, hD⟩, hS.F ht⟩) hS.2.2 hdg hlk
theorem rt_z {v : Int32} {ty : FieldType} (hx : p.tables.exec = Jvm.exec) (hb : c.code = cc) (hr : meth.sig.returnType = some ty) (hlk : meth.locks = false) (hn : narrow ty (.int v) = .int v) (hP : va_P D vwCl w1 H) (hD : va_D A w1) (hS : va_S A s.heap H locs) (he : ret = some (.int v)) (hdg : decode cc pc = .ok (.ireturn, 1)) : W p l e R s m args below meth c H locs 0 0 (MQ below (CQ D A w1 ret) args s 0 0 A) (F0 m pc ls [.int v]) := by
  subst he
  exact W.zret hx hb hr hn (fun t ht hW => ⟨⟨rfl, by rw [ht]; exact hP, hD⟩, hS.F ht⟩) hS.2.2 hdg hlk
theorem rt_l {v : Int64} (hx : p.tables.exec = Jvm.exec) (hb : c.code = cc) (hr : meth.sig.returnType = some .long) (hlk : meth.locks = false) (hP : va_P D vwCl w1 H) (hD : va_D A w1) (hS : va_S A s.heap H locs) (he : ret = some (.long v)) (hdg : decode cc pc = .ok (.lreturn, 1)) : W p l e R s m args below meth c H locs 0 0 (MQ below (CQ D A w1 ret) args s 0 0 A) (F0 m pc ls [.long v]) := by
  subst he
  exact W.lret hx hb hr (fun t ht hW => ⟨⟨rfl, by rw [ht]; exact hP, hD⟩, hS.F ht⟩) hS.2.2 hdg hlk
end RT
theorem va_subP {D : va_G} {cl : List vw_C} {w wc : va_W} {H : Heap} (hP : va_P D cl w H) (isC : List Nat) (hi : isC.map (fun i => w[i]?) = wc.map some) : va_P D cl wc H := by
  intro k q hk
  have h1 : (isC.map (fun i => w[i]?))[k]? = some (some q) := by rw [hi, List.getElem?_map, hk]; rfl
  rw [List.getElem?_map] at h1
  cases hj : isC[k]? with
  | none => rw [hj] at h1; cases h1
  | some i =>
    rw [hj] at h1
    exact hP i q (Option.some.inj h1)
section CL
variable {p : Program} {l : Launch} {e : Env} {R : Room} {s : State} {m : MethodId} {args : Array Value} {below : List Frame} {meth : Method} {c : Code} {H : Heap} {locs : List Loc} {cells slots : Nat} {Q : State → Prop}
variable {cc : ByteArray} {pc nL : Nat} {ls : Array Slot} {D : va_G} {cI : ClassId} {sd : Nat → Nat} {A : Nat → Prop} {w wc w1 : va_W} {ret : Option Value}
variable {y : MethodName} {bytes : ByteArray} {maxL n index : Nat} {rt : Option FieldType} {ws Ts : List Cond} {rm : Room} {own C host : String} {b : Addr} {As rest st0 : List Value}
/-- behind a call that made nothing: the caller's world with the callee's cells as they are now -/
theorem cl_go (w' : va_W) (st1 : List Value) {a : Array Value} (run : va_Run p l e R s m args below meth c H locs cells slots 0 0 (F0 m pc ls st0) rest (CQ D (va_A wc H.size) w1 ret a) (va_A wc H.size))
    (hA : ∀ q : Nat, s.heap.size ≤ q → A q) (hP : va_P D vwCl w H) (hD : va_D A w) (hS : va_S A s.heap H locs) (isC : List Nat) (hi : isC.map (fun i => w[i]?) = wc.map some) (hw : va_rep w isC w1 = w') (hf1 : w1.length = wc.length) (hf2 : w'.map Prod.fst = w.map Prod.fst) (h1 : ret.toList ++ rest = st1)
    (kk : ∀ (H1 : Heap) (locs1 : List Loc), va_P D vwCl w' H1 → va_D A w' → va_S A s.heap H1 locs1 → W p l e R s m args below meth c H1 locs1 cells slots Q (F0 m (pc + 3) ls st1)) : W p l e R s m args below meth c H locs cells slots Q (F0 m pc ls st0) := by
  have hF := va_free (wc := wc) hD hS hA isC hi
  intro T hT X
  obtain ⟨v, st₀, t, T', L, h0, X', hL, e1, e2, ⟨⟨hv, hP1, hD1⟩, hz, hk⟩, st⟩ := run T hT X
  cases hv
  rw [h0] at hz hk
  rw [h1] at st
  have hk' : ∀ q : Nat, q < H.size → ¬ va_A wc H.size q → T'.heap[q]? = H[q]? := fun q h1 h2 => by rw [e1]; exact hk q h1 h2
  have hP2 : va_P D vwCl w' T'.heap := by
    rw [← hw]
    exact va_rep_P hP hD isC hi hf1 hk' (by rw [e1]; exact hP1)
  obtain ⟨t2, a1, b1⟩ := kk T'.heap (locs ++ L) hP2 (hD.fst hf2)
    ⟨Nat.le_trans hS.1 (by rw [e1]; exact hz), fun q h1 h2 => by rw [hk' q (Nat.lt_of_lt_of_le h1 hS.1) (fun z => h2 (hF q z))]; exact hS.2.1 q h1 h2, fun q hq => by
      rcases List.mem_append.mp hq with h | h
      · exact hS.2.2 q h
      · exact hF _ (hL q h)⟩ T' rfl X'
  exact ⟨t2, st t2 a1, b1⟩
theorem cl_pre (hK : va_K D vwCl [(cI, .int)] s) (hE : Ev cI sd A s) (hA : ∀ q : Nat, s.heap.size ≤ q → A q) (hP : va_P D vwCl w H) (hD : va_D A w) (hS : va_S A s.heap H locs) (isC : List Nat) (hi : isC.map (fun i => w[i]?) = wc.map some) (hnd : va_nd isC = true) (as : List Value) :
    ∀ U : State, U.heap = H → s.WarmedH U.vm → CP D cI sd wc as H.size as.toArray U := by
  have hF := va_free (wc := wc) hD hS hA isC hi
  intro U hU hW
  refine ⟨rfl, by rw [hU], by rw [hU]; exact va_subP hP isC hi, va_K.moved hW.alike hK, (hD.sub isC hnd hi).weaken (fun _ _ _ _ => trivial), Ev.go hW (fun a h1 h2 => by rw [hU]; exact hS.2.1 a h1 h2) hF hE⟩
theorem cl_V (w' : va_W) (st1 : List Value) (F : CallFix p m c cc nL s args Ts own) (hC : Ctr l D cI sd y ws rm (.ref b :: As) wc w1 ret) (cw : CallW R s args own C index y bytes maxL rt ws rm 0 0 n)
    (hK : va_K D vwCl [(cI, .int)] s) (hE : Ev cI sd A s) (hA : ∀ q : Nat, s.heap.size ≤ q → A q) (hP : va_P D vwCl w H) (hD : va_D A w) (hS : va_S A s.heap H locs) (q0 : Nat) {ci N : Nat} {T : u_T} {fs : List Value} (hc : vwCl[ci]? = some (C, T, N)) (he : w[q0]? = some (b, .inr (ci, fs)))
    (isC : List Nat) (hi : isC.map (fun i => w[i]?) = wc.map some) (hnd : va_nd isC = true) (hw : va_rep w isC w1 = w') (hf1 : w1.length = wc.length) (hf2 : w'.map Prod.fst = w.map Prod.fst) (h1 : ret.toList ++ rest = st1)
    (hst : st0 = As.reverse ++ .ref b :: rest) (hn : As.length = n) (hsz : ls.size = nL) (hro : (rest.map fun v => v.category).sum ≤ 8) (hdg : decode cc pc = .ok (.invokevirtual index, 3)) (hf : cells + 0 ≤ R.cells ∧ slots + 0 ≤ R.slots)
    (kk : ∀ (H1 : Heap) (locs1 : List Loc), va_P D vwCl w' H1 → va_D A w' → va_S A s.heap H1 locs1 → W p l e R s m args below meth c H1 locs1 cells slots Q (F0 m (pc + 3) ls st1)) : W p l e R s m args below meth c H locs cells slots Q (F0 m pc ls st0) :=
  cl_go w' st1 (va_runV F (hC H.size) cw ⟨CP.blind, va_recv hK hP hc he, cl_pre hK hE hA hP hD hS isC hi hnd _⟩ rfl hn hsz hst (lv_room hro) hdg hf) hA hP hD hS isC hi hw hf1 hf2 h1 kk
theorem cl_S (w' : va_W) (st1 : List Value) (F : CallFix p m c cc nL s args Ts own) (hC : Ctr l D cI sd y ws rm As wc w1 ret) (cw : CallB R s args own index y bytes maxL rt ws rm 0 0 n ∧ (Cond.static y).before args s = true)
    (hK : va_K D vwCl [(cI, .int)] s) (hE : Ev cI sd A s) (hA : ∀ q : Nat, s.heap.size ≤ q → A q) (hP : va_P D vwCl w H) (hD : va_D A w) (hS : va_S A s.heap H locs)
    (isC : List Nat) (hi : isC.map (fun i => w[i]?) = wc.map some) (hnd : va_nd isC = true) (hw : va_rep w isC w1 = w') (hf1 : w1.length = wc.length) (hf2 : w'.map Prod.fst = w.map Prod.fst) (h1 : ret.toList ++ rest = st1)
    (hst : st0 = As.reverse ++ rest) (hn : As.length = n) (hsz : ls.size = nL) (hro : (rest.map fun v => v.category).sum ≤ 8) (hdg : decode cc pc = .ok (.invokestatic index, 3)) (hf : cells + 0 ≤ R.cells ∧ slots + 0 ≤ R.slots)
    (kk : ∀ (H1 : Heap) (locs1 : List Loc), va_P D vwCl w' H1 → va_D A w' → va_S A s.heap H1 locs1 → W p l e R s m args below meth c H1 locs1 cells slots Q (F0 m (pc + 3) ls st1)) : W p l e R s m args below meth c H locs cells slots Q (F0 m pc ls st0) :=
  cl_go w' st1 (va_runS F (hC H.size) cw ⟨CP.blind, cl_pre hK hE hA hP hD hS isC hi hnd _⟩ rfl hn hsz hst (lv_room hro) hdg hf) hA hP hD hS isC hi hw hf1 hf2 h1 kk
theorem cl_SN (w' : va_W) (st1 : List Value) (F : CallFix p m c cc nL s args Ts own) (hC : Ctr l D cI sd y ws rm As wc w1 ret) (cw : va_CN R s args own index y host bytes maxL rt ws rm 0 0 n ∧ (Cond.static y).before args s = true ∧ True)
    (hK : va_K D vwCl [(cI, .int)] s) (hE : Ev cI sd A s) (hA : ∀ q : Nat, s.heap.size ≤ q → A q) (hP : va_P D vwCl w H) (hD : va_D A w) (hS : va_S A s.heap H locs)
    (isC : List Nat) (hi : isC.map (fun i => w[i]?) = wc.map some) (hnd : va_nd isC = true) (hw : va_rep w isC w1 = w') (hf1 : w1.length = wc.length) (hf2 : w'.map Prod.fst = w.map Prod.fst) (h1 : ret.toList ++ rest = st1)
    (hst : st0 = As.reverse ++ rest) (hn : As.length = n) (hsz : ls.size = nL) (hro : (rest.map fun v => v.category).sum ≤ 8) (hdg : decode cc pc = .ok (.invokestatic index, 3)) (hf : cells + 0 ≤ R.cells ∧ slots + 0 ≤ R.slots)
    (kk : ∀ (H1 : Heap) (locs1 : List Loc), va_P D vwCl w' H1 → va_D A w' → va_S A s.heap H1 locs1 → W p l e R s m args below meth c H1 locs1 cells slots Q (F0 m (pc + 3) ls st1)) : W p l e R s m args below meth c H locs cells slots Q (F0 m pc ls st0) :=
  cl_go w' st1 (va_runSN F (hC H.size) cw ⟨CP.blind, cl_pre hK hE hA hP hD hS isC hi hnd _⟩ rfl hn hsz hst (lv_room hro) hdg hf) hA hP hD hS isC hi hw hf1 hf2 h1 kk
end CL
/-! A constructor: it makes k cells; their addresses come with the world behind it. -/
def CQN (D : va_G) (A : Nat → Prop) (k : Nat) (w1 : List Nat → va_W) : Array Value → State → Outcome → State → Prop := fun _ st oc t => (oc = .returned none ∧ ∃ qs : List Nat, qs.length = k ∧ va_P D vwCl (w1 qs) t.heap ∧ va_D A (w1 qs)) ∧ va_F A st t
def CtrN (l : Launch) (D : va_G) (cI : ClassId) (sd : Nat → Nat) (y : MethodName) (ws : List Cond) (rm : Room) (as : List Value) (w0 : va_W) (k : Nat) (w1 : List Nat → va_W) (mc ms : Nat) : Prop := ∀ sz : Nat, Met l y ws rm (CP D cI sd w0 as sz) (CQN D (va_A w0 sz) k w1) mc ms (va_A w0 sz)
theorem CtrN.of {l : Launch} {D : va_G} {cI : ClassId} {sd : Nat → Nat} {y : MethodName} {ws ws' : List Cond} {rm : Room} {as : List Value} {w0 : va_W} {k : Nat} {w1 : List Nat → va_W} {mc ms : Nat} {cc : ByteArray} {maxL : Nat} {rt : Option FieldType} {own : String}
    (hy : plainFor y = true) (hw : ws = Cond.code y cc maxL rt :: ws') (hcl : y.cls = own) (hsl : (lg_sl as).length ≤ maxL)
    (body : ∀ (p : Program) (e : Env) (s : State) (m : MethodId) (below : List Frame) (meth : Method) (c : Code) (A : Nat → Prop) (ls : Array Slot), p.tables.exec = Jvm.exec → c.code = cc → meth.sig.returnType = rt → c.maxLocals = maxL → s.vm.findClass own = some m.cls → (∀ w ∈ ws, w.before as.toArray s = true) → meth.locks = false → va_K D vwCl [(cI, .int)] s → Ev cI sd A s → (∀ q : Nat, s.heap.size ≤ q → A q) → va_P D vwCl w0 s.heap → va_D A w0 → va_S A s.heap s.heap [] → lv_has ls maxL (lv_args 0 as) → meth.name = y.name →
      W p l e rm s m as.toArray below meth c s.heap [] 0 0 (MQ below (CQN D A k w1) as.toArray s mc ms A) (F0 m 0 ls [])) : CtrN l D cI sd y ws rm as w0 k w1 mc ms := by
  intro sz
  refine met_of (cc := cc) (maxL := maxL) (rt := rt) hy hw ?_
  intro p e s m args below meth c s₁ B hml hv
  obtain ⟨rfl, hsz, hP, hK, hD0, hE⟩ := hv
  subst hsz
  have hts := atoms_spec (ws := ws) B.pre
  have hown : s.vm.findClass y.cls = some m.cls := findClass_of_methodNamed B.named
  rw [lg_entry_eq]
  exact body p e s m below meth c _ _ B.exec B.bytes B.returns hml (hcl ▸ hown) hts B.notSynchronized hK hE (fun q h => Or.inr h) hP hD0.self va_S.rf (lv_entry as hsl) (name_of_methodNamed B.named B.method).1
section CN
variable {p : Program} {l : Launch} {e : Env} {R : Room} {s : State} {m : MethodId} {args : Array Value} {below : List Frame} {meth : Method} {c : Code} {H : Heap} {locs : List Loc} {cells slots : Nat} {Q : State → Prop}
variable {cc : ByteArray} {pc nL : Nat} {ls : Array Slot} {D : va_G} {cI : ClassId} {sd : Nat → Nat} {A : Nat → Prop} {w wc : va_W}
variable {y : MethodName} {bytes : ByteArray} {maxL n index k mc ms : Nat} {ws Ts : List Cond} {rm : Room} {own : String} {b : Addr} {As rest st0 : List Value} {w1 : List Nat → va_W}
theorem cl_N (wr : va_W) (F : CallFix p m c cc nL s args Ts own) (hC : CtrN l D cI sd y ws rm (.ref b :: As) wc k w1 mc ms) (cw : CallB R s args own index y bytes maxL none ws rm mc ms n ∧ y.name = "<init>" ∧ (Cond.instanceMethod y).before args s = true)
    (hK : va_K D vwCl [(cI, .int)] s) (hE : Ev cI sd A s) (hA : ∀ q : Nat, s.heap.size ≤ q → A q) (hP : va_P D vwCl w H) (hD : va_D A w) (hS : va_S A s.heap H locs)
    (isC isR : List Nat) (hi : isC.map (fun i => w[i]?) = wc.map some) (hnd : va_nd isC = true) (hR : isR.map (fun i => w[i]?) = wr.map some) (hnR : va_nd isR = true) (hdis : ∀ i ∈ isR, i ∉ isC)
    (hst : st0 = As.reverse ++ .ref b :: rest) (hn : As.length = n) (hsz : ls.size = nL) (hro : (rest.map fun v => v.category).sum ≤ 8) (hdg : decode cc pc = .ok (.invokespecial index, 3)) (hf : cells + mc ≤ R.cells ∧ slots + ms ≤ R.slots)
    (kk : ∀ (qs : List Nat) (H1 : Heap) (locs1 : List Loc), qs.length = k → va_P D vwCl (wr ++ w1 qs) H1 → va_D A (wr ++ w1 qs) → va_S A s.heap H1 locs1 → W p l e R s m args below meth c H1 locs1 (cells + mc) (slots + ms) Q (F0 m (pc + 3) ls rest)) : W p l e R s m args below meth c H locs cells slots Q (F0 m pc ls st0) := by
  have run : va_Run p l e R s m args below meth c H locs cells slots mc ms (F0 m pc ls st0) rest (CQN D (va_A wc H.size) k w1 (Value.ref b :: As).toArray) (va_A wc H.size) := va_runI F (hC H.size) cw ⟨CP.blind, cl_pre hK hE hA hP hD hS isC hi hnd _⟩ rfl hn hsz hst (lv_room hro) hdg hf
  have hF := va_free (wc := wc) hD hS hA isC hi
  intro T hT X
  obtain ⟨v, st₀, t, T', L, h0, X', hL, e1, e2, ⟨⟨hv, qs, hq, hP1, hD1⟩, hz, hk⟩, st⟩ := run T hT X
  cases hv
  rw [h0] at hz hk
  have hk' : ∀ q : Nat, q < H.size → ¬ va_A wc H.size q → T'.heap[q]? = H[q]? := fun q h1 h2 => by rw [e1]; exact hk q h1 h2
  obtain ⟨hP2, hD2⟩ := va_join hP hD isC isR hi hR hnR hdis hk' hF (by rw [e1]; exact hP1) hD1
  obtain ⟨t2, a1, b1⟩ := kk qs T'.heap (locs ++ L) hq hP2 hD2
    ⟨Nat.le_trans hS.1 (by rw [e1]; exact hz), fun q h1 h2 => by rw [hk' q (Nat.lt_of_lt_of_le h1 hS.1) (fun z => h2 (hF q z))]; exact hS.2.1 q h1 h2, fun q hq => by
      rcases List.mem_append.mp hq with h | h
      · exact hS.2.2 q h
      · exact hF _ (hL q h)⟩ T' rfl X'
  exact ⟨t2, st t2 a1, b1⟩
/-- a new array of numbers, its class the one that is known -/
theorem cl_newi (hx : p.tables.exec = Jvm.exec) (hb : c.code = cc) (harr : (Cond.arrayClass .int).before args s = true) (hK : va_K D vwCl [(cI, .int)] s) (hP : va_P D vwCl w H) (hD : va_D A w) (hS : va_S A s.heap H locs) (hA : ∀ q : Nat, s.heap.size ≤ q → A q)
    {nn : Int32} (N' : Nat) (hn : ¬ nn < 0) (hN : nn.toNatClampNeg = N') (hby : N' * 4 ≤ 536870912) (hc : cells + 1 ≤ R.cells) (hs : slots + N' ≤ R.slots) (hdg : decode cc pc = .ok (.newarray .int, 2))
    (kk : ∀ (q : Nat) (H1 : Heap), va_P D vwCl (w ++ [(q, .inl (cI, N', .inl (fun _ => 0)))]) H1 → va_D A (w ++ [(q, .inl (cI, N', .inl (fun _ => 0)))]) → va_S A s.heap H1 locs → W p l e R s m args below meth c H1 locs (cells + 1) (slots + N') Q (F0 m (pc + 2) ls (.ref q :: rest))) : W p l e R s m args below meth c H locs cells slots Q (F0 m pc ls (.int nn :: rest)) := by
  refine va_newa (atype := .int) (ty := .int) (a0 := (N', .inl (fun _ => 0))) hx hb harr rfl hK hP hD hS hA (fun cA => rfl) hn hN (by rw [show componentBytes .int = 4 from rfl]; exact hby) hc hs hdg (fun q cA H1 hK1 hP1 hD1 hS1 => ?_)
  have e1 : s.vm.findClass ("[" ++ FieldType.int.toString) = some cI := (hK.2 0 _ rfl).2
  have e2 : s.vm.findClass ("[" ++ FieldType.int.toString) = some cA := (hK1.2 1 _ rfl).2
  have e3 : cA = cI := Option.some.inj (e2.symm.trans e1)
  subst e3
  exact kk q H1 hP1 hD1 hS1
end CN
end
section
theorem nfE0 {cI : ClassId} {sd : Nat → Nat} {A : Nat → Prop} {s : State} {args : Array Value} (h : Ev cI sd A s) : (Cond.fieldLinkNest "ControlText" 62 "ControlText$Bytes" "size" "I" "ControlText").before args s = true := va_Nw.use rfl (h.1 _ nf0)
theorem nfE1 {cI : ClassId} {sd : Nat → Nat} {A : Nat → Prop} {s : State} {args : Array Value} (h : Ev cI sd A s) : (Cond.fieldLinkNest "ControlText$Tokens" 89 "ControlText$Bytes" "size" "I" "ControlText").before args s = true := va_Nw.use rfl (h.1 _ nf1)
theorem nfE2 {cI : ClassId} {sd : Nat → Nat} {A : Nat → Prop} {s : State} {args : Array Value} (h : Ev cI sd A s) : (Cond.fieldLinkNest "ControlText$Writer" 141 "ControlText$Bytes" "size" "I" "ControlText").before args s = true := va_Nw.use rfl (h.1 _ nf2)
theorem nfE3 {cI : ClassId} {sd : Nat → Nat} {A : Nat → Prop} {s : State} {args : Array Value} (h : Ev cI sd A s) : (Cond.fieldLinkNest "ControlText" 99 "ControlText$Names" "size" "I" "ControlText").before args s = true := va_Nw.use rfl (h.1 _ nf3)
theorem nfE4 {cI : ClassId} {sd : Nat → Nat} {A : Nat → Prop} {s : State} {args : Array Value} (h : Ev cI sd A s) : (Cond.fieldLinkNest "ControlText$Parser" 100 "ControlText$Tokens" "kinds" "[I" "ControlText").before args s = true := va_Nw.use rfl (h.1 _ nf4)
theorem nfE5 {cI : ClassId} {sd : Nat → Nat} {A : Nat → Prop} {s : State} {args : Array Value} (h : Ev cI sd A s) : (Cond.fieldLinkNest "ControlText$Parser" 104 "ControlText$Tokens" "places" "[I" "ControlText").before args s = true := va_Nw.use rfl (h.1 _ nf5)
theorem nfE6 {cI : ClassId} {sd : Nat → Nat} {A : Nat → Prop} {s : State} {args : Array Value} (h : Ev cI sd A s) : (Cond.fieldLinkNest "ControlText$Parser" 107 "ControlText$Tokens" "values" "[I" "ControlText").before args s = true := va_Nw.use rfl (h.1 _ nf6)
theorem nfE7 {cI : ClassId} {sd : Nat → Nat} {A : Nat → Prop} {s : State} {args : Array Value} (h : Ev cI sd A s) : (Cond.fieldLinkNest "ControlText$Parser" 97 "ControlText$Tokens" "size" "I" "ControlText").before args s = true := va_Nw.use rfl (h.1 _ nf7)
theorem nfE8 {cI : ClassId} {sd : Nat → Nat} {A : Nat → Prop} {s : State} {args : Array Value} (h : Ev cI sd A s) : (Cond.fieldLinkNest "ControlText$Writer" 29 "ControlText$Tree" "size" "I" "ControlText").before args s = true := va_Nw.use rfl (h.1 _ nf8)
theorem nfE9 {cI : ClassId} {sd : Nat → Nat} {A : Nat → Prop} {s : State} {args : Array Value} (h : Ev cI sd A s) : (Cond.fieldLinkNest "ControlText" 98 "ControlText$Tree" "size" "I" "ControlText").before args s = true := va_Nw.use rfl (h.1 _ nf9)
theorem nfE10 {cI : ClassId} {sd : Nat → Nat} {A : Nat → Prop} {s : State} {args : Array Value} (h : Ev cI sd A s) : (Cond.fieldLinkNest "ControlText$Parser" 165 "ControlText$Tree" "size" "I" "ControlText").before args s = true := va_Nw.use rfl (h.1 _ nf10)
theorem nfE11 {cI : ClassId} {sd : Nat → Nat} {A : Nat → Prop} {s : State} {args : Array Value} (h : Ev cI sd A s) : (Cond.fieldLinkNest "ControlText" 85 "ControlText$Parser" "fault" "I" "ControlText").before args s = true := va_Nw.use rfl (h.1 _ nf11)
theorem nfE12 {cI : ClassId} {sd : Nat → Nat} {A : Nat → Prop} {s : State} {args : Array Value} (h : Ev cI sd A s) : (Cond.fieldLinkNest "ControlText" 95 "ControlText$Parser" "faultPlace" "I" "ControlText").before args s = true := va_Nw.use rfl (h.1 _ nf12)
theorem nmE0 {cI : ClassId} {sd : Nat → Nat} {A : Nat → Prop} {s : State} (h : Ev cI sd A s) : va_Nw (.methodLinkNest "ControlText$Names" 66 yX6_great "ControlText") s := h.2.1 _ nm0_in
theorem nmE1 {cI : ClassId} {sd : Nat → Nat} {A : Nat → Prop} {s : State} (h : Ev cI sd A s) : va_Nw (.methodLinkNest "ControlText" 39 yX3_init "ControlText") s := h.2.1 _ nm1_in
theorem nmE2 {cI : ClassId} {sd : Nat → Nat} {A : Nat → Prop} {s : State} (h : Ev cI sd A s) : va_Nw (.methodLinkNest "ControlText$Tokens" 61 yX6_great "ControlText") s := h.2.1 _ nm2_in
theorem nmE3 {cI : ClassId} {sd : Nat → Nat} {A : Nat → Prop} {s : State} (h : Ev cI sd A s) : va_Nw (.methodLinkNest "ControlText$Tokens" 67 yX6_isDigit "ControlText") s := h.2.1 _ nm3_in
theorem nmE4 {cI : ClassId} {sd : Nat → Nat} {A : Nat → Prop} {s : State} (h : Ev cI sd A s) : va_Nw (.methodLinkNest "ControlText$Tokens" 74 yX6_isNameByte "ControlText") s := h.2.1 _ nm4_in
theorem nmE5 {cI : ClassId} {sd : Nat → Nat} {A : Nat → Prop} {s : State} (h : Ev cI sd A s) : va_Nw (.methodLinkNest "ControlText$Writer" 145 yX6_isNameByte "ControlText") s := h.2.1 _ nm5_in
abbrev S_Bytes : Type := Int32 × (Nat → Int32)
abbrev S_Names : Type := Int32 × Int32 × (Nat → Int32) × (Nat → Int32) × (Nat → Int32) × (Nat → Int32)
abbrev S_Tokens : Type := Int32 × Int32 × (Nat → Int32) × (Nat → Int32) × (Nat → Int32)
abbrev S_Tree : Type := Int32 × (Nat → Int32) × (Nat → Int32) × (Nat → Int32) × (Nat → Int32) × (Nat → Int32) × (Nat → Int32) × (Nat → Int32)
abbrev S_Parser : Type := Int32 × Int32 × Int32 × Int32 × Int32 × Int32 × Int32 × Int32 × Int32 × Int32
abbrev wB (cI : ClassId) (h a n : Nat) (x : S_Bytes) : va_W := [(h, .inr (0, [.ref a, .int x.1])), (a, .inl (cI, n, .inl x.2))]
abbrev wN (cI : ClassId) (ad : Nat → Nat) (x : S_Names) : va_W := [(ad 5, .inr (1, [.ref (ad 6), .ref (ad 7), .ref (ad 8), .ref (ad 9), .int x.1, .int x.2.1])), ((ad 6), .inl (cI, 8704, .inl x.2.2.1)), ((ad 7), .inl (cI, 4138, .inl x.2.2.2.1)), ((ad 8), .inl (cI, 4137, .inl x.2.2.2.2.1)), ((ad 9), .inl (cI, 8192, .inl x.2.2.2.2.2))]
abbrev wK (cI : ClassId) (ad : Nat → Nat) (x : S_Tokens) : va_W := [(ad 10, .inr (2, [.ref (ad 1), .ref (ad 5), .ref (ad 11), .ref (ad 12), .ref (ad 13), .int x.1, .int x.2.1])), ((ad 11), .inl (cI, 8193, .inl x.2.2.1)), ((ad 12), .inl (cI, 8193, .inl x.2.2.2.1)), ((ad 13), .inl (cI, 8193, .inl x.2.2.2.2))]
abbrev wT (cI : ClassId) (ad : Nat → Nat) (x : S_Tree) : va_W := [(ad 14, .inr (3, [.ref (ad 15), .ref (ad 16), .ref (ad 17), .ref (ad 18), .ref (ad 19), .ref (ad 20), .ref (ad 21), .int x.1])), ((ad 15), .inl (cI, 16384, .inl x.2.1)), ((ad 16), .inl (cI, 16384, .inl x.2.2.1)), ((ad 17), .inl (cI, 16384, .inl x.2.2.2.1)), ((ad 18), .inl (cI, 16384, .inl x.2.2.2.2.1)), ((ad 19), .inl (cI, 16384, .inl x.2.2.2.2.2.1)), ((ad 20), .inl (cI, 16384, .inl x.2.2.2.2.2.2.1)), ((ad 21), .inl (cI, 16384, .inl x.2.2.2.2.2.2.2))]
abbrev wP (cI : ClassId) (ad : Nat → Nat) (x : S_Parser) : va_W := [(ad 22, .inr (4, [.ref (ad 10), .ref (ad 14), .int x.1, .int x.2.1, .int x.2.2.1, .int x.2.2.2.1, .int x.2.2.2.2.1, .int x.2.2.2.2.2.1, .int x.2.2.2.2.2.2.1, .int x.2.2.2.2.2.2.2.1, .int x.2.2.2.2.2.2.2.2.1, .int x.2.2.2.2.2.2.2.2.2]))]
abbrev wW (ad : Nat → Nat) : va_W := [(ad 23, .inr (5, [.ref (ad 14), .ref (ad 5), .ref (ad 3)]))]
abbrev wC (ad : Nat → Nat) : va_W := [(ad 0, .inr (6, [.ref (ad 1), .ref (ad 3), .ref (ad 5), .ref (ad 10), .ref (ad 14), .ref (ad 22), .ref (ad 23)]))]
end
section
theorem dX10_min_0 : decode cX10_min 0 = .ok (.lload_n 0, 1) := by decide +kernel
theorem dX10_min_1 : decode cX10_min 1 = .ok (.lload_n 2, 1) := by decide +kernel
theorem dX10_min_2 : decode cX10_min 2 = .ok (.lcmp, 1) := by decide +kernel
theorem dX10_min_3 : decode cX10_min 3 = .ok (.ifCond .gt 7, 3) := by decide +kernel
theorem dX10_min_6 : decode cX10_min 6 = .ok (.lload_n 0, 1) := by decide +kernel
theorem dX10_min_7 : decode cX10_min 7 = .ok (.goto 4, 3) := by decide +kernel
theorem dX10_min_10 : decode cX10_min 10 = .ok (.lload_n 2, 1) := by decide +kernel
theorem dX10_min_11 : decode cX10_min 11 = .ok (.lreturn, 1) := by decide +kernel

theorem dX10_max_0 : decode cX10_max 0 = .ok (.iload_n 0, 1) := by decide +kernel
theorem dX10_max_1 : decode cX10_max 1 = .ok (.iload_n 1, 1) := by decide +kernel
theorem dX10_max_2 : decode cX10_max 2 = .ok (.if_icmp .lt 7, 3) := by decide +kernel
theorem dX10_max_5 : decode cX10_max 5 = .ok (.iload_n 0, 1) := by decide +kernel
theorem dX10_max_6 : decode cX10_max 6 = .ok (.goto 4, 3) := by decide +kernel
theorem dX10_max_9 : decode cX10_max 9 = .ok (.iload_n 1, 1) := by decide +kernel
theorem dX10_max_10 : decode cX10_max 10 = .ok (.ireturn, 1) := by decide +kernel

theorem dX10_abs_0 : decode cX10_abs 0 = .ok (.iload_n 0, 1) := by decide +kernel
theorem dX10_abs_1 : decode cX10_abs 1 = .ok (.ifCond .ge 8, 3) := by decide +kernel
theorem dX10_abs_4 : decode cX10_abs 4 = .ok (.iload_n 0, 1) := by decide +kernel
theorem dX10_abs_5 : decode cX10_abs 5 = .ok (.ineg, 1) := by decide +kernel
theorem dX10_abs_6 : decode cX10_abs 6 = .ok (.goto 4, 3) := by decide +kernel
theorem dX10_abs_9 : decode cX10_abs 9 = .ok (.iload_n 0, 1) := by decide +kernel
theorem dX10_abs_10 : decode cX10_abs 10 = .ok (.ireturn, 1) := by decide +kernel
end
section
def f_Math_min (a1 : Int64) (a2 : Int64) : Option (Int64) :=
  if 0 < (lg_cmp a1 a2) then
    some a2
  else
    some a1

def f_Math_max (a1 : Int32) (a2 : Int32) : Option (Int32) :=
  if a1 < a2 then
    some a2
  else
    some a1

def f_Math_abs (a1 : Int32) : Option (Int32) :=
  if 0 ≤ a1 then
    some a1
  else
    some (-a1)
end
section
set_option maxHeartbeats 4000000 in
set_option maxRecDepth 100000 in
theorem c_Math_min (l : Launch) (D : va_G) (cI : ClassId) (sd : Nat → Nat) (ad : Nat → Nat) (a1 : Int64) (a2 : Int64) (res : Int64) (hM : f_Math_min a1 a2 = some res) : Ctr l D cI sd yX10_min (wsM yX10_min cX10_min 4 (Option.some Jvm.ClassFile.FieldType.long)) { frames := 0, cells := 0, slots := 0, locals := 0 } [.long a1, .long a2] (([] : va_W)) (([] : va_W)) (some (.long res)) := by
  refine Ctr.of (cc := cX10_min) (maxL := 4) (own := RX10) (by decide +kernel) rfl rfl (Nat.le_of_ble_eq_true rfl) ?_
  intro p e s m below meth c A ls hx hb hr hml hown hts hlk hK hE hA hP hD hS hl
  have hl : lv_has ls 4 [(0, .long a1), (2, .long a2)] := hl
  unfold f_Math_min at hM
  refine lv_lload_n hx hb dX10_min_0 rfl (lv_at hl 0 rfl) ?_
  refine lv_lload_n hx hb dX10_min_1 rfl (lv_at hl 1 rfl) ?_
  refine W.lcmp hx hb dX10_min_2 ?_
  refine lv_if_gt (tgt := 10) hx hb dX10_min_3 (by decide) (fun c1 => ?_) (fun c1 => ?_)
  · replace hM := if_t c1 hM
    refine lv_lload_n hx hb dX10_min_10 rfl (lv_at hl 1 rfl) ?_
    cases hM
    exact rt_l hx hb hr hlk hP hD hS rfl dX10_min_11
  · replace hM := if_f c1 hM
    refine lv_lload_n hx hb dX10_min_6 rfl (lv_at hl 0 rfl) ?_
    refine lv_goto (tgt := 11) hx hb dX10_min_7 (by decide) ?_
    cases hM
    exact rt_l hx hb hr hlk hP hD hS rfl dX10_min_11

set_option maxHeartbeats 4000000 in
set_option maxRecDepth 100000 in
theorem c_Math_max (l : Launch) (D : va_G) (cI : ClassId) (sd : Nat → Nat) (ad : Nat → Nat) (a1 : Int32) (a2 : Int32) (res : Int32) (hM : f_Math_max a1 a2 = some res) : Ctr l D cI sd yX10_max (wsM yX10_max cX10_max 2 (Option.some Jvm.ClassFile.FieldType.int)) { frames := 0, cells := 0, slots := 0, locals := 0 } [.int a1, .int a2] (([] : va_W)) (([] : va_W)) (some (.int res)) := by
  refine Ctr.of (cc := cX10_max) (maxL := 2) (own := RX10) (by decide +kernel) rfl rfl (Nat.le_of_ble_eq_true rfl) ?_
  intro p e s m below meth c A ls hx hb hr hml hown hts hlk hK hE hA hP hD hS hl
  have hl : lv_has ls 2 [(0, .int a1), (1, .int a2)] := hl
  unfold f_Math_max at hM
  refine lv_iload_n hx hb dX10_max_0 rfl (lv_at hl 0 rfl) ?_
  refine lv_iload_n hx hb dX10_max_1 rfl (lv_at hl 1 rfl) ?_
  refine lv_icmp_lt (tgt := 9) hx hb dX10_max_2 (by decide) (fun c1 => ?_) (fun c1 => ?_)
  · replace hM := if_t c1 hM
    refine lv_iload_n hx hb dX10_max_9 rfl (lv_at hl 1 rfl) ?_
    cases hM
    exact rt_i hx hb hr hlk hP hD hS rfl dX10_max_10
  · replace hM := if_f c1 hM
    refine lv_iload_n hx hb dX10_max_5 rfl (lv_at hl 0 rfl) ?_
    refine lv_goto (tgt := 10) hx hb dX10_max_6 (by decide) ?_
    cases hM
    exact rt_i hx hb hr hlk hP hD hS rfl dX10_max_10

set_option maxHeartbeats 4000000 in
set_option maxRecDepth 100000 in
theorem c_Math_abs (l : Launch) (D : va_G) (cI : ClassId) (sd : Nat → Nat) (ad : Nat → Nat) (a1 : Int32) (res : Int32) (hM : f_Math_abs a1 = some res) : Ctr l D cI sd yX10_abs (wsM yX10_abs cX10_abs 1 (Option.some Jvm.ClassFile.FieldType.int)) { frames := 0, cells := 0, slots := 0, locals := 0 } [.int a1] (([] : va_W)) (([] : va_W)) (some (.int res)) := by
  refine Ctr.of (cc := cX10_abs) (maxL := 1) (own := RX10) (by decide +kernel) rfl rfl (Nat.le_of_ble_eq_true rfl) ?_
  intro p e s m below meth c A ls hx hb hr hml hown hts hlk hK hE hA hP hD hS hl
  have hl : lv_has ls 1 [(0, .int a1)] := hl
  unfold f_Math_abs at hM
  refine lv_iload_n hx hb dX10_abs_0 rfl (lv_at hl 0 rfl) ?_
  refine lv_if_ge (tgt := 9) hx hb dX10_abs_1 (by decide) (fun c1 => ?_) (fun c1 => ?_)
  · replace hM := if_t c1 hM
    refine lv_iload_n hx hb dX10_abs_9 rfl (lv_at hl 0 rfl) ?_
    cases hM
    exact rt_i hx hb hr hlk hP hD hS rfl dX10_abs_10
  · replace hM := if_f c1 hM
    refine lv_iload_n hx hb dX10_abs_4 rfl (lv_at hl 0 rfl) ?_
    refine lv_ineg hx hb dX10_abs_5 ?_
    refine lv_goto (tgt := 10) hx hb dX10_abs_6 (by decide) ?_
    cases hM
    exact rt_i hx hb hr hlk hP hD hS rfl dX10_abs_10
end
section
theorem dX6_great_0 : decode cX6_great 0 = .ok (.iload_n 0, 1) := by decide +kernel
theorem dX6_great_1 : decode cX6_great 1 = .ok (.bipush 97, 2) := by decide +kernel
theorem dX6_great_3 : decode cX6_great 3 = .ok (.if_icmp .lt 19, 3) := by decide +kernel
theorem dX6_great_6 : decode cX6_great 6 = .ok (.iload_n 0, 1) := by decide +kernel
theorem dX6_great_7 : decode cX6_great 7 = .ok (.bipush 122, 2) := by decide +kernel
theorem dX6_great_9 : decode cX6_great 9 = .ok (.if_icmp .gt 13, 3) := by decide +kernel
theorem dX6_great_12 : decode cX6_great 12 = .ok (.iload_n 0, 1) := by decide +kernel
theorem dX6_great_13 : decode cX6_great 13 = .ok (.bipush 97, 2) := by decide +kernel
theorem dX6_great_15 : decode cX6_great 15 = .ok (.isub, 1) := by decide +kernel
theorem dX6_great_16 : decode cX6_great 16 = .ok (.bipush 65, 2) := by decide +kernel
theorem dX6_great_18 : decode cX6_great 18 = .ok (.iadd, 1) := by decide +kernel
theorem dX6_great_19 : decode cX6_great 19 = .ok (.goto 4, 3) := by decide +kernel
theorem dX6_great_22 : decode cX6_great 22 = .ok (.iload_n 0, 1) := by decide +kernel
theorem dX6_great_23 : decode cX6_great 23 = .ok (.ireturn, 1) := by decide +kernel

theorem dX6_isDigit_0 : decode cX6_isDigit 0 = .ok (.iload_n 0, 1) := by decide +kernel
theorem dX6_isDigit_1 : decode cX6_isDigit 1 = .ok (.bipush 48, 2) := by decide +kernel
theorem dX6_isDigit_3 : decode cX6_isDigit 3 = .ok (.if_icmp .lt 13, 3) := by decide +kernel
theorem dX6_isDigit_6 : decode cX6_isDigit 6 = .ok (.iload_n 0, 1) := by decide +kernel
theorem dX6_isDigit_7 : decode cX6_isDigit 7 = .ok (.bipush 57, 2) := by decide +kernel
theorem dX6_isDigit_9 : decode cX6_isDigit 9 = .ok (.if_icmp .gt 7, 3) := by decide +kernel
theorem dX6_isDigit_12 : decode cX6_isDigit 12 = .ok (.iconst 1, 1) := by decide +kernel
theorem dX6_isDigit_13 : decode cX6_isDigit 13 = .ok (.goto 4, 3) := by decide +kernel
theorem dX6_isDigit_16 : decode cX6_isDigit 16 = .ok (.iconst 0, 1) := by decide +kernel
theorem dX6_isDigit_17 : decode cX6_isDigit 17 = .ok (.ireturn, 1) := by decide +kernel

theorem dX6_isNameByte_0 : decode cX6_isNameByte 0 = .ok (.iload_n 0, 1) := by decide +kernel
theorem dX6_isNameByte_1 : decode cX6_isNameByte 1 = .ok (.bipush 65, 2) := by decide +kernel
theorem dX6_isNameByte_3 : decode cX6_isNameByte 3 = .ok (.if_icmp .lt 9, 3) := by decide +kernel
theorem dX6_isNameByte_6 : decode cX6_isNameByte 6 = .ok (.iload_n 0, 1) := by decide +kernel
theorem dX6_isNameByte_7 : decode cX6_isNameByte 7 = .ok (.bipush 90, 2) := by decide +kernel
theorem dX6_isNameByte_9 : decode cX6_isNameByte 9 = .ok (.if_icmp .le 33, 3) := by decide +kernel
theorem dX6_isNameByte_12 : decode cX6_isNameByte 12 = .ok (.iload_n 0, 1) := by decide +kernel
theorem dX6_isNameByte_13 : decode cX6_isNameByte 13 = .ok (.bipush 97, 2) := by decide +kernel
theorem dX6_isNameByte_15 : decode cX6_isNameByte 15 = .ok (.if_icmp .lt 9, 3) := by decide +kernel
theorem dX6_isNameByte_18 : decode cX6_isNameByte 18 = .ok (.iload_n 0, 1) := by decide +kernel
theorem dX6_isNameByte_19 : decode cX6_isNameByte 19 = .ok (.bipush 122, 2) := by decide +kernel
theorem dX6_isNameByte_21 : decode cX6_isNameByte 21 = .ok (.if_icmp .le 21, 3) := by decide +kernel
theorem dX6_isNameByte_24 : decode cX6_isNameByte 24 = .ok (.iload_n 0, 1) := by decide +kernel
theorem dX6_isNameByte_25 : decode cX6_isNameByte 25 = .ok (.bipush 48, 2) := by decide +kernel
theorem dX6_isNameByte_27 : decode cX6_isNameByte 27 = .ok (.if_icmp .lt 9, 3) := by decide +kernel
theorem dX6_isNameByte_30 : decode cX6_isNameByte 30 = .ok (.iload_n 0, 1) := by decide +kernel
theorem dX6_isNameByte_31 : decode cX6_isNameByte 31 = .ok (.bipush 57, 2) := by decide +kernel
theorem dX6_isNameByte_33 : decode cX6_isNameByte 33 = .ok (.if_icmp .le 9, 3) := by decide +kernel
theorem dX6_isNameByte_36 : decode cX6_isNameByte 36 = .ok (.iload_n 0, 1) := by decide +kernel
theorem dX6_isNameByte_37 : decode cX6_isNameByte 37 = .ok (.bipush 95, 2) := by decide +kernel
theorem dX6_isNameByte_39 : decode cX6_isNameByte 39 = .ok (.if_icmp .ne 7, 3) := by decide +kernel
theorem dX6_isNameByte_42 : decode cX6_isNameByte 42 = .ok (.iconst 1, 1) := by decide +kernel
theorem dX6_isNameByte_43 : decode cX6_isNameByte 43 = .ok (.goto 4, 3) := by decide +kernel
theorem dX6_isNameByte_46 : decode cX6_isNameByte 46 = .ok (.iconst 0, 1) := by decide +kernel
theorem dX6_isNameByte_47 : decode cX6_isNameByte 47 = .ok (.ireturn, 1) := by decide +kernel
end
section
def f_Top_great (a1 : Int32) : Option (Int32) :=
  if a1 < 97 then
    some a1
  else
    if 122 < a1 then
      some a1
    else
      some ((a1 - 97) + 65)

def f_Top_isDigit (a1 : Int32) : Option (Int32) :=
  if a1 < 48 then
    some 0
  else
    if 57 < a1 then
      some 0
    else
      some 1

def f_Top_isNameByte (a1 : Int32) : Option (Int32) :=
  if a1 < 65 then
    if a1 < 97 then
      if a1 < 48 then
        if a1 = 95 then
          some 1
        else
          some 0
      else
        if a1 ≤ 57 then
          some 1
        else
          if a1 = 95 then
            some 1
          else
            some 0
    else
      if a1 ≤ 122 then
        some 1
      else
        if a1 < 48 then
          if a1 = 95 then
            some 1
          else
            some 0
        else
          if a1 ≤ 57 then
            some 1
          else
            if a1 = 95 then
              some 1
            else
              some 0
  else
    if a1 ≤ 90 then
      some 1
    else
      if a1 < 97 then
        if a1 < 48 then
          if a1 = 95 then
            some 1
          else
            some 0
        else
          if a1 ≤ 57 then
            some 1
          else
            if a1 = 95 then
              some 1
            else
              some 0
      else
        if a1 ≤ 122 then
          some 1
        else
          if a1 < 48 then
            if a1 = 95 then
              some 1
            else
              some 0
          else
            if a1 ≤ 57 then
              some 1
            else
              if a1 = 95 then
                some 1
              else
                some 0
end
section
set_option maxHeartbeats 4000000 in
set_option maxRecDepth 100000 in
theorem c_Top_great (l : Launch) (D : va_G) (cI : ClassId) (sd : Nat → Nat) (ad : Nat → Nat) (a1 : Int32) (res : Int32) (hM : f_Top_great a1 = some res) : Ctr l D cI sd yX6_great (wsM yX6_great cX6_great 1 (Option.some Jvm.ClassFile.FieldType.int)) { frames := 0, cells := 0, slots := 0, locals := 0 } [.int a1] (([] : va_W)) (([] : va_W)) (some (.int res)) := by
  refine Ctr.of (cc := cX6_great) (maxL := 1) (own := RX6) (by decide +kernel) rfl rfl (Nat.le_of_ble_eq_true rfl) ?_
  intro p e s m below meth c A ls hx hb hr hml hown hts hlk hK hE hA hP hD hS hl
  have hl : lv_has ls 1 [(0, .int a1)] := hl
  unfold f_Top_great at hM
  refine lv_iload_n hx hb dX6_great_0 rfl (lv_at hl 0 rfl) ?_
  refine lv_bipush (v := 97) hx hb dX6_great_1 (by decide) ?_
  refine lv_icmp_lt (tgt := 22) hx hb dX6_great_3 (by decide) (fun c1 => ?_) (fun c1 => ?_)
  · replace hM := if_t c1 hM
    refine lv_iload_n hx hb dX6_great_22 rfl (lv_at hl 0 rfl) ?_
    cases hM
    exact rt_i hx hb hr hlk hP hD hS rfl dX6_great_23
  · replace hM := if_f c1 hM
    refine lv_iload_n hx hb dX6_great_6 rfl (lv_at hl 0 rfl) ?_
    refine lv_bipush (v := 122) hx hb dX6_great_7 (by decide) ?_
    refine lv_icmp_gt (tgt := 22) hx hb dX6_great_9 (by decide) (fun c2 => ?_) (fun c2 => ?_)
    · replace hM := if_t c2 hM
      refine lv_iload_n hx hb dX6_great_22 rfl (lv_at hl 0 rfl) ?_
      cases hM
      exact rt_i hx hb hr hlk hP hD hS rfl dX6_great_23
    · replace hM := if_f c2 hM
      refine lv_iload_n hx hb dX6_great_12 rfl (lv_at hl 0 rfl) ?_
      refine lv_bipush (v := 97) hx hb dX6_great_13 (by decide) ?_
      refine lv_isub hx hb dX6_great_15 ?_
      refine lv_bipush (v := 65) hx hb dX6_great_16 (by decide) ?_
      refine lv_iadd hx hb dX6_great_18 ?_
      refine lv_goto (tgt := 23) hx hb dX6_great_19 (by decide) ?_
      cases hM
      exact rt_i hx hb hr hlk hP hD hS rfl dX6_great_23

set_option maxHeartbeats 4000000 in
set_option maxRecDepth 100000 in
theorem c_Top_isDigit (l : Launch) (D : va_G) (cI : ClassId) (sd : Nat → Nat) (ad : Nat → Nat) (a1 : Int32) (res : Int32) (hM : f_Top_isDigit a1 = some res) : Ctr l D cI sd yX6_isDigit (wsM yX6_isDigit cX6_isDigit 1 (Option.some Jvm.ClassFile.FieldType.boolean)) { frames := 0, cells := 0, slots := 0, locals := 0 } [.int a1] (([] : va_W)) (([] : va_W)) (some (.int res)) := by
  refine Ctr.of (cc := cX6_isDigit) (maxL := 1) (own := RX6) (by decide +kernel) rfl rfl (Nat.le_of_ble_eq_true rfl) ?_
  intro p e s m below meth c A ls hx hb hr hml hown hts hlk hK hE hA hP hD hS hl
  have hl : lv_has ls 1 [(0, .int a1)] := hl
  unfold f_Top_isDigit at hM
  refine lv_iload_n hx hb dX6_isDigit_0 rfl (lv_at hl 0 rfl) ?_
  refine lv_bipush (v := 48) hx hb dX6_isDigit_1 (by decide) ?_
  refine lv_icmp_lt (tgt := 16) hx hb dX6_isDigit_3 (by decide) (fun c1 => ?_) (fun c1 => ?_)
  · replace hM := if_t c1 hM
    refine lv_iconst (v := 0) hx hb dX6_isDigit_16 (by decide) ?_
    cases hM
    exact rt_z hx hb hr hlk (by decide) hP hD hS rfl dX6_isDigit_17
  · replace hM := if_f c1 hM
    refine lv_iload_n hx hb dX6_isDigit_6 rfl (lv_at hl 0 rfl) ?_
    refine lv_bipush (v := 57) hx hb dX6_isDigit_7 (by decide) ?_
    refine lv_icmp_gt (tgt := 16) hx hb dX6_isDigit_9 (by decide) (fun c2 => ?_) (fun c2 => ?_)
    · replace hM := if_t c2 hM
      refine lv_iconst (v := 0) hx hb dX6_isDigit_16 (by decide) ?_
      cases hM
      exact rt_z hx hb hr hlk (by decide) hP hD hS rfl dX6_isDigit_17
    · replace hM := if_f c2 hM
      refine lv_iconst (v := 1) hx hb dX6_isDigit_12 (by decide) ?_
      refine lv_goto (tgt := 17) hx hb dX6_isDigit_13 (by decide) ?_
      cases hM
      exact rt_z hx hb hr hlk (by decide) hP hD hS rfl dX6_isDigit_17

set_option maxHeartbeats 4000000 in
set_option maxRecDepth 100000 in
theorem c_Top_isNameByte (l : Launch) (D : va_G) (cI : ClassId) (sd : Nat → Nat) (ad : Nat → Nat) (a1 : Int32) (res : Int32) (hM : f_Top_isNameByte a1 = some res) : Ctr l D cI sd yX6_isNameByte (wsM yX6_isNameByte cX6_isNameByte 1 (Option.some Jvm.ClassFile.FieldType.boolean)) { frames := 0, cells := 0, slots := 0, locals := 0 } [.int a1] (([] : va_W)) (([] : va_W)) (some (.int res)) := by
  refine Ctr.of (cc := cX6_isNameByte) (maxL := 1) (own := RX6) (by decide +kernel) rfl rfl (Nat.le_of_ble_eq_true rfl) ?_
  intro p e s m below meth c A ls hx hb hr hml hown hts hlk hK hE hA hP hD hS hl
  have hl : lv_has ls 1 [(0, .int a1)] := hl
  unfold f_Top_isNameByte at hM
  refine lv_iload_n hx hb dX6_isNameByte_0 rfl (lv_at hl 0 rfl) ?_
  refine lv_bipush (v := 65) hx hb dX6_isNameByte_1 (by decide) ?_
  refine lv_icmp_lt (tgt := 12) hx hb dX6_isNameByte_3 (by decide) (fun c1 => ?_) (fun c1 => ?_)
  · replace hM := if_t c1 hM
    refine lv_iload_n hx hb dX6_isNameByte_12 rfl (lv_at hl 0 rfl) ?_
    refine lv_bipush (v := 97) hx hb dX6_isNameByte_13 (by decide) ?_
    refine lv_icmp_lt (tgt := 24) hx hb dX6_isNameByte_15 (by decide) (fun c2 => ?_) (fun c2 => ?_)
    · replace hM := if_t c2 hM
      refine lv_iload_n hx hb dX6_isNameByte_24 rfl (lv_at hl 0 rfl) ?_
      refine lv_bipush (v := 48) hx hb dX6_isNameByte_25 (by decide) ?_
      refine lv_icmp_lt (tgt := 36) hx hb dX6_isNameByte_27 (by decide) (fun c3 => ?_) (fun c3 => ?_)
      · replace hM := if_t c3 hM
        refine lv_iload_n hx hb dX6_isNameByte_36 rfl (lv_at hl 0 rfl) ?_
        refine lv_bipush (v := 95) hx hb dX6_isNameByte_37 (by decide) ?_
        refine lv_icmp_ne (tgt := 46) hx hb dX6_isNameByte_39 (by decide) (fun c4 => ?_) (fun c4 => ?_)
        · replace hM := if_f c4 hM
          refine lv_iconst (v := 0) hx hb dX6_isNameByte_46 (by decide) ?_
          cases hM
          exact rt_z hx hb hr hlk (by decide) hP hD hS rfl dX6_isNameByte_47
        · replace hM := if_t c4 hM
          refine lv_iconst (v := 1) hx hb dX6_isNameByte_42 (by decide) ?_
          refine lv_goto (tgt := 47) hx hb dX6_isNameByte_43 (by decide) ?_
          cases hM
          exact rt_z hx hb hr hlk (by decide) hP hD hS rfl dX6_isNameByte_47
      · replace hM := if_f c3 hM
        refine lv_iload_n hx hb dX6_isNameByte_30 rfl (lv_at hl 0 rfl) ?_
        refine lv_bipush (v := 57) hx hb dX6_isNameByte_31 (by decide) ?_
        refine lv_icmp_le (tgt := 42) hx hb dX6_isNameByte_33 (by decide) (fun c5 => ?_) (fun c5 => ?_)
        · replace hM := if_t c5 hM
          refine lv_iconst (v := 1) hx hb dX6_isNameByte_42 (by decide) ?_
          refine lv_goto (tgt := 47) hx hb dX6_isNameByte_43 (by decide) ?_
          cases hM
          exact rt_z hx hb hr hlk (by decide) hP hD hS rfl dX6_isNameByte_47
        · replace hM := if_f c5 hM
          refine lv_iload_n hx hb dX6_isNameByte_36 rfl (lv_at hl 0 rfl) ?_
          refine lv_bipush (v := 95) hx hb dX6_isNameByte_37 (by decide) ?_
          refine lv_icmp_ne (tgt := 46) hx hb dX6_isNameByte_39 (by decide) (fun c6 => ?_) (fun c6 => ?_)
          · replace hM := if_f c6 hM
            refine lv_iconst (v := 0) hx hb dX6_isNameByte_46 (by decide) ?_
            cases hM
            exact rt_z hx hb hr hlk (by decide) hP hD hS rfl dX6_isNameByte_47
          · replace hM := if_t c6 hM
            refine lv_iconst (v := 1) hx hb dX6_isNameByte_42 (by decide) ?_
            refine lv_goto (tgt := 47) hx hb dX6_isNameByte_43 (by decide) ?_
            cases hM
            exact rt_z hx hb hr hlk (by decide) hP hD hS rfl dX6_isNameByte_47
    · replace hM := if_f c2 hM
      refine lv_iload_n hx hb dX6_isNameByte_18 rfl (lv_at hl 0 rfl) ?_
      refine lv_bipush (v := 122) hx hb dX6_isNameByte_19 (by decide) ?_
      refine lv_icmp_le (tgt := 42) hx hb dX6_isNameByte_21 (by decide) (fun c7 => ?_) (fun c7 => ?_)
      · replace hM := if_t c7 hM
        refine lv_iconst (v := 1) hx hb dX6_isNameByte_42 (by decide) ?_
        refine lv_goto (tgt := 47) hx hb dX6_isNameByte_43 (by decide) ?_
        cases hM
        exact rt_z hx hb hr hlk (by decide) hP hD hS rfl dX6_isNameByte_47
      · replace hM := if_f c7 hM
        refine lv_iload_n hx hb dX6_isNameByte_24 rfl (lv_at hl 0 rfl) ?_
        refine lv_bipush (v := 48) hx hb dX6_isNameByte_25 (by decide) ?_
        refine lv_icmp_lt (tgt := 36) hx hb dX6_isNameByte_27 (by decide) (fun c8 => ?_) (fun c8 => ?_)
        · replace hM := if_t c8 hM
          refine lv_iload_n hx hb dX6_isNameByte_36 rfl (lv_at hl 0 rfl) ?_
          refine lv_bipush (v := 95) hx hb dX6_isNameByte_37 (by decide) ?_
          refine lv_icmp_ne (tgt := 46) hx hb dX6_isNameByte_39 (by decide) (fun c9 => ?_) (fun c9 => ?_)
          · replace hM := if_f c9 hM
            refine lv_iconst (v := 0) hx hb dX6_isNameByte_46 (by decide) ?_
            cases hM
            exact rt_z hx hb hr hlk (by decide) hP hD hS rfl dX6_isNameByte_47
          · replace hM := if_t c9 hM
            refine lv_iconst (v := 1) hx hb dX6_isNameByte_42 (by decide) ?_
            refine lv_goto (tgt := 47) hx hb dX6_isNameByte_43 (by decide) ?_
            cases hM
            exact rt_z hx hb hr hlk (by decide) hP hD hS rfl dX6_isNameByte_47
        · replace hM := if_f c8 hM
          refine lv_iload_n hx hb dX6_isNameByte_30 rfl (lv_at hl 0 rfl) ?_
          refine lv_bipush (v := 57) hx hb dX6_isNameByte_31 (by decide) ?_
          refine lv_icmp_le (tgt := 42) hx hb dX6_isNameByte_33 (by decide) (fun c10 => ?_) (fun c10 => ?_)
          · replace hM := if_t c10 hM
            refine lv_iconst (v := 1) hx hb dX6_isNameByte_42 (by decide) ?_
            refine lv_goto (tgt := 47) hx hb dX6_isNameByte_43 (by decide) ?_
            cases hM
            exact rt_z hx hb hr hlk (by decide) hP hD hS rfl dX6_isNameByte_47
          · replace hM := if_f c10 hM
            refine lv_iload_n hx hb dX6_isNameByte_36 rfl (lv_at hl 0 rfl) ?_
            refine lv_bipush (v := 95) hx hb dX6_isNameByte_37 (by decide) ?_
            refine lv_icmp_ne (tgt := 46) hx hb dX6_isNameByte_39 (by decide) (fun c11 => ?_) (fun c11 => ?_)
            · replace hM := if_f c11 hM
              refine lv_iconst (v := 0) hx hb dX6_isNameByte_46 (by decide) ?_
              cases hM
              exact rt_z hx hb hr hlk (by decide) hP hD hS rfl dX6_isNameByte_47
            · replace hM := if_t c11 hM
              refine lv_iconst (v := 1) hx hb dX6_isNameByte_42 (by decide) ?_
              refine lv_goto (tgt := 47) hx hb dX6_isNameByte_43 (by decide) ?_
              cases hM
              exact rt_z hx hb hr hlk (by decide) hP hD hS rfl dX6_isNameByte_47
  · replace hM := if_f c1 hM
    refine lv_iload_n hx hb dX6_isNameByte_6 rfl (lv_at hl 0 rfl) ?_
    refine lv_bipush (v := 90) hx hb dX6_isNameByte_7 (by decide) ?_
    refine lv_icmp_le (tgt := 42) hx hb dX6_isNameByte_9 (by decide) (fun c12 => ?_) (fun c12 => ?_)
    · replace hM := if_t c12 hM
      refine lv_iconst (v := 1) hx hb dX6_isNameByte_42 (by decide) ?_
      refine lv_goto (tgt := 47) hx hb dX6_isNameByte_43 (by decide) ?_
      cases hM
      exact rt_z hx hb hr hlk (by decide) hP hD hS rfl dX6_isNameByte_47
    · replace hM := if_f c12 hM
      refine lv_iload_n hx hb dX6_isNameByte_12 rfl (lv_at hl 0 rfl) ?_
      refine lv_bipush (v := 97) hx hb dX6_isNameByte_13 (by decide) ?_
      refine lv_icmp_lt (tgt := 24) hx hb dX6_isNameByte_15 (by decide) (fun c13 => ?_) (fun c13 => ?_)
      · replace hM := if_t c13 hM
        refine lv_iload_n hx hb dX6_isNameByte_24 rfl (lv_at hl 0 rfl) ?_
        refine lv_bipush (v := 48) hx hb dX6_isNameByte_25 (by decide) ?_
        refine lv_icmp_lt (tgt := 36) hx hb dX6_isNameByte_27 (by decide) (fun c14 => ?_) (fun c14 => ?_)
        · replace hM := if_t c14 hM
          refine lv_iload_n hx hb dX6_isNameByte_36 rfl (lv_at hl 0 rfl) ?_
          refine lv_bipush (v := 95) hx hb dX6_isNameByte_37 (by decide) ?_
          refine lv_icmp_ne (tgt := 46) hx hb dX6_isNameByte_39 (by decide) (fun c15 => ?_) (fun c15 => ?_)
          · replace hM := if_f c15 hM
            refine lv_iconst (v := 0) hx hb dX6_isNameByte_46 (by decide) ?_
            cases hM
            exact rt_z hx hb hr hlk (by decide) hP hD hS rfl dX6_isNameByte_47
          · replace hM := if_t c15 hM
            refine lv_iconst (v := 1) hx hb dX6_isNameByte_42 (by decide) ?_
            refine lv_goto (tgt := 47) hx hb dX6_isNameByte_43 (by decide) ?_
            cases hM
            exact rt_z hx hb hr hlk (by decide) hP hD hS rfl dX6_isNameByte_47
        · replace hM := if_f c14 hM
          refine lv_iload_n hx hb dX6_isNameByte_30 rfl (lv_at hl 0 rfl) ?_
          refine lv_bipush (v := 57) hx hb dX6_isNameByte_31 (by decide) ?_
          refine lv_icmp_le (tgt := 42) hx hb dX6_isNameByte_33 (by decide) (fun c16 => ?_) (fun c16 => ?_)
          · replace hM := if_t c16 hM
            refine lv_iconst (v := 1) hx hb dX6_isNameByte_42 (by decide) ?_
            refine lv_goto (tgt := 47) hx hb dX6_isNameByte_43 (by decide) ?_
            cases hM
            exact rt_z hx hb hr hlk (by decide) hP hD hS rfl dX6_isNameByte_47
          · replace hM := if_f c16 hM
            refine lv_iload_n hx hb dX6_isNameByte_36 rfl (lv_at hl 0 rfl) ?_
            refine lv_bipush (v := 95) hx hb dX6_isNameByte_37 (by decide) ?_
            refine lv_icmp_ne (tgt := 46) hx hb dX6_isNameByte_39 (by decide) (fun c17 => ?_) (fun c17 => ?_)
            · replace hM := if_f c17 hM
              refine lv_iconst (v := 0) hx hb dX6_isNameByte_46 (by decide) ?_
              cases hM
              exact rt_z hx hb hr hlk (by decide) hP hD hS rfl dX6_isNameByte_47
            · replace hM := if_t c17 hM
              refine lv_iconst (v := 1) hx hb dX6_isNameByte_42 (by decide) ?_
              refine lv_goto (tgt := 47) hx hb dX6_isNameByte_43 (by decide) ?_
              cases hM
              exact rt_z hx hb hr hlk (by decide) hP hD hS rfl dX6_isNameByte_47
      · replace hM := if_f c13 hM
        refine lv_iload_n hx hb dX6_isNameByte_18 rfl (lv_at hl 0 rfl) ?_
        refine lv_bipush (v := 122) hx hb dX6_isNameByte_19 (by decide) ?_
        refine lv_icmp_le (tgt := 42) hx hb dX6_isNameByte_21 (by decide) (fun c18 => ?_) (fun c18 => ?_)
        · replace hM := if_t c18 hM
          refine lv_iconst (v := 1) hx hb dX6_isNameByte_42 (by decide) ?_
          refine lv_goto (tgt := 47) hx hb dX6_isNameByte_43 (by decide) ?_
          cases hM
          exact rt_z hx hb hr hlk (by decide) hP hD hS rfl dX6_isNameByte_47
        · replace hM := if_f c18 hM
          refine lv_iload_n hx hb dX6_isNameByte_24 rfl (lv_at hl 0 rfl) ?_
          refine lv_bipush (v := 48) hx hb dX6_isNameByte_25 (by decide) ?_
          refine lv_icmp_lt (tgt := 36) hx hb dX6_isNameByte_27 (by decide) (fun c19 => ?_) (fun c19 => ?_)
          · replace hM := if_t c19 hM
            refine lv_iload_n hx hb dX6_isNameByte_36 rfl (lv_at hl 0 rfl) ?_
            refine lv_bipush (v := 95) hx hb dX6_isNameByte_37 (by decide) ?_
            refine lv_icmp_ne (tgt := 46) hx hb dX6_isNameByte_39 (by decide) (fun c20 => ?_) (fun c20 => ?_)
            · replace hM := if_f c20 hM
              refine lv_iconst (v := 0) hx hb dX6_isNameByte_46 (by decide) ?_
              cases hM
              exact rt_z hx hb hr hlk (by decide) hP hD hS rfl dX6_isNameByte_47
            · replace hM := if_t c20 hM
              refine lv_iconst (v := 1) hx hb dX6_isNameByte_42 (by decide) ?_
              refine lv_goto (tgt := 47) hx hb dX6_isNameByte_43 (by decide) ?_
              cases hM
              exact rt_z hx hb hr hlk (by decide) hP hD hS rfl dX6_isNameByte_47
          · replace hM := if_f c19 hM
            refine lv_iload_n hx hb dX6_isNameByte_30 rfl (lv_at hl 0 rfl) ?_
            refine lv_bipush (v := 57) hx hb dX6_isNameByte_31 (by decide) ?_
            refine lv_icmp_le (tgt := 42) hx hb dX6_isNameByte_33 (by decide) (fun c21 => ?_) (fun c21 => ?_)
            · replace hM := if_t c21 hM
              refine lv_iconst (v := 1) hx hb dX6_isNameByte_42 (by decide) ?_
              refine lv_goto (tgt := 47) hx hb dX6_isNameByte_43 (by decide) ?_
              cases hM
              exact rt_z hx hb hr hlk (by decide) hP hD hS rfl dX6_isNameByte_47
            · replace hM := if_f c21 hM
              refine lv_iload_n hx hb dX6_isNameByte_36 rfl (lv_at hl 0 rfl) ?_
              refine lv_bipush (v := 95) hx hb dX6_isNameByte_37 (by decide) ?_
              refine lv_icmp_ne (tgt := 46) hx hb dX6_isNameByte_39 (by decide) (fun c22 => ?_) (fun c22 => ?_)
              · replace hM := if_f c22 hM
                refine lv_iconst (v := 0) hx hb dX6_isNameByte_46 (by decide) ?_
                cases hM
                exact rt_z hx hb hr hlk (by decide) hP hD hS rfl dX6_isNameByte_47
              · replace hM := if_t c22 hM
                refine lv_iconst (v := 1) hx hb dX6_isNameByte_42 (by decide) ?_
                refine lv_goto (tgt := 47) hx hb dX6_isNameByte_43 (by decide) ?_
                cases hM
                exact rt_z hx hb hr hlk (by decide) hP hD hS rfl dX6_isNameByte_47
end
section
theorem dX0_cut_0 : decode cX0_cut 0 = .ok (.iload_n 1, 1) := by decide +kernel
theorem dX0_cut_1 : decode cX0_cut 1 = .ok (.ifCond .lt 16, 3) := by decide +kernel
theorem dX0_cut_4 : decode cX0_cut 4 = .ok (.iload_n 1, 1) := by decide +kernel
theorem dX0_cut_5 : decode cX0_cut 5 = .ok (.aload_n 0, 1) := by decide +kernel
theorem dX0_cut_6 : decode cX0_cut 6 = .ok (.getfield 15, 3) := by decide +kernel
theorem dX0_cut_9 : decode cX0_cut 9 = .ok (.if_icmp .ge 8, 3) := by decide +kernel
theorem dX0_cut_12 : decode cX0_cut 12 = .ok (.aload_n 0, 1) := by decide +kernel
theorem dX0_cut_13 : decode cX0_cut 13 = .ok (.iload_n 1, 1) := by decide +kernel
theorem dX0_cut_14 : decode cX0_cut 14 = .ok (.putfield 15, 3) := by decide +kernel
theorem dX0_cut_17 : decode cX0_cut 17 = .ok (.return_, 1) := by decide +kernel

theorem dX0_put_0 : decode cX0_put 0 = .ok (.aload_n 0, 1) := by decide +kernel
theorem dX0_put_1 : decode cX0_put 1 = .ok (.getfield 15, 3) := by decide +kernel
theorem dX0_put_4 : decode cX0_put 4 = .ok (.ifCond .lt 35, 3) := by decide +kernel
theorem dX0_put_7 : decode cX0_put 7 = .ok (.aload_n 0, 1) := by decide +kernel
theorem dX0_put_8 : decode cX0_put 8 = .ok (.getfield 15, 3) := by decide +kernel
theorem dX0_put_11 : decode cX0_put 11 = .ok (.aload_n 0, 1) := by decide +kernel
theorem dX0_put_12 : decode cX0_put 12 = .ok (.getfield 9, 3) := by decide +kernel
theorem dX0_put_15 : decode cX0_put 15 = .ok (.arraylength, 1) := by decide +kernel
theorem dX0_put_16 : decode cX0_put 16 = .ok (.if_icmp .ge 23, 3) := by decide +kernel
theorem dX0_put_19 : decode cX0_put 19 = .ok (.aload_n 0, 1) := by decide +kernel
theorem dX0_put_20 : decode cX0_put 20 = .ok (.getfield 9, 3) := by decide +kernel
theorem dX0_put_23 : decode cX0_put 23 = .ok (.aload_n 0, 1) := by decide +kernel
theorem dX0_put_24 : decode cX0_put 24 = .ok (.getfield 15, 3) := by decide +kernel
theorem dX0_put_27 : decode cX0_put 27 = .ok (.iload_n 1, 1) := by decide +kernel
theorem dX0_put_28 : decode cX0_put 28 = .ok (.iastore, 1) := by decide +kernel
theorem dX0_put_29 : decode cX0_put 29 = .ok (.aload_n 0, 1) := by decide +kernel
theorem dX0_put_30 : decode cX0_put 30 = .ok (.dup, 1) := by decide +kernel
theorem dX0_put_31 : decode cX0_put 31 = .ok (.getfield 15, 3) := by decide +kernel
theorem dX0_put_34 : decode cX0_put 34 = .ok (.iconst 1, 1) := by decide +kernel
theorem dX0_put_35 : decode cX0_put 35 = .ok (.iadd, 1) := by decide +kernel
theorem dX0_put_36 : decode cX0_put 36 = .ok (.putfield 15, 3) := by decide +kernel
theorem dX0_put_39 : decode cX0_put 39 = .ok (.return_, 1) := by decide +kernel

theorem dX0_get_0 : decode cX0_get 0 = .ok (.iload_n 1, 1) := by decide +kernel
theorem dX0_get_1 : decode cX0_get 1 = .ok (.ifCond .lt 29, 3) := by decide +kernel
theorem dX0_get_4 : decode cX0_get 4 = .ok (.iload_n 1, 1) := by decide +kernel
theorem dX0_get_5 : decode cX0_get 5 = .ok (.aload_n 0, 1) := by decide +kernel
theorem dX0_get_6 : decode cX0_get 6 = .ok (.getfield 15, 3) := by decide +kernel
theorem dX0_get_9 : decode cX0_get 9 = .ok (.if_icmp .ge 21, 3) := by decide +kernel
theorem dX0_get_12 : decode cX0_get 12 = .ok (.iload_n 1, 1) := by decide +kernel
theorem dX0_get_13 : decode cX0_get 13 = .ok (.aload_n 0, 1) := by decide +kernel
theorem dX0_get_14 : decode cX0_get 14 = .ok (.getfield 9, 3) := by decide +kernel
theorem dX0_get_17 : decode cX0_get 17 = .ok (.arraylength, 1) := by decide +kernel
theorem dX0_get_18 : decode cX0_get 18 = .ok (.if_icmp .ge 12, 3) := by decide +kernel
theorem dX0_get_21 : decode cX0_get 21 = .ok (.aload_n 0, 1) := by decide +kernel
theorem dX0_get_22 : decode cX0_get 22 = .ok (.getfield 9, 3) := by decide +kernel
theorem dX0_get_25 : decode cX0_get 25 = .ok (.iload_n 1, 1) := by decide +kernel
theorem dX0_get_26 : decode cX0_get 26 = .ok (.iaload, 1) := by decide +kernel
theorem dX0_get_27 : decode cX0_get 27 = .ok (.goto 4, 3) := by decide +kernel
theorem dX0_get_30 : decode cX0_get 30 = .ok (.iconst (-1), 1) := by decide +kernel
theorem dX0_get_31 : decode cX0_get 31 = .ok (.ireturn, 1) := by decide +kernel

theorem dX0_swap_0 : decode cX0_swap 0 = .ok (.aload_n 0, 1) := by decide +kernel
theorem dX0_swap_1 : decode cX0_swap 1 = .ok (.iload_n 1, 1) := by decide +kernel
theorem dX0_swap_2 : decode cX0_swap 2 = .ok (.invokevirtual 19, 3) := by decide +kernel
theorem dX0_swap_5 : decode cX0_swap 5 = .ok (.istore_n 3, 1) := by decide +kernel
theorem dX0_swap_6 : decode cX0_swap 6 = .ok (.iload_n 3, 1) := by decide +kernel
theorem dX0_swap_7 : decode cX0_swap 7 = .ok (.iconst (-1), 1) := by decide +kernel
theorem dX0_swap_8 : decode cX0_swap 8 = .ok (.if_icmp .eq 23, 3) := by decide +kernel
theorem dX0_swap_11 : decode cX0_swap 11 = .ok (.iload_n 1, 1) := by decide +kernel
theorem dX0_swap_12 : decode cX0_swap 12 = .ok (.ifCond .lt 19, 3) := by decide +kernel
theorem dX0_swap_15 : decode cX0_swap 15 = .ok (.iload_n 1, 1) := by decide +kernel
theorem dX0_swap_16 : decode cX0_swap 16 = .ok (.aload_n 0, 1) := by decide +kernel
theorem dX0_swap_17 : decode cX0_swap 17 = .ok (.getfield 9, 3) := by decide +kernel
theorem dX0_swap_20 : decode cX0_swap 20 = .ok (.arraylength, 1) := by decide +kernel
theorem dX0_swap_21 : decode cX0_swap 21 = .ok (.if_icmp .ge 10, 3) := by decide +kernel
theorem dX0_swap_24 : decode cX0_swap 24 = .ok (.aload_n 0, 1) := by decide +kernel
theorem dX0_swap_25 : decode cX0_swap 25 = .ok (.getfield 9, 3) := by decide +kernel
theorem dX0_swap_28 : decode cX0_swap 28 = .ok (.iload_n 1, 1) := by decide +kernel
theorem dX0_swap_29 : decode cX0_swap 29 = .ok (.iload_n 2, 1) := by decide +kernel
theorem dX0_swap_30 : decode cX0_swap 30 = .ok (.iastore, 1) := by decide +kernel
theorem dX0_swap_31 : decode cX0_swap 31 = .ok (.iload_n 3, 1) := by decide +kernel
theorem dX0_swap_32 : decode cX0_swap 32 = .ok (.ireturn, 1) := by decide +kernel
end
section
def f_Bytes_cut (n : Nat) (o_this : S_Bytes) (a1 : Int32) : Option (S_Bytes) :=
  if a1 < 0 then
    some o_this
  else
    if o_this.1 ≤ a1 then
      some o_this
    else
      some (a1, o_this.2)

def f_Bytes_put (n : Nat) (o_this : S_Bytes) (a1 : Int32) : Option (S_Bytes) :=
  if o_this.1 < 0 then
    some o_this
  else
    if (Int32.ofNat n) ≤ o_this.1 then
      some o_this
    else
      gd o_this.1 n <|
      some (o_this.1 + 1, upd o_this.2 o_this.1.toNatClampNeg a1)

def f_Bytes_get (n : Nat) (o_this : S_Bytes) (a1 : Int32) : Option (Int32) :=
  if a1 < 0 then
    some (-1)
  else
    if o_this.1 ≤ a1 then
      some (-1)
    else
      if (Int32.ofNat n) ≤ a1 then
        some (-1)
      else
        gd a1 n <|
        some (o_this.2 a1.toNatClampNeg)

def f_Bytes_swap (n : Nat) (o_this : S_Bytes) (a1 : Int32) (a2 : Int32) : Option (Int32 × S_Bytes) :=
  (f_Bytes_get n o_this a1).bind fun r1 =>
  if r1 = (-1) then
    some (r1, o_this)
  else
    if a1 < 0 then
      some (r1, o_this)
    else
      if (Int32.ofNat n) ≤ a1 then
        some (r1, o_this)
      else
        gd a1 n <|
        some (r1, (o_this.1, upd o_this.2 a1.toNatClampNeg a2))
end
section
set_option maxHeartbeats 4000000 in
set_option maxRecDepth 100000 in
theorem c_Bytes_cut (l : Launch) (D : va_G) (cI : ClassId) (sd : Nat → Nat) (h a : Nat) (n : Nat) (o_this : S_Bytes) (a1 : Int32) (res : S_Bytes) (hM : f_Bytes_cut n o_this a1 = some res) : Ctr l D cI sd yX0_cut (wsM yX0_cut cX0_cut 2 (Option.none : Option Jvm.ClassFile.FieldType)) { frames := 0, cells := 0, slots := 0, locals := 0 } [.ref h, .int a1] (wB cI h a n o_this) (wB cI h a n res) none := by
  refine Ctr.of (cc := cX0_cut) (maxL := 2) (own := RX0) (by decide +kernel) rfl rfl (Nat.le_of_ble_eq_true rfl) ?_
  intro p e s m below meth c A ls hx hb hr hml hown hts hlk hK hE hA hP hD hS hl
  have hl : lv_has ls 2 [(0, .ref h), (1, .int a1)] := hl
  unfold f_Bytes_cut at hM
  refine lv_iload_n hx hb dX0_cut_0 rfl (lv_at hl 1 rfl) ?_
  refine lv_if_lt (tgt := 17) hx hb dX0_cut_1 (by decide) (fun c1 => ?_) (fun c1 => ?_)
  · replace hM := if_t c1 hM
    cases hM
    exact rt_v hx hb hr hlk hP hD hS rfl dX0_cut_17
  · replace hM := if_f c1 hM
    refine lv_iload_n hx hb dX0_cut_4 rfl (lv_at hl 1 rfl) ?_
    refine lv_aload_n hx hb dX0_cut_5 rfl (lv_at hl 0 rfl) ?_
    refine va_get (D := D) (ci := 0) (v := .int o_this.1) (C := RX0) (T := TX0) (N := 2) hx hb hts layX0 hown hK hP 0 rfl rfl 1 (by decide) (hts _ (inA q204)) (fun _ h9 => h9) rfl dX0_cut_6 ?_
    refine lv_icmp_ge (tgt := 17) hx hb dX0_cut_9 (by decide) (fun c2 => ?_) (fun c2 => ?_)
    · replace hM := if_t c2 hM
      cases hM
      exact rt_v hx hb hr hlk hP hD hS rfl dX0_cut_17
    · replace hM := if_f c2 hM
      refine lv_aload_n hx hb dX0_cut_12 rfl (lv_at hl 0 rfl) ?_
      refine lv_iload_n hx hb dX0_cut_13 rfl (lv_at hl 1 rfl) ?_
      refine va_put (D := D) (ci := 0) (v := .int a1) (ty := .int) (C := RX0) (T := TX0) (N := 2) hx hb hts layX0 tyX0 tyX0_ok nmX0 hown hK hP hD hS 0 rfl rfl 1 (by decide) (hts _ (inA q204)) (fun _ h9 => h9) rfl (by decide +kernel) rfl rfl (Nat.le_of_ble_eq_true rfl) dX0_cut_14 (fun H locs hP hD hS => ?_)
      have hP : va_P D vwCl (wB cI h a n (a1, o_this.2)) H := hP
      have hD : va_D A (wB cI h a n (a1, o_this.2)) := hD
      cases hM
      exact rt_v hx hb hr hlk hP hD hS rfl dX0_cut_17

set_option maxHeartbeats 4000000 in
set_option maxRecDepth 100000 in
theorem c_Bytes_put (l : Launch) (D : va_G) (cI : ClassId) (sd : Nat → Nat) (h a : Nat) (n : Nat) (o_this : S_Bytes) (a1 : Int32) (res : S_Bytes) (hM : f_Bytes_put n o_this a1 = some res) : Ctr l D cI sd yX0_put (wsM yX0_put cX0_put 2 (Option.none : Option Jvm.ClassFile.FieldType)) { frames := 0, cells := 0, slots := 0, locals := 0 } [.ref h, .int a1] (wB cI h a n o_this) (wB cI h a n res) none := by
  refine Ctr.of (cc := cX0_put) (maxL := 2) (own := RX0) (by decide +kernel) rfl rfl (Nat.le_of_ble_eq_true rfl) ?_
  intro p e s m below meth c A ls hx hb hr hml hown hts hlk hK hE hA hP hD hS hl
  have hl : lv_has ls 2 [(0, .ref h), (1, .int a1)] := hl
  unfold f_Bytes_put at hM
  refine lv_aload_n hx hb dX0_put_0 rfl (lv_at hl 0 rfl) ?_
  refine va_get (D := D) (ci := 0) (v := .int o_this.1) (C := RX0) (T := TX0) (N := 2) hx hb hts layX0 hown hK hP 0 rfl rfl 1 (by decide) (hts _ (inA q204)) (fun _ h9 => h9) rfl dX0_put_1 ?_
  refine lv_if_lt (tgt := 39) hx hb dX0_put_4 (by decide) (fun c1 => ?_) (fun c1 => ?_)
  · replace hM := if_t c1 hM
    cases hM
    exact rt_v hx hb hr hlk hP hD hS rfl dX0_put_39
  · replace hM := if_f c1 hM
    refine lv_aload_n hx hb dX0_put_7 rfl (lv_at hl 0 rfl) ?_
    refine va_get (D := D) (ci := 0) (v := .int o_this.1) (C := RX0) (T := TX0) (N := 2) hx hb hts layX0 hown hK hP 0 rfl rfl 1 (by decide) (hts _ (inA q204)) (fun _ h9 => h9) rfl dX0_put_8 ?_
    refine lv_aload_n hx hb dX0_put_11 rfl (lv_at hl 0 rfl) ?_
    refine va_get (D := D) (ci := 0) (v := .ref a) (C := RX0) (T := TX0) (N := 2) hx hb hts layX0 hown hK hP 0 rfl rfl 0 (by decide) (hts _ (inA q202)) (fun _ h9 => h9) rfl dX0_put_12 ?_
    refine va_alen (v := Int32.ofNat n) hx hb hK hP 1 0 rfl rfl rfl dX0_put_15 ?_
    refine lv_icmp_ge (tgt := 39) hx hb dX0_put_16 (by decide) (fun c2 => ?_) (fun c2 => ?_)
    · replace hM := if_t c2 hM
      cases hM
      exact rt_v hx hb hr hlk hP hD hS rfl dX0_put_39
    · replace hM := if_f c2 hM
      refine lv_aload_n hx hb dX0_put_19 rfl (lv_at hl 0 rfl) ?_
      refine va_get (D := D) (ci := 0) (v := .ref a) (C := RX0) (T := TX0) (N := 2) hx hb hts layX0 hown hK hP 0 rfl rfl 0 (by decide) (hts _ (inA q202)) (fun _ h9 => h9) rfl dX0_put_20 ?_
      refine lv_aload_n hx hb dX0_put_23 rfl (lv_at hl 0 rfl) ?_
      refine va_get (D := D) (ci := 0) (v := .int o_this.1) (C := RX0) (T := TX0) (N := 2) hx hb hts layX0 hown hK hP 0 rfl rfl 1 (by decide) (hts _ (inA q204)) (fun _ h9 => h9) rfl dX0_put_24 ?_
      refine lv_iload_n hx hb dX0_put_27 rfl (lv_at hl 1 rfl) ?_
      obtain ⟨b3, hM⟩ := gd_use hM
      refine va_iast hx hb hK hP hD hS 1 0 rfl rfl b3 dX0_put_28 (fun H locs hP hD hS => ?_)
      have hP : va_P D vwCl (wB cI h a n (o_this.1, upd o_this.2 o_this.1.toNatClampNeg a1)) H := hP
      have hD : va_D A (wB cI h a n (o_this.1, upd o_this.2 o_this.1.toNatClampNeg a1)) := hD
      refine lv_aload_n hx hb dX0_put_29 rfl (lv_at hl 0 rfl) ?_
      refine lv_dup hx hb dX0_put_30 rfl ?_
      refine va_get (D := D) (ci := 0) (v := .int o_this.1) (C := RX0) (T := TX0) (N := 2) hx hb hts layX0 hown hK hP 0 rfl rfl 1 (by decide) (hts _ (inA q204)) (fun _ h9 => h9) rfl dX0_put_31 ?_
      refine lv_iconst (v := 1) hx hb dX0_put_34 (by decide) ?_
      refine lv_iadd hx hb dX0_put_35 ?_
      refine va_put (D := D) (ci := 0) (v := .int (o_this.1 + 1)) (ty := .int) (C := RX0) (T := TX0) (N := 2) hx hb hts layX0 tyX0 tyX0_ok nmX0 hown hK hP hD hS 0 rfl rfl 1 (by decide) (hts _ (inA q204)) (fun _ h9 => h9) rfl (by decide +kernel) rfl rfl (Nat.le_of_ble_eq_true rfl) dX0_put_36 (fun H locs hP hD hS => ?_)
      have hP : va_P D vwCl (wB cI h a n (o_this.1 + 1, upd o_this.2 o_this.1.toNatClampNeg a1)) H := hP
      have hD : va_D A (wB cI h a n (o_this.1 + 1, upd o_this.2 o_this.1.toNatClampNeg a1)) := hD
      cases hM
      exact rt_v hx hb hr hlk hP hD hS rfl dX0_put_39

set_option maxHeartbeats 4000000 in
set_option maxRecDepth 100000 in
theorem c_Bytes_get (l : Launch) (D : va_G) (cI : ClassId) (sd : Nat → Nat) (h a : Nat) (n : Nat) (o_this : S_Bytes) (a1 : Int32) (res : Int32) (hM : f_Bytes_get n o_this a1 = some res) : Ctr l D cI sd yX0_get (wsM yX0_get cX0_get 2 (Option.some Jvm.ClassFile.FieldType.int)) { frames := 0, cells := 0, slots := 0, locals := 0 } [.ref h, .int a1] (wB cI h a n o_this) (wB cI h a n o_this) (some (.int res)) := by
  refine Ctr.of (cc := cX0_get) (maxL := 2) (own := RX0) (by decide +kernel) rfl rfl (Nat.le_of_ble_eq_true rfl) ?_
  intro p e s m below meth c A ls hx hb hr hml hown hts hlk hK hE hA hP hD hS hl
  have hl : lv_has ls 2 [(0, .ref h), (1, .int a1)] := hl
  unfold f_Bytes_get at hM
  refine lv_iload_n hx hb dX0_get_0 rfl (lv_at hl 1 rfl) ?_
  refine lv_if_lt (tgt := 30) hx hb dX0_get_1 (by decide) (fun c1 => ?_) (fun c1 => ?_)
  · replace hM := if_t c1 hM
    refine lv_iconst (v := (-1)) hx hb dX0_get_30 (by decide) ?_
    cases hM
    exact rt_i hx hb hr hlk hP hD hS rfl dX0_get_31
  · replace hM := if_f c1 hM
    refine lv_iload_n hx hb dX0_get_4 rfl (lv_at hl 1 rfl) ?_
    refine lv_aload_n hx hb dX0_get_5 rfl (lv_at hl 0 rfl) ?_
    refine va_get (D := D) (ci := 0) (v := .int o_this.1) (C := RX0) (T := TX0) (N := 2) hx hb hts layX0 hown hK hP 0 rfl rfl 1 (by decide) (hts _ (inA q204)) (fun _ h9 => h9) rfl dX0_get_6 ?_
    refine lv_icmp_ge (tgt := 30) hx hb dX0_get_9 (by decide) (fun c2 => ?_) (fun c2 => ?_)
    · replace hM := if_t c2 hM
      refine lv_iconst (v := (-1)) hx hb dX0_get_30 (by decide) ?_
      cases hM
      exact rt_i hx hb hr hlk hP hD hS rfl dX0_get_31
    · replace hM := if_f c2 hM
      refine lv_iload_n hx hb dX0_get_12 rfl (lv_at hl 1 rfl) ?_
      refine lv_aload_n hx hb dX0_get_13 rfl (lv_at hl 0 rfl) ?_
      refine va_get (D := D) (ci := 0) (v := .ref a) (C := RX0) (T := TX0) (N := 2) hx hb hts layX0 hown hK hP 0 rfl rfl 0 (by decide) (hts _ (inA q202)) (fun _ h9 => h9) rfl dX0_get_14 ?_
      refine va_alen (v := Int32.ofNat n) hx hb hK hP 1 0 rfl rfl rfl dX0_get_17 ?_
      refine lv_icmp_ge (tgt := 30) hx hb dX0_get_18 (by decide) (fun c3 => ?_) (fun c3 => ?_)
      · replace hM := if_t c3 hM
        refine lv_iconst (v := (-1)) hx hb dX0_get_30 (by decide) ?_
        cases hM
        exact rt_i hx hb hr hlk hP hD hS rfl dX0_get_31
      · replace hM := if_f c3 hM
        refine lv_aload_n hx hb dX0_get_21 rfl (lv_at hl 0 rfl) ?_
        refine va_get (D := D) (ci := 0) (v := .ref a) (C := RX0) (T := TX0) (N := 2) hx hb hts layX0 hown hK hP 0 rfl rfl 0 (by decide) (hts _ (inA q202)) (fun _ h9 => h9) rfl dX0_get_22 ?_
        refine lv_iload_n hx hb dX0_get_25 rfl (lv_at hl 1 rfl) ?_
        obtain ⟨b4, hM⟩ := gd_use hM
        refine va_iald hx hb hK hP 1 0 rfl rfl b4 dX0_get_26 ?_
        refine lv_goto (tgt := 31) hx hb dX0_get_27 (by decide) ?_
        cases hM
        exact rt_i hx hb hr hlk hP hD hS rfl dX0_get_31

set_option maxHeartbeats 4000000 in
set_option maxRecDepth 100000 in
theorem c_Bytes_swap (l : Launch) (D : va_G) (cI : ClassId) (sd : Nat → Nat) (h a : Nat) (n : Nat) (o_this : S_Bytes) (a1 : Int32) (a2 : Int32) (res : Int32 × S_Bytes) (hM : f_Bytes_swap n o_this a1 a2 = some res) : Ctr l D cI sd yX0_swap (wsM yX0_swap cX0_swap 4 (Option.some Jvm.ClassFile.FieldType.int)) { frames := 1, cells := 0, slots := 0, locals := 21 } [.ref h, .int a1, .int a2] (wB cI h a n o_this) (wB cI h a n res.2) (some (.int res.1)) := by
  refine Ctr.of (cc := cX0_swap) (maxL := 4) (own := RX0) (by decide +kernel) rfl rfl (Nat.le_of_ble_eq_true rfl) ?_
  intro p e s m below meth c A ls hx hb hr hml hown hts hlk hK hE hA hP hD hS hl
  have hl : lv_has ls 4 [(0, .ref h), (1, .int a1), (2, .int a2)] := hl
  unfold f_Bytes_swap at hM
  refine lv_aload_n hx hb dX0_swap_0 rfl (lv_at hl 0 rfl) ?_
  refine lv_iload_n hx hb dX0_swap_1 rfl (lv_at hl 1 rfl) ?_
  obtain ⟨r1, hcr1, hM⟩ := ob_use hM
  refine cl_V (As := [.int a1]) (rest := []) (wB cI h a n o_this) (.int r1 :: []) ⟨hx, hb, hml, hown, hts⟩ (c_Bytes_get l D cI sd h a n o_this a1 r1 hcr1) (cwV2 hts q506 mvX0_get rfl rfl ⟨(Nat.le_of_ble_eq_true rfl), (Nat.le_of_ble_eq_true rfl)⟩) hK hE hA hP hD hS 0 (T := TX0) (N := 2) (ci := 0) rfl rfl [0, 1] rfl (by decide) rfl rfl rfl rfl rfl rfl hl.1 (Nat.le_of_ble_eq_true rfl) dX0_swap_2 ⟨Nat.zero_le _, Nat.zero_le _⟩ (fun H locs hP hD hS => ?_)
  refine lv_istore_n (lv' := [(3, .int r1), (0, .ref h), (1, .int a1), (2, .int a2)]) hx hb dX0_swap_5 rfl hl (by decide) rfl (fun ls hl => ?_)
  refine lv_iload_n hx hb dX0_swap_6 rfl (lv_at hl 0 rfl) ?_
  refine lv_iconst (v := (-1)) hx hb dX0_swap_7 (by decide) ?_
  refine lv_icmp_eq (tgt := 31) hx hb dX0_swap_8 (by decide) (fun c2 => ?_) (fun c2 => ?_)
  · replace hM := if_t c2 hM
    refine lv_iload_n hx hb dX0_swap_31 rfl (lv_at hl 0 rfl) ?_
    cases hM
    exact rt_i hx hb hr hlk hP hD hS rfl dX0_swap_32
  · replace hM := if_f c2 hM
    refine lv_iload_n hx hb dX0_swap_11 rfl (lv_at hl 2 rfl) ?_
    refine lv_if_lt (tgt := 31) hx hb dX0_swap_12 (by decide) (fun c3 => ?_) (fun c3 => ?_)
    · replace hM := if_t c3 hM
      refine lv_iload_n hx hb dX0_swap_31 rfl (lv_at hl 0 rfl) ?_
      cases hM
      exact rt_i hx hb hr hlk hP hD hS rfl dX0_swap_32
    · replace hM := if_f c3 hM
      refine lv_iload_n hx hb dX0_swap_15 rfl (lv_at hl 2 rfl) ?_
      refine lv_aload_n hx hb dX0_swap_16 rfl (lv_at hl 1 rfl) ?_
      refine va_get (D := D) (ci := 0) (v := .ref a) (C := RX0) (T := TX0) (N := 2) hx hb hts layX0 hown hK hP 0 rfl rfl 0 (by decide) (hts _ (inA q202)) (fun _ h9 => h9) rfl dX0_swap_17 ?_
      refine va_alen (v := Int32.ofNat n) hx hb hK hP 1 0 rfl rfl rfl dX0_swap_20 ?_
      refine lv_icmp_ge (tgt := 31) hx hb dX0_swap_21 (by decide) (fun c4 => ?_) (fun c4 => ?_)
      · replace hM := if_t c4 hM
        refine lv_iload_n hx hb dX0_swap_31 rfl (lv_at hl 0 rfl) ?_
        cases hM
        exact rt_i hx hb hr hlk hP hD hS rfl dX0_swap_32
      · replace hM := if_f c4 hM
        refine lv_aload_n hx hb dX0_swap_24 rfl (lv_at hl 1 rfl) ?_
        refine va_get (D := D) (ci := 0) (v := .ref a) (C := RX0) (T := TX0) (N := 2) hx hb hts layX0 hown hK hP 0 rfl rfl 0 (by decide) (hts _ (inA q202)) (fun _ h9 => h9) rfl dX0_swap_25 ?_
        refine lv_iload_n hx hb dX0_swap_28 rfl (lv_at hl 2 rfl) ?_
        refine lv_iload_n hx hb dX0_swap_29 rfl (lv_at hl 3 rfl) ?_
        obtain ⟨b5, hM⟩ := gd_use hM
        refine va_iast hx hb hK hP hD hS 1 0 rfl rfl b5 dX0_swap_30 (fun H locs hP hD hS => ?_)
        have hP : va_P D vwCl (wB cI h a n (o_this.1, upd o_this.2 a1.toNatClampNeg a2)) H := hP
        have hD : va_D A (wB cI h a n (o_this.1, upd o_this.2 a1.toNatClampNeg a2)) := hD
        refine lv_iload_n hx hb dX0_swap_31 rfl (lv_at hl 0 rfl) ?_
        cases hM
        exact rt_i hx hb hr hlk hP hD hS rfl dX0_swap_32
end
section
theorem dX1_forget_0 : decode cX1_forget 0 = .ok (.bipush 41, 2) := by decide +kernel
theorem dX1_forget_2 : decode cX1_forget 2 = .ok (.istore_n 1, 1) := by decide +kernel
theorem dX1_forget_3 : decode cX1_forget 3 = .ok (.iload_n 1, 1) := by decide +kernel
theorem dX1_forget_4 : decode cX1_forget 4 = .ok (.aload_n 0, 1) := by decide +kernel
theorem dX1_forget_5 : decode cX1_forget 5 = .ok (.getfield 59, 3) := by decide +kernel
theorem dX1_forget_8 : decode cX1_forget 8 = .ok (.if_icmp .ge 41, 3) := by decide +kernel
theorem dX1_forget_11 : decode cX1_forget 11 = .ok (.iload_n 1, 1) := by decide +kernel
theorem dX1_forget_12 : decode cX1_forget 12 = .ok (.sipush 4137, 3) := by decide +kernel
theorem dX1_forget_15 : decode cX1_forget 15 = .ok (.if_icmp .ge 34, 3) := by decide +kernel
theorem dX1_forget_18 : decode cX1_forget 18 = .ok (.aload_n 0, 1) := by decide +kernel
theorem dX1_forget_19 : decode cX1_forget 19 = .ok (.getfield 20, 3) := by decide +kernel
theorem dX1_forget_22 : decode cX1_forget 22 = .ok (.iload_n 1, 1) := by decide +kernel
theorem dX1_forget_23 : decode cX1_forget 23 = .ok (.iaload, 1) := by decide +kernel
theorem dX1_forget_24 : decode cX1_forget 24 = .ok (.istore_n 2, 1) := by decide +kernel
theorem dX1_forget_25 : decode cX1_forget 25 = .ok (.iload_n 2, 1) := by decide +kernel
theorem dX1_forget_26 : decode cX1_forget 26 = .ok (.ifCond .lt 17, 3) := by decide +kernel
theorem dX1_forget_29 : decode cX1_forget 29 = .ok (.iload_n 2, 1) := by decide +kernel
theorem dX1_forget_30 : decode cX1_forget 30 = .ok (.sipush 8192, 3) := by decide +kernel
theorem dX1_forget_33 : decode cX1_forget 33 = .ok (.if_icmp .ge 10, 3) := by decide +kernel
theorem dX1_forget_36 : decode cX1_forget 36 = .ok (.aload_n 0, 1) := by decide +kernel
theorem dX1_forget_37 : decode cX1_forget 37 = .ok (.getfield 23, 3) := by decide +kernel
theorem dX1_forget_40 : decode cX1_forget 40 = .ok (.iload_n 2, 1) := by decide +kernel
theorem dX1_forget_41 : decode cX1_forget 41 = .ok (.iconst 0, 1) := by decide +kernel
theorem dX1_forget_42 : decode cX1_forget 42 = .ok (.iastore, 1) := by decide +kernel
theorem dX1_forget_43 : decode cX1_forget 43 = .ok (.iinc 1 1, 3) := by decide +kernel
theorem dX1_forget_46 : decode cX1_forget 46 = .ok (.goto (-43), 3) := by decide +kernel
theorem dX1_forget_49 : decode cX1_forget 49 = .ok (.aload_n 0, 1) := by decide +kernel
theorem dX1_forget_50 : decode cX1_forget 50 = .ok (.bipush 41, 2) := by decide +kernel
theorem dX1_forget_52 : decode cX1_forget 52 = .ok (.putfield 59, 3) := by decide +kernel
theorem dX1_forget_55 : decode cX1_forget 55 = .ok (.aload_n 0, 1) := by decide +kernel
theorem dX1_forget_56 : decode cX1_forget 56 = .ok (.aload_n 0, 1) := by decide +kernel
theorem dX1_forget_57 : decode cX1_forget 57 = .ok (.getfield 17, 3) := by decide +kernel
theorem dX1_forget_60 : decode cX1_forget 60 = .ok (.bipush 41, 2) := by decide +kernel
theorem dX1_forget_62 : decode cX1_forget 62 = .ok (.iaload, 1) := by decide +kernel
theorem dX1_forget_63 : decode cX1_forget 63 = .ok (.putfield 63, 3) := by decide +kernel
theorem dX1_forget_66 : decode cX1_forget 66 = .ok (.return_, 1) := by decide +kernel

theorem dX1_addLetter_0 : decode cX1_addLetter 0 = .ok (.aload_n 0, 1) := by decide +kernel
theorem dX1_addLetter_1 : decode cX1_addLetter 1 = .ok (.getfield 63, 3) := by decide +kernel
theorem dX1_addLetter_4 : decode cX1_addLetter 4 = .ok (.ifCond .lt 38, 3) := by decide +kernel
theorem dX1_addLetter_7 : decode cX1_addLetter 7 = .ok (.aload_n 0, 1) := by decide +kernel
theorem dX1_addLetter_8 : decode cX1_addLetter 8 = .ok (.getfield 63, 3) := by decide +kernel
theorem dX1_addLetter_11 : decode cX1_addLetter 11 = .ok (.aload_n 0, 1) := by decide +kernel
theorem dX1_addLetter_12 : decode cX1_addLetter 12 = .ok (.getfield 11, 3) := by decide +kernel
theorem dX1_addLetter_15 : decode cX1_addLetter 15 = .ok (.arraylength, 1) := by decide +kernel
theorem dX1_addLetter_16 : decode cX1_addLetter 16 = .ok (.if_icmp .ge 26, 3) := by decide +kernel
theorem dX1_addLetter_19 : decode cX1_addLetter 19 = .ok (.aload_n 0, 1) := by decide +kernel
theorem dX1_addLetter_20 : decode cX1_addLetter 20 = .ok (.getfield 11, 3) := by decide +kernel
theorem dX1_addLetter_23 : decode cX1_addLetter 23 = .ok (.aload_n 0, 1) := by decide +kernel
theorem dX1_addLetter_24 : decode cX1_addLetter 24 = .ok (.getfield 63, 3) := by decide +kernel
theorem dX1_addLetter_27 : decode cX1_addLetter 27 = .ok (.iload_n 1, 1) := by decide +kernel
theorem dX1_addLetter_28 : decode cX1_addLetter 28 = .ok (.invokestatic 66, 3) := by decide +kernel
theorem dX1_addLetter_31 : decode cX1_addLetter 31 = .ok (.iastore, 1) := by decide +kernel
theorem dX1_addLetter_32 : decode cX1_addLetter 32 = .ok (.aload_n 0, 1) := by decide +kernel
theorem dX1_addLetter_33 : decode cX1_addLetter 33 = .ok (.dup, 1) := by decide +kernel
theorem dX1_addLetter_34 : decode cX1_addLetter 34 = .ok (.getfield 63, 3) := by decide +kernel
theorem dX1_addLetter_37 : decode cX1_addLetter 37 = .ok (.iconst 1, 1) := by decide +kernel
theorem dX1_addLetter_38 : decode cX1_addLetter 38 = .ok (.iadd, 1) := by decide +kernel
theorem dX1_addLetter_39 : decode cX1_addLetter 39 = .ok (.putfield 63, 3) := by decide +kernel
theorem dX1_addLetter_42 : decode cX1_addLetter 42 = .ok (.return_, 1) := by decide +kernel

theorem dX1_startOf_0 : decode cX1_startOf 0 = .ok (.iload_n 1, 1) := by decide +kernel
theorem dX1_startOf_1 : decode cX1_startOf 1 = .ok (.ifCond .lt 19, 3) := by decide +kernel
theorem dX1_startOf_4 : decode cX1_startOf 4 = .ok (.iload_n 1, 1) := by decide +kernel
theorem dX1_startOf_5 : decode cX1_startOf 5 = .ok (.sipush 4137, 3) := by decide +kernel
theorem dX1_startOf_8 : decode cX1_startOf 8 = .ok (.if_icmp .gt 12, 3) := by decide +kernel
theorem dX1_startOf_11 : decode cX1_startOf 11 = .ok (.aload_n 0, 1) := by decide +kernel
theorem dX1_startOf_12 : decode cX1_startOf 12 = .ok (.getfield 17, 3) := by decide +kernel
theorem dX1_startOf_15 : decode cX1_startOf 15 = .ok (.iload_n 1, 1) := by decide +kernel
theorem dX1_startOf_16 : decode cX1_startOf 16 = .ok (.iaload, 1) := by decide +kernel
theorem dX1_startOf_17 : decode cX1_startOf 17 = .ok (.goto 4, 3) := by decide +kernel
theorem dX1_startOf_20 : decode cX1_startOf 20 = .ok (.iconst 0, 1) := by decide +kernel
theorem dX1_startOf_21 : decode cX1_startOf 21 = .ok (.ireturn, 1) := by decide +kernel

theorem dX1_firstSlot_0 : decode cX1_firstSlot 0 = .ok (.iconst 0, 1) := by decide +kernel
theorem dX1_firstSlot_1 : decode cX1_firstSlot 1 = .ok (.istore_n 1, 1) := by decide +kernel
theorem dX1_firstSlot_2 : decode cX1_firstSlot 2 = .ok (.aload_n 0, 1) := by decide +kernel
theorem dX1_firstSlot_3 : decode cX1_firstSlot 3 = .ok (.aload_n 0, 1) := by decide +kernel
theorem dX1_firstSlot_4 : decode cX1_firstSlot 4 = .ok (.getfield 59, 3) := by decide +kernel
theorem dX1_firstSlot_7 : decode cX1_firstSlot 7 = .ok (.invokevirtual 80, 3) := by decide +kernel
theorem dX1_firstSlot_10 : decode cX1_firstSlot 10 = .ok (.istore_n 2, 1) := by decide +kernel
theorem dX1_firstSlot_11 : decode cX1_firstSlot 11 = .ok (.iload_n 2, 1) := by decide +kernel
theorem dX1_firstSlot_12 : decode cX1_firstSlot 12 = .ok (.aload_n 0, 1) := by decide +kernel
theorem dX1_firstSlot_13 : decode cX1_firstSlot 13 = .ok (.getfield 63, 3) := by decide +kernel
theorem dX1_firstSlot_16 : decode cX1_firstSlot 16 = .ok (.if_icmp .ge 30, 3) := by decide +kernel
theorem dX1_firstSlot_19 : decode cX1_firstSlot 19 = .ok (.iload_n 2, 1) := by decide +kernel
theorem dX1_firstSlot_20 : decode cX1_firstSlot 20 = .ok (.aload_n 0, 1) := by decide +kernel
theorem dX1_firstSlot_21 : decode cX1_firstSlot 21 = .ok (.getfield 11, 3) := by decide +kernel
theorem dX1_firstSlot_24 : decode cX1_firstSlot 24 = .ok (.arraylength, 1) := by decide +kernel
theorem dX1_firstSlot_25 : decode cX1_firstSlot 25 = .ok (.if_icmp .ge 21, 3) := by decide +kernel
theorem dX1_firstSlot_28 : decode cX1_firstSlot 28 = .ok (.bipush 31, 2) := by decide +kernel
theorem dX1_firstSlot_30 : decode cX1_firstSlot 30 = .ok (.iload_n 1, 1) := by decide +kernel
theorem dX1_firstSlot_31 : decode cX1_firstSlot 31 = .ok (.imul, 1) := by decide +kernel
theorem dX1_firstSlot_32 : decode cX1_firstSlot 32 = .ok (.aload_n 0, 1) := by decide +kernel
theorem dX1_firstSlot_33 : decode cX1_firstSlot 33 = .ok (.getfield 11, 3) := by decide +kernel
theorem dX1_firstSlot_36 : decode cX1_firstSlot 36 = .ok (.iload_n 2, 1) := by decide +kernel
theorem dX1_firstSlot_37 : decode cX1_firstSlot 37 = .ok (.iaload, 1) := by decide +kernel
theorem dX1_firstSlot_38 : decode cX1_firstSlot 38 = .ok (.iadd, 1) := by decide +kernel
theorem dX1_firstSlot_39 : decode cX1_firstSlot 39 = .ok (.istore_n 1, 1) := by decide +kernel
theorem dX1_firstSlot_40 : decode cX1_firstSlot 40 = .ok (.iinc 2 1, 3) := by decide +kernel
theorem dX1_firstSlot_43 : decode cX1_firstSlot 43 = .ok (.goto (-32), 3) := by decide +kernel
theorem dX1_firstSlot_46 : decode cX1_firstSlot 46 = .ok (.iload_n 1, 1) := by decide +kernel
theorem dX1_firstSlot_47 : decode cX1_firstSlot 47 = .ok (.sipush 8191, 3) := by decide +kernel
theorem dX1_firstSlot_50 : decode cX1_firstSlot 50 = .ok (.iand, 1) := by decide +kernel
theorem dX1_firstSlot_51 : decode cX1_firstSlot 51 = .ok (.ireturn, 1) := by decide +kernel

theorem dX1_isAddedLast_0 : decode cX1_isAddedLast 0 = .ok (.aload_n 0, 1) := by decide +kernel
theorem dX1_isAddedLast_1 : decode cX1_isAddedLast 1 = .ok (.iload_n 1, 1) := by decide +kernel
theorem dX1_isAddedLast_2 : decode cX1_isAddedLast 2 = .ok (.invokevirtual 80, 3) := by decide +kernel
theorem dX1_isAddedLast_5 : decode cX1_isAddedLast 5 = .ok (.istore_n 2, 1) := by decide +kernel
theorem dX1_isAddedLast_6 : decode cX1_isAddedLast 6 = .ok (.aload_n 0, 1) := by decide +kernel
theorem dX1_isAddedLast_7 : decode cX1_isAddedLast 7 = .ok (.aload_n 0, 1) := by decide +kernel
theorem dX1_isAddedLast_8 : decode cX1_isAddedLast 8 = .ok (.getfield 59, 3) := by decide +kernel
theorem dX1_isAddedLast_11 : decode cX1_isAddedLast 11 = .ok (.invokevirtual 80, 3) := by decide +kernel
theorem dX1_isAddedLast_14 : decode cX1_isAddedLast 14 = .ok (.istore_n 3, 1) := by decide +kernel
theorem dX1_isAddedLast_15 : decode cX1_isAddedLast 15 = .ok (.aload_n 0, 1) := by decide +kernel
theorem dX1_isAddedLast_16 : decode cX1_isAddedLast 16 = .ok (.getfield 63, 3) := by decide +kernel
theorem dX1_isAddedLast_19 : decode cX1_isAddedLast 19 = .ok (.iload_n 3, 1) := by decide +kernel
theorem dX1_isAddedLast_20 : decode cX1_isAddedLast 20 = .ok (.isub, 1) := by decide +kernel
theorem dX1_isAddedLast_21 : decode cX1_isAddedLast 21 = .ok (.istore 4, 2) := by decide +kernel
theorem dX1_isAddedLast_23 : decode cX1_isAddedLast 23 = .ok (.aload_n 0, 1) := by decide +kernel
theorem dX1_isAddedLast_24 : decode cX1_isAddedLast 24 = .ok (.iload_n 1, 1) := by decide +kernel
theorem dX1_isAddedLast_25 : decode cX1_isAddedLast 25 = .ok (.iconst 1, 1) := by decide +kernel
theorem dX1_isAddedLast_26 : decode cX1_isAddedLast 26 = .ok (.iadd, 1) := by decide +kernel
theorem dX1_isAddedLast_27 : decode cX1_isAddedLast 27 = .ok (.invokevirtual 80, 3) := by decide +kernel
theorem dX1_isAddedLast_30 : decode cX1_isAddedLast 30 = .ok (.iload_n 2, 1) := by decide +kernel
theorem dX1_isAddedLast_31 : decode cX1_isAddedLast 31 = .ok (.isub, 1) := by decide +kernel
theorem dX1_isAddedLast_32 : decode cX1_isAddedLast 32 = .ok (.iload 4, 2) := by decide +kernel
theorem dX1_isAddedLast_34 : decode cX1_isAddedLast 34 = .ok (.if_icmp .ne 27, 3) := by decide +kernel
theorem dX1_isAddedLast_37 : decode cX1_isAddedLast 37 = .ok (.iload_n 2, 1) := by decide +kernel
theorem dX1_isAddedLast_38 : decode cX1_isAddedLast 38 = .ok (.iload 4, 2) := by decide +kernel
theorem dX1_isAddedLast_40 : decode cX1_isAddedLast 40 = .ok (.iadd, 1) := by decide +kernel
theorem dX1_isAddedLast_41 : decode cX1_isAddedLast 41 = .ok (.aload_n 0, 1) := by decide +kernel
theorem dX1_isAddedLast_42 : decode cX1_isAddedLast 42 = .ok (.getfield 11, 3) := by decide +kernel
theorem dX1_isAddedLast_45 : decode cX1_isAddedLast 45 = .ok (.arraylength, 1) := by decide +kernel
theorem dX1_isAddedLast_46 : decode cX1_isAddedLast 46 = .ok (.if_icmp .gt 15, 3) := by decide +kernel
theorem dX1_isAddedLast_49 : decode cX1_isAddedLast 49 = .ok (.aload_n 0, 1) := by decide +kernel
theorem dX1_isAddedLast_50 : decode cX1_isAddedLast 50 = .ok (.getfield 63, 3) := by decide +kernel
theorem dX1_isAddedLast_53 : decode cX1_isAddedLast 53 = .ok (.aload_n 0, 1) := by decide +kernel
theorem dX1_isAddedLast_54 : decode cX1_isAddedLast 54 = .ok (.getfield 11, 3) := by decide +kernel
theorem dX1_isAddedLast_57 : decode cX1_isAddedLast 57 = .ok (.arraylength, 1) := by decide +kernel
theorem dX1_isAddedLast_58 : decode cX1_isAddedLast 58 = .ok (.if_icmp .le 5, 3) := by decide +kernel
theorem dX1_isAddedLast_61 : decode cX1_isAddedLast 61 = .ok (.iconst 0, 1) := by decide +kernel
theorem dX1_isAddedLast_62 : decode cX1_isAddedLast 62 = .ok (.ireturn, 1) := by decide +kernel
theorem dX1_isAddedLast_63 : decode cX1_isAddedLast 63 = .ok (.iconst 0, 1) := by decide +kernel
theorem dX1_isAddedLast_64 : decode cX1_isAddedLast 64 = .ok (.istore 5, 2) := by decide +kernel
theorem dX1_isAddedLast_66 : decode cX1_isAddedLast 66 = .ok (.iload 5, 2) := by decide +kernel
theorem dX1_isAddedLast_68 : decode cX1_isAddedLast 68 = .ok (.iload 4, 2) := by decide +kernel
theorem dX1_isAddedLast_70 : decode cX1_isAddedLast 70 = .ok (.if_icmp .ge 32, 3) := by decide +kernel
theorem dX1_isAddedLast_73 : decode cX1_isAddedLast 73 = .ok (.aload_n 0, 1) := by decide +kernel
theorem dX1_isAddedLast_74 : decode cX1_isAddedLast 74 = .ok (.getfield 11, 3) := by decide +kernel
theorem dX1_isAddedLast_77 : decode cX1_isAddedLast 77 = .ok (.iload_n 2, 1) := by decide +kernel
theorem dX1_isAddedLast_78 : decode cX1_isAddedLast 78 = .ok (.iload 5, 2) := by decide +kernel
theorem dX1_isAddedLast_80 : decode cX1_isAddedLast 80 = .ok (.iadd, 1) := by decide +kernel
theorem dX1_isAddedLast_81 : decode cX1_isAddedLast 81 = .ok (.iaload, 1) := by decide +kernel
theorem dX1_isAddedLast_82 : decode cX1_isAddedLast 82 = .ok (.aload_n 0, 1) := by decide +kernel
theorem dX1_isAddedLast_83 : decode cX1_isAddedLast 83 = .ok (.getfield 11, 3) := by decide +kernel
theorem dX1_isAddedLast_86 : decode cX1_isAddedLast 86 = .ok (.iload_n 3, 1) := by decide +kernel
theorem dX1_isAddedLast_87 : decode cX1_isAddedLast 87 = .ok (.iload 5, 2) := by decide +kernel
theorem dX1_isAddedLast_89 : decode cX1_isAddedLast 89 = .ok (.iadd, 1) := by decide +kernel
theorem dX1_isAddedLast_90 : decode cX1_isAddedLast 90 = .ok (.iaload, 1) := by decide +kernel
theorem dX1_isAddedLast_91 : decode cX1_isAddedLast 91 = .ok (.if_icmp .eq 5, 3) := by decide +kernel
theorem dX1_isAddedLast_94 : decode cX1_isAddedLast 94 = .ok (.iconst 0, 1) := by decide +kernel
theorem dX1_isAddedLast_95 : decode cX1_isAddedLast 95 = .ok (.ireturn, 1) := by decide +kernel
theorem dX1_isAddedLast_96 : decode cX1_isAddedLast 96 = .ok (.iinc 5 1, 3) := by decide +kernel
theorem dX1_isAddedLast_99 : decode cX1_isAddedLast 99 = .ok (.goto (-33), 3) := by decide +kernel
theorem dX1_isAddedLast_102 : decode cX1_isAddedLast 102 = .ok (.iconst 1, 1) := by decide +kernel
theorem dX1_isAddedLast_103 : decode cX1_isAddedLast 103 = .ok (.ireturn, 1) := by decide +kernel

theorem dX1_keep_0 : decode cX1_keep 0 = .ok (.aload_n 0, 1) := by decide +kernel
theorem dX1_keep_1 : decode cX1_keep 1 = .ok (.getfield 59, 3) := by decide +kernel
theorem dX1_keep_4 : decode cX1_keep 4 = .ok (.ifCond .lt 24, 3) := by decide +kernel
theorem dX1_keep_7 : decode cX1_keep 7 = .ok (.aload_n 0, 1) := by decide +kernel
theorem dX1_keep_8 : decode cX1_keep 8 = .ok (.getfield 59, 3) := by decide +kernel
theorem dX1_keep_11 : decode cX1_keep 11 = .ok (.sipush 4137, 3) := by decide +kernel
theorem dX1_keep_14 : decode cX1_keep 14 = .ok (.if_icmp .ge 14, 3) := by decide +kernel
theorem dX1_keep_17 : decode cX1_keep 17 = .ok (.iload_n 1, 1) := by decide +kernel
theorem dX1_keep_18 : decode cX1_keep 18 = .ok (.ifCond .lt 10, 3) := by decide +kernel
theorem dX1_keep_21 : decode cX1_keep 21 = .ok (.iload_n 1, 1) := by decide +kernel
theorem dX1_keep_22 : decode cX1_keep 22 = .ok (.sipush 8192, 3) := by decide +kernel
theorem dX1_keep_25 : decode cX1_keep 25 = .ok (.if_icmp .lt 5, 3) := by decide +kernel
theorem dX1_keep_28 : decode cX1_keep 28 = .ok (.iconst (-1), 1) := by decide +kernel
theorem dX1_keep_29 : decode cX1_keep 29 = .ok (.ireturn, 1) := by decide +kernel
theorem dX1_keep_30 : decode cX1_keep 30 = .ok (.aload_n 0, 1) := by decide +kernel
theorem dX1_keep_31 : decode cX1_keep 31 = .ok (.getfield 59, 3) := by decide +kernel
theorem dX1_keep_34 : decode cX1_keep 34 = .ok (.istore_n 2, 1) := by decide +kernel
theorem dX1_keep_35 : decode cX1_keep 35 = .ok (.aload_n 0, 1) := by decide +kernel
theorem dX1_keep_36 : decode cX1_keep 36 = .ok (.getfield 23, 3) := by decide +kernel
theorem dX1_keep_39 : decode cX1_keep 39 = .ok (.iload_n 1, 1) := by decide +kernel
theorem dX1_keep_40 : decode cX1_keep 40 = .ok (.iload_n 2, 1) := by decide +kernel
theorem dX1_keep_41 : decode cX1_keep 41 = .ok (.iconst 1, 1) := by decide +kernel
theorem dX1_keep_42 : decode cX1_keep 42 = .ok (.iadd, 1) := by decide +kernel
theorem dX1_keep_43 : decode cX1_keep 43 = .ok (.iastore, 1) := by decide +kernel
theorem dX1_keep_44 : decode cX1_keep 44 = .ok (.aload_n 0, 1) := by decide +kernel
theorem dX1_keep_45 : decode cX1_keep 45 = .ok (.getfield 20, 3) := by decide +kernel
theorem dX1_keep_48 : decode cX1_keep 48 = .ok (.iload_n 2, 1) := by decide +kernel
theorem dX1_keep_49 : decode cX1_keep 49 = .ok (.iload_n 1, 1) := by decide +kernel
theorem dX1_keep_50 : decode cX1_keep 50 = .ok (.iastore, 1) := by decide +kernel
theorem dX1_keep_51 : decode cX1_keep 51 = .ok (.aload_n 0, 1) := by decide +kernel
theorem dX1_keep_52 : decode cX1_keep 52 = .ok (.dup, 1) := by decide +kernel
theorem dX1_keep_53 : decode cX1_keep 53 = .ok (.getfield 59, 3) := by decide +kernel
theorem dX1_keep_56 : decode cX1_keep 56 = .ok (.iconst 1, 1) := by decide +kernel
theorem dX1_keep_57 : decode cX1_keep 57 = .ok (.iadd, 1) := by decide +kernel
theorem dX1_keep_58 : decode cX1_keep 58 = .ok (.putfield 59, 3) := by decide +kernel
theorem dX1_keep_61 : decode cX1_keep 61 = .ok (.aload_n 0, 1) := by decide +kernel
theorem dX1_keep_62 : decode cX1_keep 62 = .ok (.getfield 17, 3) := by decide +kernel
theorem dX1_keep_65 : decode cX1_keep 65 = .ok (.aload_n 0, 1) := by decide +kernel
theorem dX1_keep_66 : decode cX1_keep 66 = .ok (.getfield 59, 3) := by decide +kernel
theorem dX1_keep_69 : decode cX1_keep 69 = .ok (.aload_n 0, 1) := by decide +kernel
theorem dX1_keep_70 : decode cX1_keep 70 = .ok (.getfield 63, 3) := by decide +kernel
theorem dX1_keep_73 : decode cX1_keep 73 = .ok (.iastore, 1) := by decide +kernel
theorem dX1_keep_74 : decode cX1_keep 74 = .ok (.iload_n 2, 1) := by decide +kernel
theorem dX1_keep_75 : decode cX1_keep 75 = .ok (.ireturn, 1) := by decide +kernel

theorem dX1_number_0 : decode cX1_number 0 = .ok (.aload_n 0, 1) := by decide +kernel
theorem dX1_number_1 : decode cX1_number 1 = .ok (.invokevirtual 70, 3) := by decide +kernel
theorem dX1_number_4 : decode cX1_number 4 = .ok (.istore_n 1, 1) := by decide +kernel
theorem dX1_number_5 : decode cX1_number 5 = .ok (.iconst 0, 1) := by decide +kernel
theorem dX1_number_6 : decode cX1_number 6 = .ok (.istore_n 2, 1) := by decide +kernel
theorem dX1_number_7 : decode cX1_number 7 = .ok (.iload_n 2, 1) := by decide +kernel
theorem dX1_number_8 : decode cX1_number 8 = .ok (.sipush 8192, 3) := by decide +kernel
theorem dX1_number_11 : decode cX1_number 11 = .ok (.if_icmp .ge 69, 3) := by decide +kernel
theorem dX1_number_14 : decode cX1_number 14 = .ok (.iload_n 1, 1) := by decide +kernel
theorem dX1_number_15 : decode cX1_number 15 = .ok (.ifCond .lt 65, 3) := by decide +kernel
theorem dX1_number_18 : decode cX1_number 18 = .ok (.iload_n 1, 1) := by decide +kernel
theorem dX1_number_19 : decode cX1_number 19 = .ok (.sipush 8192, 3) := by decide +kernel
theorem dX1_number_22 : decode cX1_number 22 = .ok (.if_icmp .ge 58, 3) := by decide +kernel
theorem dX1_number_25 : decode cX1_number 25 = .ok (.aload_n 0, 1) := by decide +kernel
theorem dX1_number_26 : decode cX1_number 26 = .ok (.getfield 23, 3) := by decide +kernel
theorem dX1_number_29 : decode cX1_number 29 = .ok (.iload_n 1, 1) := by decide +kernel
theorem dX1_number_30 : decode cX1_number 30 = .ok (.iaload, 1) := by decide +kernel
theorem dX1_number_31 : decode cX1_number 31 = .ok (.iconst 1, 1) := by decide +kernel
theorem dX1_number_32 : decode cX1_number 32 = .ok (.isub, 1) := by decide +kernel
theorem dX1_number_33 : decode cX1_number 33 = .ok (.istore_n 3, 1) := by decide +kernel
theorem dX1_number_34 : decode cX1_number 34 = .ok (.iload_n 3, 1) := by decide +kernel
theorem dX1_number_35 : decode cX1_number 35 = .ok (.ifCond .ge 9, 3) := by decide +kernel
theorem dX1_number_38 : decode cX1_number 38 = .ok (.aload_n 0, 1) := by decide +kernel
theorem dX1_number_39 : decode cX1_number 39 = .ok (.iload_n 1, 1) := by decide +kernel
theorem dX1_number_40 : decode cX1_number 40 = .ok (.invokevirtual 73, 3) := by decide +kernel
theorem dX1_number_43 : decode cX1_number 43 = .ok (.ireturn, 1) := by decide +kernel
theorem dX1_number_44 : decode cX1_number 44 = .ok (.aload_n 0, 1) := by decide +kernel
theorem dX1_number_45 : decode cX1_number 45 = .ok (.iload_n 3, 1) := by decide +kernel
theorem dX1_number_46 : decode cX1_number 46 = .ok (.invokevirtual 76, 3) := by decide +kernel
theorem dX1_number_49 : decode cX1_number 49 = .ok (.ifCond .eq 17, 3) := by decide +kernel
theorem dX1_number_52 : decode cX1_number 52 = .ok (.aload_n 0, 1) := by decide +kernel
theorem dX1_number_53 : decode cX1_number 53 = .ok (.aload_n 0, 1) := by decide +kernel
theorem dX1_number_54 : decode cX1_number 54 = .ok (.aload_n 0, 1) := by decide +kernel
theorem dX1_number_55 : decode cX1_number 55 = .ok (.getfield 59, 3) := by decide +kernel
theorem dX1_number_58 : decode cX1_number 58 = .ok (.invokevirtual 80, 3) := by decide +kernel
theorem dX1_number_61 : decode cX1_number 61 = .ok (.putfield 63, 3) := by decide +kernel
theorem dX1_number_64 : decode cX1_number 64 = .ok (.iload_n 3, 1) := by decide +kernel
theorem dX1_number_65 : decode cX1_number 65 = .ok (.ireturn, 1) := by decide +kernel
theorem dX1_number_66 : decode cX1_number 66 = .ok (.iload_n 1, 1) := by decide +kernel
theorem dX1_number_67 : decode cX1_number 67 = .ok (.iconst 1, 1) := by decide +kernel
theorem dX1_number_68 : decode cX1_number 68 = .ok (.iadd, 1) := by decide +kernel
theorem dX1_number_69 : decode cX1_number 69 = .ok (.sipush 8191, 3) := by decide +kernel
theorem dX1_number_72 : decode cX1_number 72 = .ok (.iand, 1) := by decide +kernel
theorem dX1_number_73 : decode cX1_number 73 = .ok (.istore_n 1, 1) := by decide +kernel
theorem dX1_number_74 : decode cX1_number 74 = .ok (.iinc 2 1, 3) := by decide +kernel
theorem dX1_number_77 : decode cX1_number 77 = .ok (.goto (-70), 3) := by decide +kernel
theorem dX1_number_80 : decode cX1_number 80 = .ok (.iconst (-1), 1) := by decide +kernel
theorem dX1_number_81 : decode cX1_number 81 = .ok (.ireturn, 1) := by decide +kernel

theorem dX1_letterOf_0 : decode cX1_letterOf 0 = .ok (.iload_n 1, 1) := by decide +kernel
theorem dX1_letterOf_1 : decode cX1_letterOf 1 = .ok (.ifCond .lt 41, 3) := by decide +kernel
theorem dX1_letterOf_4 : decode cX1_letterOf 4 = .ok (.iload_n 1, 1) := by decide +kernel
theorem dX1_letterOf_5 : decode cX1_letterOf 5 = .ok (.aload_n 0, 1) := by decide +kernel
theorem dX1_letterOf_6 : decode cX1_letterOf 6 = .ok (.getfield 59, 3) := by decide +kernel
theorem dX1_letterOf_9 : decode cX1_letterOf 9 = .ok (.if_icmp .ge 33, 3) := by decide +kernel
theorem dX1_letterOf_12 : decode cX1_letterOf 12 = .ok (.iload_n 1, 1) := by decide +kernel
theorem dX1_letterOf_13 : decode cX1_letterOf 13 = .ok (.sipush 4137, 3) := by decide +kernel
theorem dX1_letterOf_16 : decode cX1_letterOf 16 = .ok (.if_icmp .ge 26, 3) := by decide +kernel
theorem dX1_letterOf_19 : decode cX1_letterOf 19 = .ok (.iload_n 2, 1) := by decide +kernel
theorem dX1_letterOf_20 : decode cX1_letterOf 20 = .ok (.ifCond .lt 22, 3) := by decide +kernel
theorem dX1_letterOf_23 : decode cX1_letterOf 23 = .ok (.iload_n 2, 1) := by decide +kernel
theorem dX1_letterOf_24 : decode cX1_letterOf 24 = .ok (.aload_n 0, 1) := by decide +kernel
theorem dX1_letterOf_25 : decode cX1_letterOf 25 = .ok (.getfield 17, 3) := by decide +kernel
theorem dX1_letterOf_28 : decode cX1_letterOf 28 = .ok (.iload_n 1, 1) := by decide +kernel
theorem dX1_letterOf_29 : decode cX1_letterOf 29 = .ok (.iconst 1, 1) := by decide +kernel
theorem dX1_letterOf_30 : decode cX1_letterOf 30 = .ok (.iadd, 1) := by decide +kernel
theorem dX1_letterOf_31 : decode cX1_letterOf 31 = .ok (.iaload, 1) := by decide +kernel
theorem dX1_letterOf_32 : decode cX1_letterOf 32 = .ok (.aload_n 0, 1) := by decide +kernel
theorem dX1_letterOf_33 : decode cX1_letterOf 33 = .ok (.getfield 17, 3) := by decide +kernel
theorem dX1_letterOf_36 : decode cX1_letterOf 36 = .ok (.iload_n 1, 1) := by decide +kernel
theorem dX1_letterOf_37 : decode cX1_letterOf 37 = .ok (.iaload, 1) := by decide +kernel
theorem dX1_letterOf_38 : decode cX1_letterOf 38 = .ok (.isub, 1) := by decide +kernel
theorem dX1_letterOf_39 : decode cX1_letterOf 39 = .ok (.if_icmp .lt 5, 3) := by decide +kernel
theorem dX1_letterOf_42 : decode cX1_letterOf 42 = .ok (.iconst (-1), 1) := by decide +kernel
theorem dX1_letterOf_43 : decode cX1_letterOf 43 = .ok (.ireturn, 1) := by decide +kernel
theorem dX1_letterOf_44 : decode cX1_letterOf 44 = .ok (.aload_n 0, 1) := by decide +kernel
theorem dX1_letterOf_45 : decode cX1_letterOf 45 = .ok (.getfield 17, 3) := by decide +kernel
theorem dX1_letterOf_48 : decode cX1_letterOf 48 = .ok (.iload_n 1, 1) := by decide +kernel
theorem dX1_letterOf_49 : decode cX1_letterOf 49 = .ok (.iaload, 1) := by decide +kernel
theorem dX1_letterOf_50 : decode cX1_letterOf 50 = .ok (.iload_n 2, 1) := by decide +kernel
theorem dX1_letterOf_51 : decode cX1_letterOf 51 = .ok (.iadd, 1) := by decide +kernel
theorem dX1_letterOf_52 : decode cX1_letterOf 52 = .ok (.istore_n 3, 1) := by decide +kernel
theorem dX1_letterOf_53 : decode cX1_letterOf 53 = .ok (.iload_n 3, 1) := by decide +kernel
theorem dX1_letterOf_54 : decode cX1_letterOf 54 = .ok (.ifCond .lt 21, 3) := by decide +kernel
theorem dX1_letterOf_57 : decode cX1_letterOf 57 = .ok (.iload_n 3, 1) := by decide +kernel
theorem dX1_letterOf_58 : decode cX1_letterOf 58 = .ok (.aload_n 0, 1) := by decide +kernel
theorem dX1_letterOf_59 : decode cX1_letterOf 59 = .ok (.getfield 11, 3) := by decide +kernel
theorem dX1_letterOf_62 : decode cX1_letterOf 62 = .ok (.arraylength, 1) := by decide +kernel
theorem dX1_letterOf_63 : decode cX1_letterOf 63 = .ok (.if_icmp .ge 12, 3) := by decide +kernel
theorem dX1_letterOf_66 : decode cX1_letterOf 66 = .ok (.aload_n 0, 1) := by decide +kernel
theorem dX1_letterOf_67 : decode cX1_letterOf 67 = .ok (.getfield 11, 3) := by decide +kernel
theorem dX1_letterOf_70 : decode cX1_letterOf 70 = .ok (.iload_n 3, 1) := by decide +kernel
theorem dX1_letterOf_71 : decode cX1_letterOf 71 = .ok (.iaload, 1) := by decide +kernel
theorem dX1_letterOf_72 : decode cX1_letterOf 72 = .ok (.goto 4, 3) := by decide +kernel
theorem dX1_letterOf_75 : decode cX1_letterOf 75 = .ok (.iconst (-1), 1) := by decide +kernel
theorem dX1_letterOf_76 : decode cX1_letterOf 76 = .ok (.ireturn, 1) := by decide +kernel
end
section
def f_Names_forget_L3 : Nat → Int32 → S_Names → Option (S_Names)
  | 0, _, _ => none
  | n + 1, v1_L3, o_this_L3 =>
    if o_this_L3.1 ≤ v1_L3 then
      some o_this_L3
    else
      if 4137 ≤ v1_L3 then
        some o_this_L3
      else
        gd v1_L3 4137 <|
        nm (o_this_L3.2.2.2.2.1 v1_L3.toNatClampNeg) fun x4 =>
        if x4 < 0 then
          nm (v1_L3 + 1) fun x6 =>
          f_Names_forget_L3 n x6 o_this_L3
        else
          if 8192 ≤ x4 then
            nm (v1_L3 + 1) fun x8 =>
            f_Names_forget_L3 n x8 o_this_L3
          else
            gd x4 8192 <|
            nm (v1_L3 + 1) fun x10 =>
            f_Names_forget_L3 n x10 (o_this_L3.1, o_this_L3.2.1, o_this_L3.2.2.1, o_this_L3.2.2.2.1, o_this_L3.2.2.2.2.1, upd o_this_L3.2.2.2.2.2 x4.toNatClampNeg 0)
def f_Names_forget (o_this : S_Names) : Option (S_Names) :=
  (f_Names_forget_L3 FU 41 o_this).bind fun r11 =>
  gd 41 4138 <|
  nm (r11.2.2.2.1 (41 : Int32).toNatClampNeg) fun x13 =>
  some (41, x13, r11.2.2)

def f_Names_addLetter (o_this : S_Names) (a1 : Int32) : Option (S_Names) :=
  if o_this.2.1 < 0 then
    some o_this
  else
    if 8704 ≤ o_this.2.1 then
      some o_this
    else
      (f_Top_great a1).bind fun r3 =>
      gd o_this.2.1 8704 <|
      some (o_this.1, o_this.2.1 + 1, upd o_this.2.2.1 o_this.2.1.toNatClampNeg r3, o_this.2.2.2)

def f_Names_startOf (o_this : S_Names) (a1 : Int32) : Option (Int32) :=
  if a1 < 0 then
    some 0
  else
    if 4137 < a1 then
      some 0
    else
      gd a1 4138 <|
      some (o_this.2.2.2.1 a1.toNatClampNeg)

def f_Names_firstSlot_L11 (o_this : S_Names) : Nat → Int32 → Int32 → Option (Int32)
  | 0, _, _ => none
  | n + 1, v2_L11, v1_L11 =>
    if o_this.2.1 ≤ v2_L11 then
      some v1_L11
    else
      if 8704 ≤ v2_L11 then
        some v1_L11
      else
        gd v2_L11 8704 <|
        nm ((31 * v1_L11) + (o_this.2.2.1 v2_L11.toNatClampNeg)) fun x5 =>
        nm (v2_L11 + 1) fun x6 =>
        f_Names_firstSlot_L11 o_this n x6 x5
def f_Names_firstSlot (o_this : S_Names) : Option (Int32) :=
  (f_Names_startOf o_this o_this.1).bind fun r1 =>
  (f_Names_firstSlot_L11 o_this FU r1 0).bind fun r7 =>
  some (r7 &&& 8191)

def f_Names_isAddedLast_L66 (o_this : S_Names) (r1 : Int32) (r2 : Int32) : Nat → Int32 → Option (Int32)
  | 0, _ => none
  | n + 1, v5_L66 =>
    if (o_this.2.1 - r2) ≤ v5_L66 then
      some 1
    else
      gd (r1 + v5_L66) 8704 <|
      gd (r2 + v5_L66) 8704 <|
      if (o_this.2.2.1 (r1 + v5_L66).toNatClampNeg) = (o_this.2.2.1 (r2 + v5_L66).toNatClampNeg) then
        nm (v5_L66 + 1) fun x11 =>
        f_Names_isAddedLast_L66 o_this r1 r2 n x11
      else
        some 0
def f_Names_isAddedLast (o_this : S_Names) (a1 : Int32) : Option (Int32) :=
  (f_Names_startOf o_this a1).bind fun r1 =>
  (f_Names_startOf o_this o_this.1).bind fun r2 =>
  (f_Names_startOf o_this (a1 + 1)).bind fun r3 =>
  if (r3 - r1) = (o_this.2.1 - r2) then
    if 8704 < (r1 + (o_this.2.1 - r2)) then
      some 0
    else
      if o_this.2.1 ≤ 8704 then
        f_Names_isAddedLast_L66 o_this r1 r2 FU 0
      else
        some 0
  else
    some 0

def f_Names_keep (o_this : S_Names) (a1 : Int32) : Option (Int32 × S_Names) :=
  if o_this.1 < 0 then
    some ((-1), o_this)
  else
    if 4137 ≤ o_this.1 then
      some ((-1), o_this)
    else
      if a1 < 0 then
        some ((-1), o_this)
      else
        if a1 < 8192 then
          gd a1 8192 <|
          gd o_this.1 4137 <|
          gd (o_this.1 + 1) 4138 <|
          some (o_this.1, (o_this.1 + 1, o_this.2.1, o_this.2.2.1, upd o_this.2.2.2.1 (o_this.1 + 1).toNatClampNeg o_this.2.1, upd o_this.2.2.2.2.1 o_this.1.toNatClampNeg a1, upd o_this.2.2.2.2.2 a1.toNatClampNeg (o_this.1 + 1)))
        else
          some ((-1), o_this)

def f_Names_number_L7 (o_this : S_Names) : Nat → Int32 → Int32 → Option (Int32 × S_Names)
  | 0, _, _ => none
  | n + 1, v2_L7, v1_L7 =>
    if 8192 ≤ v2_L7 then
      some ((-1), o_this)
    else
      if v1_L7 < 0 then
        some ((-1), o_this)
      else
        if 8192 ≤ v1_L7 then
          some ((-1), o_this)
        else
          gd v1_L7 8192 <|
          nm ((o_this.2.2.2.2.2 v1_L7.toNatClampNeg) - 1) fun x6 =>
          if 0 ≤ x6 then
            (f_Names_isAddedLast o_this x6).bind fun r8 =>
            if r8 = 0 then
              nm (v2_L7 + 1) fun x10 =>
              f_Names_number_L7 o_this n x10 ((v1_L7 + 1) &&& 8191)
            else
              (f_Names_startOf o_this o_this.1).bind fun r11 =>
              some (x6, (o_this.1, r11, o_this.2.2))
          else
            (f_Names_keep o_this v1_L7).bind fun r12 =>
            some (r12.1, r12.2)
def f_Names_number (o_this : S_Names) : Option (Int32 × S_Names) :=
  (f_Names_firstSlot o_this).bind fun r1 =>
  f_Names_number_L7 o_this FU 0 r1

def f_Names_letterOf (o_this : S_Names) (a1 : Int32) (a2 : Int32) : Option (Int32) :=
  if a1 < 0 then
    some (-1)
  else
    if o_this.1 ≤ a1 then
      some (-1)
    else
      if 4137 ≤ a1 then
        some (-1)
      else
        if a2 < 0 then
          some (-1)
        else
          gd (a1 + 1) 4138 <|
          gd a1 4138 <|
          if a2 < ((o_this.2.2.2.1 (a1 + 1).toNatClampNeg) - (o_this.2.2.2.1 a1.toNatClampNeg)) then
            gd a1 4138 <|
            nm ((o_this.2.2.2.1 a1.toNatClampNeg) + a2) fun x9 =>
            if x9 < 0 then
              some (-1)
            else
              if 8704 ≤ x9 then
                some (-1)
              else
                gd x9 8704 <|
                some (o_this.2.2.1 x9.toNatClampNeg)
          else
            some (-1)
end
section
set_option maxHeartbeats 4000000 in
set_option maxRecDepth 100000 in
theorem c_Names_forget (l : Launch) (D : va_G) (cI : ClassId) (sd : Nat → Nat) (ad : Nat → Nat) (o_this : S_Names) (res : S_Names) (hM : f_Names_forget o_this = some res) : Ctr l D cI sd yX1_forget (wsM yX1_forget cX1_forget 3 (Option.none : Option Jvm.ClassFile.FieldType)) { frames := 0, cells := 0, slots := 0, locals := 0 } [.ref (ad 5)] (wN cI ad o_this) (wN cI ad res) none := by
  refine Ctr.of (cc := cX1_forget) (maxL := 3) (own := RX1) (by decide +kernel) rfl rfl (Nat.le_of_ble_eq_true rfl) ?_
  intro p e s m below meth c A ls hx hb hr hml hown hts hlk hK hE hA hP hD hS hl
  have hl : lv_has ls 3 [(0, .ref (ad 5))] := hl
  unfold f_Names_forget at hM
  refine lv_bipush (v := 41) hx hb dX1_forget_0 (by decide) ?_
  refine lv_istore_n (lv' := [(1, .int 41), (0, .ref (ad 5))]) hx hb dX1_forget_2 rfl hl (by decide) rfl (fun ls hl => ?_)
  have lp_L3 : ∀ (n : Nat) (v1_L3 : Int32) (o_this_L3 : S_Names) (out_L3 : S_Names) (H : Heap) (locs : List Loc) (ls : Array Slot), f_Names_forget_L3 n v1_L3 o_this_L3 = some out_L3 → va_P D vwCl (wN cI ad o_this_L3) H → va_D A (wN cI ad o_this_L3) → va_S A s.heap H locs → lv_has ls 3 [(1, .int v1_L3), (0, .ref (ad 5))] → (∀ (H : Heap) (locs : List Loc) (ls : Array Slot), va_P D vwCl (wN cI ad out_L3) H → va_D A (wN cI ad out_L3) → va_S A s.heap H locs → lv_has ls 3 [(0, .ref (ad 5))] → W p l e { frames := 0, cells := 0, slots := 0, locals := 0 } s m [.ref (ad 5)].toArray below meth c H locs 0 0 (MQ below (CQ D A (wN cI ad res) none) [.ref (ad 5)].toArray s 0 0 A) (F0 m 49 ls [])) → W p l e { frames := 0, cells := 0, slots := 0, locals := 0 } s m [.ref (ad 5)].toArray below meth c H locs 0 0 (MQ below (CQ D A (wN cI ad res) none) [.ref (ad 5)].toArray s 0 0 A) (F0 m 3 ls []) := by
    intro n
    induction n with
    | zero => intro v1_L3 o_this_L3 out_L3 H locs ls hM; exact absurd (show none = some _ from hM) (by simp)
    | succ n ih_L3 =>
      intro v1_L3 o_this_L3 out_L3 H locs ls hM hP hD hS hl kx_L3
      rw [f_Names_forget_L3] at hM
      refine lv_iload_n hx hb dX1_forget_3 rfl (lv_at hl 0 rfl) ?_
      refine lv_aload_n hx hb dX1_forget_4 rfl (lv_at hl 1 rfl) ?_
      refine va_get (D := D) (ci := 1) (v := .int o_this_L3.1) (C := RX1) (T := TX1) (N := 6) hx hb hts layX1 hown hK hP 0 rfl rfl 4 (by decide) (hts _ (inA q308)) (fun _ h9 => h9) rfl dX1_forget_5 ?_
      refine lv_icmp_ge (tgt := 49) hx hb dX1_forget_8 (by decide) (fun c1 => ?_) (fun c1 => ?_)
      · replace hM := if_t c1 hM
        cases hM
        exact kx_L3 _ _ _ hP hD hS (lv_sub hl [1] rfl)
      · replace hM := if_f c1 hM
        refine lv_iload_n hx hb dX1_forget_11 rfl (lv_at hl 0 rfl) ?_
        refine lv_sipush (v := 4137) hx hb dX1_forget_12 (by decide) ?_
        refine lv_icmp_ge (tgt := 49) hx hb dX1_forget_15 (by decide) (fun c2 => ?_) (fun c2 => ?_)
        · replace hM := if_t c2 hM
          cases hM
          exact kx_L3 _ _ _ hP hD hS (lv_sub hl [1] rfl)
        · replace hM := if_f c2 hM
          refine lv_aload_n hx hb dX1_forget_18 rfl (lv_at hl 1 rfl) ?_
          refine va_get (D := D) (ci := 1) (v := .ref (ad 8)) (C := RX1) (T := TX1) (N := 6) hx hb hts layX1 hown hK hP 0 rfl rfl 2 (by decide) (hts _ (inA q306)) (fun _ h9 => h9) rfl dX1_forget_19 ?_
          refine lv_iload_n hx hb dX1_forget_22 rfl (lv_at hl 0 rfl) ?_
          obtain ⟨b3, hM⟩ := gd_use hM
          refine va_iald hx hb hK hP 3 0 rfl rfl b3 dX1_forget_23 ?_
          refine lv_topi (fun x4 ex4 => ?_)
          replace hM := nm_use ex4 hM
          refine lv_istore_n (lv' := [(2, .int x4), (1, .int v1_L3), (0, .ref (ad 5))]) hx hb dX1_forget_24 rfl hl (by decide) rfl (fun ls hl => ?_)
          refine lv_iload_n hx hb dX1_forget_25 rfl (lv_at hl 0 rfl) ?_
          refine lv_if_lt (tgt := 43) hx hb dX1_forget_26 (by decide) (fun c5 => ?_) (fun c5 => ?_)
          · replace hM := if_t c5 hM
            obtain ⟨x6, ex6⟩ : ∃ y : Int32, y = v1_L3 + 1 := ⟨_, rfl⟩
            replace hM := nm_use ex6 hM
            refine lv_iinc (v := x6) (lv' := [(1, .int x6), (2, .int x4), (0, .ref (ad 5))]) hx hb dX1_forget_43 hl (k := 1) rfl (by rw [ex6]; rfl) (by decide) rfl (fun ls hl => ?_)
            refine lv_goto (tgt := 3) hx hb dX1_forget_46 (by decide) ?_
            exact ih_L3 x6 o_this_L3 out_L3 _ _ _ hM hP hD hS (lv_sub hl [0, 2] rfl) kx_L3
          · replace hM := if_f c5 hM
            refine lv_iload_n hx hb dX1_forget_29 rfl (lv_at hl 0 rfl) ?_
            refine lv_sipush (v := 8192) hx hb dX1_forget_30 (by decide) ?_
            refine lv_icmp_ge (tgt := 43) hx hb dX1_forget_33 (by decide) (fun c7 => ?_) (fun c7 => ?_)
            · replace hM := if_t c7 hM
              obtain ⟨x8, ex8⟩ : ∃ y : Int32, y = v1_L3 + 1 := ⟨_, rfl⟩
              replace hM := nm_use ex8 hM
              refine lv_iinc (v := x8) (lv' := [(1, .int x8), (2, .int x4), (0, .ref (ad 5))]) hx hb dX1_forget_43 hl (k := 1) rfl (by rw [ex8]; rfl) (by decide) rfl (fun ls hl => ?_)
              refine lv_goto (tgt := 3) hx hb dX1_forget_46 (by decide) ?_
              exact ih_L3 x8 o_this_L3 out_L3 _ _ _ hM hP hD hS (lv_sub hl [0, 2] rfl) kx_L3
            · replace hM := if_f c7 hM
              refine lv_aload_n hx hb dX1_forget_36 rfl (lv_at hl 2 rfl) ?_
              refine va_get (D := D) (ci := 1) (v := .ref (ad 9)) (C := RX1) (T := TX1) (N := 6) hx hb hts layX1 hown hK hP 0 rfl rfl 3 (by decide) (hts _ (inA q307)) (fun _ h9 => h9) rfl dX1_forget_37 ?_
              refine lv_iload_n hx hb dX1_forget_40 rfl (lv_at hl 0 rfl) ?_
              refine lv_iconst (v := 0) hx hb dX1_forget_41 (by decide) ?_
              obtain ⟨b9, hM⟩ := gd_use hM
              refine va_iast hx hb hK hP hD hS 4 0 rfl rfl b9 dX1_forget_42 (fun H locs hP hD hS => ?_)
              have hP : va_P D vwCl (wN cI ad (o_this_L3.1, o_this_L3.2.1, o_this_L3.2.2.1, o_this_L3.2.2.2.1, o_this_L3.2.2.2.2.1, upd o_this_L3.2.2.2.2.2 x4.toNatClampNeg 0)) H := hP
              have hD : va_D A (wN cI ad (o_this_L3.1, o_this_L3.2.1, o_this_L3.2.2.1, o_this_L3.2.2.2.1, o_this_L3.2.2.2.2.1, upd o_this_L3.2.2.2.2.2 x4.toNatClampNeg 0)) := hD
              obtain ⟨x10, ex10⟩ : ∃ y : Int32, y = v1_L3 + 1 := ⟨_, rfl⟩
              replace hM := nm_use ex10 hM
              refine lv_iinc (v := x10) (lv' := [(1, .int x10), (2, .int x4), (0, .ref (ad 5))]) hx hb dX1_forget_43 hl (k := 1) rfl (by rw [ex10]; rfl) (by decide) rfl (fun ls hl => ?_)
              refine lv_goto (tgt := 3) hx hb dX1_forget_46 (by decide) ?_
              exact ih_L3 x10 (o_this_L3.1, o_this_L3.2.1, o_this_L3.2.2.1, o_this_L3.2.2.2.1, o_this_L3.2.2.2.2.1, upd o_this_L3.2.2.2.2.2 x4.toNatClampNeg 0) out_L3 _ _ _ hM hP hD hS (lv_sub hl [0, 2] rfl) kx_L3
  obtain ⟨r11, hcr11, hM⟩ := ob_use hM
  refine lp_L3 FU 41 o_this r11 _ _ _ hcr11 hP hD hS (lv_sub hl [0, 1] rfl) (fun H locs ls hP hD hS hl => ?_)
  refine lv_aload_n hx hb dX1_forget_49 rfl (lv_at hl 0 rfl) ?_
  refine lv_bipush (v := 41) hx hb dX1_forget_50 (by decide) ?_
  refine va_put (D := D) (ci := 1) (v := .int 41) (ty := .int) (C := RX1) (T := TX1) (N := 6) hx hb hts layX1 tyX1 tyX1_ok nmX1 hown hK hP hD hS 0 rfl rfl 4 (by decide) (hts _ (inA q308)) (fun _ h9 => h9) rfl (by decide +kernel) rfl rfl (Nat.le_of_ble_eq_true rfl) dX1_forget_52 (fun H locs hP hD hS => ?_)
  have hP : va_P D vwCl (wN cI ad (41, r11.2)) H := hP
  have hD : va_D A (wN cI ad (41, r11.2)) := hD
  refine lv_aload_n hx hb dX1_forget_55 rfl (lv_at hl 0 rfl) ?_
  refine lv_aload_n hx hb dX1_forget_56 rfl (lv_at hl 0 rfl) ?_
  refine va_get (D := D) (ci := 1) (v := .ref (ad 7)) (C := RX1) (T := TX1) (N := 6) hx hb hts layX1 hown hK hP 0 rfl rfl 1 (by decide) (hts _ (inA q305)) (fun _ h9 => h9) rfl dX1_forget_57 ?_
  refine lv_bipush (v := 41) hx hb dX1_forget_60 (by decide) ?_
  obtain ⟨b12, hM⟩ := gd_use hM
  refine va_iald hx hb hK hP 2 0 rfl rfl b12 dX1_forget_62 ?_
  refine lv_topi (fun x13 ex13 => ?_)
  replace hM := nm_use ex13 hM
  refine va_put (D := D) (ci := 1) (v := .int x13) (ty := .int) (C := RX1) (T := TX1) (N := 6) hx hb hts layX1 tyX1 tyX1_ok nmX1 hown hK hP hD hS 0 rfl rfl 5 (by decide) (hts _ (inA q310)) (fun _ h9 => h9) rfl (by decide +kernel) rfl rfl (Nat.le_of_ble_eq_true rfl) dX1_forget_63 (fun H locs hP hD hS => ?_)
  have hP : va_P D vwCl (wN cI ad (41, x13, r11.2.2)) H := hP
  have hD : va_D A (wN cI ad (41, x13, r11.2.2)) := hD
  cases hM
  exact rt_v hx hb hr hlk hP hD hS rfl dX1_forget_66

set_option maxHeartbeats 4000000 in
set_option maxRecDepth 100000 in
theorem c_Names_addLetter (l : Launch) (D : va_G) (cI : ClassId) (sd : Nat → Nat) (ad : Nat → Nat) (o_this : S_Names) (a1 : Int32) (res : S_Names) (hM : f_Names_addLetter o_this a1 = some res) : Ctr l D cI sd yX1_addLetter (wsM yX1_addLetter cX1_addLetter 2 (Option.none : Option Jvm.ClassFile.FieldType)) { frames := 1, cells := 0, slots := 0, locals := 20 } [.ref (ad 5), .int a1] (wN cI ad o_this) (wN cI ad res) none := by
  refine Ctr.of (cc := cX1_addLetter) (maxL := 2) (own := RX1) (by decide +kernel) rfl rfl (Nat.le_of_ble_eq_true rfl) ?_
  intro p e s m below meth c A ls hx hb hr hml hown hts hlk hK hE hA hP hD hS hl
  have hl : lv_has ls 2 [(0, .ref (ad 5)), (1, .int a1)] := hl
  unfold f_Names_addLetter at hM
  refine lv_aload_n hx hb dX1_addLetter_0 rfl (lv_at hl 0 rfl) ?_
  refine va_get (D := D) (ci := 1) (v := .int o_this.2.1) (C := RX1) (T := TX1) (N := 6) hx hb hts layX1 hown hK hP 0 rfl rfl 5 (by decide) (hts _ (inA q310)) (fun _ h9 => h9) rfl dX1_addLetter_1 ?_
  refine lv_if_lt (tgt := 42) hx hb dX1_addLetter_4 (by decide) (fun c1 => ?_) (fun c1 => ?_)
  · replace hM := if_t c1 hM
    cases hM
    exact rt_v hx hb hr hlk hP hD hS rfl dX1_addLetter_42
  · replace hM := if_f c1 hM
    refine lv_aload_n hx hb dX1_addLetter_7 rfl (lv_at hl 0 rfl) ?_
    refine va_get (D := D) (ci := 1) (v := .int o_this.2.1) (C := RX1) (T := TX1) (N := 6) hx hb hts layX1 hown hK hP 0 rfl rfl 5 (by decide) (hts _ (inA q310)) (fun _ h9 => h9) rfl dX1_addLetter_8 ?_
    refine lv_aload_n hx hb dX1_addLetter_11 rfl (lv_at hl 0 rfl) ?_
    refine va_get (D := D) (ci := 1) (v := .ref (ad 6)) (C := RX1) (T := TX1) (N := 6) hx hb hts layX1 hown hK hP 0 rfl rfl 0 (by decide) (hts _ (inA q304)) (fun _ h9 => h9) rfl dX1_addLetter_12 ?_
    refine va_alen (v := 8704) hx hb hK hP 1 0 rfl rfl (show Int32.ofNat 8704 = 8704 by decide) dX1_addLetter_15 ?_
    refine lv_icmp_ge (tgt := 42) hx hb dX1_addLetter_16 (by decide) (fun c2 => ?_) (fun c2 => ?_)
    · replace hM := if_t c2 hM
      cases hM
      exact rt_v hx hb hr hlk hP hD hS rfl dX1_addLetter_42
    · replace hM := if_f c2 hM
      refine lv_aload_n hx hb dX1_addLetter_19 rfl (lv_at hl 0 rfl) ?_
      refine va_get (D := D) (ci := 1) (v := .ref (ad 6)) (C := RX1) (T := TX1) (N := 6) hx hb hts layX1 hown hK hP 0 rfl rfl 0 (by decide) (hts _ (inA q304)) (fun _ h9 => h9) rfl dX1_addLetter_20 ?_
      refine lv_aload_n hx hb dX1_addLetter_23 rfl (lv_at hl 0 rfl) ?_
      refine va_get (D := D) (ci := 1) (v := .int o_this.2.1) (C := RX1) (T := TX1) (N := 6) hx hb hts layX1 hown hK hP 0 rfl rfl 5 (by decide) (hts _ (inA q310)) (fun _ h9 => h9) rfl dX1_addLetter_24 ?_
      refine lv_iload_n hx hb dX1_addLetter_27 rfl (lv_at hl 1 rfl) ?_
      obtain ⟨r3, hcr3, hM⟩ := ob_use hM
      refine cl_SN (As := [.int a1]) (rest := [.int o_this.2.1, .ref (ad 6)]) (wN cI ad o_this) (.int r3 :: [.int o_this.2.1, .ref (ad 6)]) ⟨hx, hb, hml, hown, hts⟩ (c_Top_great l D cI sd ad a1 r3 hcr3) (cwSN2 hts (nmE0 hE) mvX6_great rfl rfl ⟨(Nat.le_of_ble_eq_true rfl), (Nat.le_of_ble_eq_true rfl)⟩) hK hE hA hP hD hS [] rfl (by decide) rfl rfl rfl rfl rfl rfl hl.1 (Nat.le_of_ble_eq_true rfl) dX1_addLetter_28 ⟨Nat.zero_le _, Nat.zero_le _⟩ (fun H locs hP hD hS => ?_)
      obtain ⟨b4, hM⟩ := gd_use hM
      refine va_iast hx hb hK hP hD hS 1 0 rfl rfl b4 dX1_addLetter_31 (fun H locs hP hD hS => ?_)
      have hP : va_P D vwCl (wN cI ad (o_this.1, o_this.2.1, upd o_this.2.2.1 o_this.2.1.toNatClampNeg r3, o_this.2.2.2)) H := hP
      have hD : va_D A (wN cI ad (o_this.1, o_this.2.1, upd o_this.2.2.1 o_this.2.1.toNatClampNeg r3, o_this.2.2.2)) := hD
      refine lv_aload_n hx hb dX1_addLetter_32 rfl (lv_at hl 0 rfl) ?_
      refine lv_dup hx hb dX1_addLetter_33 rfl ?_
      refine va_get (D := D) (ci := 1) (v := .int o_this.2.1) (C := RX1) (T := TX1) (N := 6) hx hb hts layX1 hown hK hP 0 rfl rfl 5 (by decide) (hts _ (inA q310)) (fun _ h9 => h9) rfl dX1_addLetter_34 ?_
      refine lv_iconst (v := 1) hx hb dX1_addLetter_37 (by decide) ?_
      refine lv_iadd hx hb dX1_addLetter_38 ?_
      refine va_put (D := D) (ci := 1) (v := .int (o_this.2.1 + 1)) (ty := .int) (C := RX1) (T := TX1) (N := 6) hx hb hts layX1 tyX1 tyX1_ok nmX1 hown hK hP hD hS 0 rfl rfl 5 (by decide) (hts _ (inA q310)) (fun _ h9 => h9) rfl (by decide +kernel) rfl rfl (Nat.le_of_ble_eq_true rfl) dX1_addLetter_39 (fun H locs hP hD hS => ?_)
      have hP : va_P D vwCl (wN cI ad (o_this.1, o_this.2.1 + 1, upd o_this.2.2.1 o_this.2.1.toNatClampNeg r3, o_this.2.2.2)) H := hP
      have hD : va_D A (wN cI ad (o_this.1, o_this.2.1 + 1, upd o_this.2.2.1 o_this.2.1.toNatClampNeg r3, o_this.2.2.2)) := hD
      cases hM
      exact rt_v hx hb hr hlk hP hD hS rfl dX1_addLetter_42

set_option maxHeartbeats 4000000 in
set_option maxRecDepth 100000 in
theorem c_Names_startOf (l : Launch) (D : va_G) (cI : ClassId) (sd : Nat → Nat) (ad : Nat → Nat) (o_this : S_Names) (a1 : Int32) (res : Int32) (hM : f_Names_startOf o_this a1 = some res) : Ctr l D cI sd yX1_startOf (wsM yX1_startOf cX1_startOf 2 (Option.some Jvm.ClassFile.FieldType.int)) { frames := 0, cells := 0, slots := 0, locals := 0 } [.ref (ad 5), .int a1] (wN cI ad o_this) (wN cI ad o_this) (some (.int res)) := by
  refine Ctr.of (cc := cX1_startOf) (maxL := 2) (own := RX1) (by decide +kernel) rfl rfl (Nat.le_of_ble_eq_true rfl) ?_
  intro p e s m below meth c A ls hx hb hr hml hown hts hlk hK hE hA hP hD hS hl
  have hl : lv_has ls 2 [(0, .ref (ad 5)), (1, .int a1)] := hl
  unfold f_Names_startOf at hM
  refine lv_iload_n hx hb dX1_startOf_0 rfl (lv_at hl 1 rfl) ?_
  refine lv_if_lt (tgt := 20) hx hb dX1_startOf_1 (by decide) (fun c1 => ?_) (fun c1 => ?_)
  · replace hM := if_t c1 hM
    refine lv_iconst (v := 0) hx hb dX1_startOf_20 (by decide) ?_
    cases hM
    exact rt_i hx hb hr hlk hP hD hS rfl dX1_startOf_21
  · replace hM := if_f c1 hM
    refine lv_iload_n hx hb dX1_startOf_4 rfl (lv_at hl 1 rfl) ?_
    refine lv_sipush (v := 4137) hx hb dX1_startOf_5 (by decide) ?_
    refine lv_icmp_gt (tgt := 20) hx hb dX1_startOf_8 (by decide) (fun c2 => ?_) (fun c2 => ?_)
    · replace hM := if_t c2 hM
      refine lv_iconst (v := 0) hx hb dX1_startOf_20 (by decide) ?_
      cases hM
      exact rt_i hx hb hr hlk hP hD hS rfl dX1_startOf_21
    · replace hM := if_f c2 hM
      refine lv_aload_n hx hb dX1_startOf_11 rfl (lv_at hl 0 rfl) ?_
      refine va_get (D := D) (ci := 1) (v := .ref (ad 7)) (C := RX1) (T := TX1) (N := 6) hx hb hts layX1 hown hK hP 0 rfl rfl 1 (by decide) (hts _ (inA q305)) (fun _ h9 => h9) rfl dX1_startOf_12 ?_
      refine lv_iload_n hx hb dX1_startOf_15 rfl (lv_at hl 1 rfl) ?_
      obtain ⟨b3, hM⟩ := gd_use hM
      refine va_iald hx hb hK hP 2 0 rfl rfl b3 dX1_startOf_16 ?_
      refine lv_goto (tgt := 21) hx hb dX1_startOf_17 (by decide) ?_
      cases hM
      exact rt_i hx hb hr hlk hP hD hS rfl dX1_startOf_21

set_option maxHeartbeats 4000000 in
set_option maxRecDepth 100000 in
theorem c_Names_firstSlot (l : Launch) (D : va_G) (cI : ClassId) (sd : Nat → Nat) (ad : Nat → Nat) (o_this : S_Names) (res : Int32) (hM : f_Names_firstSlot o_this = some res) : Ctr l D cI sd yX1_firstSlot (wsM yX1_firstSlot cX1_firstSlot 3 (Option.some Jvm.ClassFile.FieldType.int)) { frames := 1, cells := 0, slots := 0, locals := 21 } [.ref (ad 5)] (wN cI ad o_this) (wN cI ad o_this) (some (.int res)) := by
  refine Ctr.of (cc := cX1_firstSlot) (maxL := 3) (own := RX1) (by decide +kernel) rfl rfl (Nat.le_of_ble_eq_true rfl) ?_
  intro p e s m below meth c A ls hx hb hr hml hown hts hlk hK hE hA hP hD hS hl
  have hl : lv_has ls 3 [(0, .ref (ad 5))] := hl
  unfold f_Names_firstSlot at hM
  refine lv_iconst (v := 0) hx hb dX1_firstSlot_0 (by decide) ?_
  refine lv_istore_n (lv' := [(1, .int 0), (0, .ref (ad 5))]) hx hb dX1_firstSlot_1 rfl hl (by decide) rfl (fun ls hl => ?_)
  refine lv_aload_n hx hb dX1_firstSlot_2 rfl (lv_at hl 1 rfl) ?_
  refine lv_aload_n hx hb dX1_firstSlot_3 rfl (lv_at hl 1 rfl) ?_
  refine va_get (D := D) (ci := 1) (v := .int o_this.1) (C := RX1) (T := TX1) (N := 6) hx hb hts layX1 hown hK hP 0 rfl rfl 4 (by decide) (hts _ (inA q308)) (fun _ h9 => h9) rfl dX1_firstSlot_4 ?_
  obtain ⟨r1, hcr1, hM⟩ := ob_use hM
  refine cl_V (As := [.int o_this.1]) (rest := []) (wN cI ad o_this) (.int r1 :: []) ⟨hx, hb, hml, hown, hts⟩ (c_Names_startOf l D cI sd ad o_this o_this.1 r1 hcr1) (cwV2 hts q280 mvX1_startOf rfl rfl ⟨(Nat.le_of_ble_eq_true rfl), (Nat.le_of_ble_eq_true rfl)⟩) hK hE hA hP hD hS 0 (T := TX1) (N := 6) (ci := 1) rfl rfl [0, 1, 2, 3, 4] rfl (by decide) rfl rfl rfl rfl rfl rfl hl.1 (Nat.le_of_ble_eq_true rfl) dX1_firstSlot_7 ⟨Nat.zero_le _, Nat.zero_le _⟩ (fun H locs hP hD hS => ?_)
  refine lv_istore_n (lv' := [(2, .int r1), (1, .int 0), (0, .ref (ad 5))]) hx hb dX1_firstSlot_10 rfl hl (by decide) rfl (fun ls hl => ?_)
  have lp_L11 : ∀ (n : Nat) (v2_L11 : Int32) (v1_L11 : Int32) (out_L11 : Int32) (H : Heap) (locs : List Loc) (ls : Array Slot), f_Names_firstSlot_L11 o_this n v2_L11 v1_L11 = some out_L11 → va_P D vwCl (wN cI ad o_this) H → va_D A (wN cI ad o_this) → va_S A s.heap H locs → lv_has ls 3 [(2, .int v2_L11), (1, .int v1_L11), (0, .ref (ad 5))] → (∀ (H : Heap) (locs : List Loc) (ls : Array Slot), va_P D vwCl (wN cI ad o_this) H → va_D A (wN cI ad o_this) → va_S A s.heap H locs → lv_has ls 3 [(1, .int out_L11), (0, .ref (ad 5))] → W p l e { frames := 1, cells := 0, slots := 0, locals := 21 } s m [.ref (ad 5)].toArray below meth c H locs 0 0 (MQ below (CQ D A (wN cI ad o_this) (some (.int res))) [.ref (ad 5)].toArray s 0 0 A) (F0 m 46 ls [])) → W p l e { frames := 1, cells := 0, slots := 0, locals := 21 } s m [.ref (ad 5)].toArray below meth c H locs 0 0 (MQ below (CQ D A (wN cI ad o_this) (some (.int res))) [.ref (ad 5)].toArray s 0 0 A) (F0 m 11 ls []) := by
    intro n
    induction n with
    | zero => intro v2_L11 v1_L11 out_L11 H locs ls hM; exact absurd (show none = some _ from hM) (by simp)
    | succ n ih_L11 =>
      intro v2_L11 v1_L11 out_L11 H locs ls hM hP hD hS hl kx_L11
      rw [f_Names_firstSlot_L11] at hM
      refine lv_iload_n hx hb dX1_firstSlot_11 rfl (lv_at hl 0 rfl) ?_
      refine lv_aload_n hx hb dX1_firstSlot_12 rfl (lv_at hl 2 rfl) ?_
      refine va_get (D := D) (ci := 1) (v := .int o_this.2.1) (C := RX1) (T := TX1) (N := 6) hx hb hts layX1 hown hK hP 0 rfl rfl 5 (by decide) (hts _ (inA q310)) (fun _ h9 => h9) rfl dX1_firstSlot_13 ?_
      refine lv_icmp_ge (tgt := 46) hx hb dX1_firstSlot_16 (by decide) (fun c2 => ?_) (fun c2 => ?_)
      · replace hM := if_t c2 hM
        cases hM
        exact kx_L11 _ _ _ hP hD hS (lv_sub hl [1, 2] rfl)
      · replace hM := if_f c2 hM
        refine lv_iload_n hx hb dX1_firstSlot_19 rfl (lv_at hl 0 rfl) ?_
        refine lv_aload_n hx hb dX1_firstSlot_20 rfl (lv_at hl 2 rfl) ?_
        refine va_get (D := D) (ci := 1) (v := .ref (ad 6)) (C := RX1) (T := TX1) (N := 6) hx hb hts layX1 hown hK hP 0 rfl rfl 0 (by decide) (hts _ (inA q304)) (fun _ h9 => h9) rfl dX1_firstSlot_21 ?_
        refine va_alen (v := 8704) hx hb hK hP 1 0 rfl rfl (show Int32.ofNat 8704 = 8704 by decide) dX1_firstSlot_24 ?_
        refine lv_icmp_ge (tgt := 46) hx hb dX1_firstSlot_25 (by decide) (fun c3 => ?_) (fun c3 => ?_)
        · replace hM := if_t c3 hM
          cases hM
          exact kx_L11 _ _ _ hP hD hS (lv_sub hl [1, 2] rfl)
        · replace hM := if_f c3 hM
          refine lv_bipush (v := 31) hx hb dX1_firstSlot_28 (by decide) ?_
          refine lv_iload_n hx hb dX1_firstSlot_30 rfl (lv_at hl 1 rfl) ?_
          refine lv_imul hx hb dX1_firstSlot_31 ?_
          refine lv_aload_n hx hb dX1_firstSlot_32 rfl (lv_at hl 2 rfl) ?_
          refine va_get (D := D) (ci := 1) (v := .ref (ad 6)) (C := RX1) (T := TX1) (N := 6) hx hb hts layX1 hown hK hP 0 rfl rfl 0 (by decide) (hts _ (inA q304)) (fun _ h9 => h9) rfl dX1_firstSlot_33 ?_
          refine lv_iload_n hx hb dX1_firstSlot_36 rfl (lv_at hl 0 rfl) ?_
          obtain ⟨b4, hM⟩ := gd_use hM
          refine va_iald hx hb hK hP 1 0 rfl rfl b4 dX1_firstSlot_37 ?_
          refine lv_iadd hx hb dX1_firstSlot_38 ?_
          refine lv_topi (fun x5 ex5 => ?_)
          replace hM := nm_use ex5 hM
          refine lv_istore_n (lv' := [(1, .int x5), (2, .int v2_L11), (0, .ref (ad 5))]) hx hb dX1_firstSlot_39 rfl hl (by decide) rfl (fun ls hl => ?_)
          obtain ⟨x6, ex6⟩ : ∃ y : Int32, y = v2_L11 + 1 := ⟨_, rfl⟩
          replace hM := nm_use ex6 hM
          refine lv_iinc (v := x6) (lv' := [(2, .int x6), (1, .int x5), (0, .ref (ad 5))]) hx hb dX1_firstSlot_40 hl (k := 1) rfl (by rw [ex6]; rfl) (by decide) rfl (fun ls hl => ?_)
          refine lv_goto (tgt := 11) hx hb dX1_firstSlot_43 (by decide) ?_
          exact ih_L11 x6 x5 out_L11 _ _ _ hM hP hD hS (lv_sub hl [0, 1, 2] rfl) kx_L11
  obtain ⟨r7, hcr7, hM⟩ := ob_use hM
  refine lp_L11 FU r1 0 r7 _ _ _ hcr7 hP hD hS (lv_sub hl [0, 1, 2] rfl) (fun H locs ls hP hD hS hl => ?_)
  refine lv_iload_n hx hb dX1_firstSlot_46 rfl (lv_at hl 0 rfl) ?_
  refine lv_sipush (v := 8191) hx hb dX1_firstSlot_47 (by decide) ?_
  refine lv_iand hx hb dX1_firstSlot_50 ?_
  cases hM
  exact rt_i hx hb hr hlk hP hD hS rfl dX1_firstSlot_51

set_option maxHeartbeats 4000000 in
set_option maxRecDepth 100000 in
theorem c_Names_isAddedLast (l : Launch) (D : va_G) (cI : ClassId) (sd : Nat → Nat) (ad : Nat → Nat) (o_this : S_Names) (a1 : Int32) (res : Int32) (hM : f_Names_isAddedLast o_this a1 = some res) : Ctr l D cI sd yX1_isAddedLast (wsM yX1_isAddedLast cX1_isAddedLast 6 (Option.some Jvm.ClassFile.FieldType.boolean)) { frames := 1, cells := 0, slots := 0, locals := 21 } [.ref (ad 5), .int a1] (wN cI ad o_this) (wN cI ad o_this) (some (.int res)) := by
  refine Ctr.of (cc := cX1_isAddedLast) (maxL := 6) (own := RX1) (by decide +kernel) rfl rfl (Nat.le_of_ble_eq_true rfl) ?_
  intro p e s m below meth c A ls hx hb hr hml hown hts hlk hK hE hA hP hD hS hl
  have hl : lv_has ls 6 [(0, .ref (ad 5)), (1, .int a1)] := hl
  unfold f_Names_isAddedLast at hM
  refine lv_aload_n hx hb dX1_isAddedLast_0 rfl (lv_at hl 0 rfl) ?_
  refine lv_iload_n hx hb dX1_isAddedLast_1 rfl (lv_at hl 1 rfl) ?_
  obtain ⟨r1, hcr1, hM⟩ := ob_use hM
  refine cl_V (As := [.int a1]) (rest := []) (wN cI ad o_this) (.int r1 :: []) ⟨hx, hb, hml, hown, hts⟩ (c_Names_startOf l D cI sd ad o_this a1 r1 hcr1) (cwV2 hts q280 mvX1_startOf rfl rfl ⟨(Nat.le_of_ble_eq_true rfl), (Nat.le_of_ble_eq_true rfl)⟩) hK hE hA hP hD hS 0 (T := TX1) (N := 6) (ci := 1) rfl rfl [0, 1, 2, 3, 4] rfl (by decide) rfl rfl rfl rfl rfl rfl hl.1 (Nat.le_of_ble_eq_true rfl) dX1_isAddedLast_2 ⟨Nat.zero_le _, Nat.zero_le _⟩ (fun H locs hP hD hS => ?_)
  refine lv_istore_n (lv' := [(2, .int r1), (0, .ref (ad 5)), (1, .int a1)]) hx hb dX1_isAddedLast_5 rfl hl (by decide) rfl (fun ls hl => ?_)
  refine lv_aload_n hx hb dX1_isAddedLast_6 rfl (lv_at hl 1 rfl) ?_
  refine lv_aload_n hx hb dX1_isAddedLast_7 rfl (lv_at hl 1 rfl) ?_
  refine va_get (D := D) (ci := 1) (v := .int o_this.1) (C := RX1) (T := TX1) (N := 6) hx hb hts layX1 hown hK hP 0 rfl rfl 4 (by decide) (hts _ (inA q308)) (fun _ h9 => h9) rfl dX1_isAddedLast_8 ?_
  obtain ⟨r2, hcr2, hM⟩ := ob_use hM
  refine cl_V (As := [.int o_this.1]) (rest := []) (wN cI ad o_this) (.int r2 :: []) ⟨hx, hb, hml, hown, hts⟩ (c_Names_startOf l D cI sd ad o_this o_this.1 r2 hcr2) (cwV2 hts q280 mvX1_startOf rfl rfl ⟨(Nat.le_of_ble_eq_true rfl), (Nat.le_of_ble_eq_true rfl)⟩) hK hE hA hP hD hS 0 (T := TX1) (N := 6) (ci := 1) rfl rfl [0, 1, 2, 3, 4] rfl (by decide) rfl rfl rfl rfl rfl rfl hl.1 (Nat.le_of_ble_eq_true rfl) dX1_isAddedLast_11 ⟨Nat.zero_le _, Nat.zero_le _⟩ (fun H locs hP hD hS => ?_)
  refine lv_istore_n (lv' := [(3, .int r2), (2, .int r1), (0, .ref (ad 5)), (1, .int a1)]) hx hb dX1_isAddedLast_14 rfl hl (by decide) rfl (fun ls hl => ?_)
  refine lv_aload_n hx hb dX1_isAddedLast_15 rfl (lv_at hl 2 rfl) ?_
  refine va_get (D := D) (ci := 1) (v := .int o_this.2.1) (C := RX1) (T := TX1) (N := 6) hx hb hts layX1 hown hK hP 0 rfl rfl 5 (by decide) (hts _ (inA q310)) (fun _ h9 => h9) rfl dX1_isAddedLast_16 ?_
  refine lv_iload_n hx hb dX1_isAddedLast_19 rfl (lv_at hl 0 rfl) ?_
  refine lv_isub hx hb dX1_isAddedLast_20 ?_
  refine lv_istore (lv' := [(4, .int (o_this.2.1 - r2)), (3, .int r2), (2, .int r1), (0, .ref (ad 5)), (1, .int a1)]) hx hb dX1_isAddedLast_21 hl (by decide) rfl (fun ls hl => ?_)
  refine lv_aload_n hx hb dX1_isAddedLast_23 rfl (lv_at hl 3 rfl) ?_
  refine lv_iload_n hx hb dX1_isAddedLast_24 rfl (lv_at hl 4 rfl) ?_
  refine lv_iconst (v := 1) hx hb dX1_isAddedLast_25 (by decide) ?_
  refine lv_iadd hx hb dX1_isAddedLast_26 ?_
  obtain ⟨r3, hcr3, hM⟩ := ob_use hM
  refine cl_V (As := [.int (a1 + 1)]) (rest := []) (wN cI ad o_this) (.int r3 :: []) ⟨hx, hb, hml, hown, hts⟩ (c_Names_startOf l D cI sd ad o_this (a1 + 1) r3 hcr3) (cwV2 hts q280 mvX1_startOf rfl rfl ⟨(Nat.le_of_ble_eq_true rfl), (Nat.le_of_ble_eq_true rfl)⟩) hK hE hA hP hD hS 0 (T := TX1) (N := 6) (ci := 1) rfl rfl [0, 1, 2, 3, 4] rfl (by decide) rfl rfl rfl rfl rfl rfl hl.1 (Nat.le_of_ble_eq_true rfl) dX1_isAddedLast_27 ⟨Nat.zero_le _, Nat.zero_le _⟩ (fun H locs hP hD hS => ?_)
  refine lv_iload_n hx hb dX1_isAddedLast_30 rfl (lv_at hl 2 rfl) ?_
  refine lv_isub hx hb dX1_isAddedLast_31 ?_
  refine lv_iload hx hb dX1_isAddedLast_32 (lv_at hl 0 rfl) ?_
  refine lv_icmp_ne (tgt := 61) hx hb dX1_isAddedLast_34 (by decide) (fun c4 => ?_) (fun c4 => ?_)
  · replace hM := if_f c4 hM
    refine lv_iconst (v := 0) hx hb dX1_isAddedLast_61 (by decide) ?_
    cases hM
    exact rt_z hx hb hr hlk (by decide) hP hD hS rfl dX1_isAddedLast_62
  · replace hM := if_t c4 hM
    refine lv_iload_n hx hb dX1_isAddedLast_37 rfl (lv_at hl 2 rfl) ?_
    refine lv_iload hx hb dX1_isAddedLast_38 (lv_at hl 0 rfl) ?_
    refine lv_iadd hx hb dX1_isAddedLast_40 ?_
    refine lv_aload_n hx hb dX1_isAddedLast_41 rfl (lv_at hl 3 rfl) ?_
    refine va_get (D := D) (ci := 1) (v := .ref (ad 6)) (C := RX1) (T := TX1) (N := 6) hx hb hts layX1 hown hK hP 0 rfl rfl 0 (by decide) (hts _ (inA q304)) (fun _ h9 => h9) rfl dX1_isAddedLast_42 ?_
    refine va_alen (v := 8704) hx hb hK hP 1 0 rfl rfl (show Int32.ofNat 8704 = 8704 by decide) dX1_isAddedLast_45 ?_
    refine lv_icmp_gt (tgt := 61) hx hb dX1_isAddedLast_46 (by decide) (fun c5 => ?_) (fun c5 => ?_)
    · replace hM := if_t c5 hM
      refine lv_iconst (v := 0) hx hb dX1_isAddedLast_61 (by decide) ?_
      cases hM
      exact rt_z hx hb hr hlk (by decide) hP hD hS rfl dX1_isAddedLast_62
    · replace hM := if_f c5 hM
      refine lv_aload_n hx hb dX1_isAddedLast_49 rfl (lv_at hl 3 rfl) ?_
      refine va_get (D := D) (ci := 1) (v := .int o_this.2.1) (C := RX1) (T := TX1) (N := 6) hx hb hts layX1 hown hK hP 0 rfl rfl 5 (by decide) (hts _ (inA q310)) (fun _ h9 => h9) rfl dX1_isAddedLast_50 ?_
      refine lv_aload_n hx hb dX1_isAddedLast_53 rfl (lv_at hl 3 rfl) ?_
      refine va_get (D := D) (ci := 1) (v := .ref (ad 6)) (C := RX1) (T := TX1) (N := 6) hx hb hts layX1 hown hK hP 0 rfl rfl 0 (by decide) (hts _ (inA q304)) (fun _ h9 => h9) rfl dX1_isAddedLast_54 ?_
      refine va_alen (v := 8704) hx hb hK hP 1 0 rfl rfl (show Int32.ofNat 8704 = 8704 by decide) dX1_isAddedLast_57 ?_
      refine lv_icmp_le (tgt := 63) hx hb dX1_isAddedLast_58 (by decide) (fun c6 => ?_) (fun c6 => ?_)
      · replace hM := if_t c6 hM
        refine lv_iconst (v := 0) hx hb dX1_isAddedLast_63 (by decide) ?_
        refine lv_istore (lv' := [(5, .int 0), (4, .int (o_this.2.1 - r2)), (3, .int r2), (2, .int r1), (0, .ref (ad 5)), (1, .int a1)]) hx hb dX1_isAddedLast_64 hl (by decide) rfl (fun ls hl => ?_)
        have lp_L66 : ∀ (n : Nat) (v5_L66 : Int32) (H : Heap) (locs : List Loc) (ls : Array Slot), f_Names_isAddedLast_L66 o_this r1 r2 n v5_L66 = some res → va_P D vwCl (wN cI ad o_this) H → va_D A (wN cI ad o_this) → va_S A s.heap H locs → lv_has ls 6 [(5, .int v5_L66), (4, .int (o_this.2.1 - r2)), (3, .int r2), (2, .int r1), (0, .ref (ad 5))] → W p l e { frames := 1, cells := 0, slots := 0, locals := 21 } s m [.ref (ad 5), .int a1].toArray below meth c H locs 0 0 (MQ below (CQ D A (wN cI ad o_this) (some (.int res))) [.ref (ad 5), .int a1].toArray s 0 0 A) (F0 m 66 ls []) := by
          intro n
          induction n with
          | zero => intro v5_L66 H locs ls hM; exact absurd (show none = some _ from hM) (by simp)
          | succ n ih_L66 =>
            intro v5_L66 H locs ls hM hP hD hS hl
            rw [f_Names_isAddedLast_L66] at hM
            refine lv_iload hx hb dX1_isAddedLast_66 (lv_at hl 0 rfl) ?_
            refine lv_iload hx hb dX1_isAddedLast_68 (lv_at hl 1 rfl) ?_
            refine lv_icmp_ge (tgt := 102) hx hb dX1_isAddedLast_70 (by decide) (fun c7 => ?_) (fun c7 => ?_)
            · replace hM := if_t c7 hM
              refine lv_iconst (v := 1) hx hb dX1_isAddedLast_102 (by decide) ?_
              cases hM
              exact rt_z hx hb hr hlk (by decide) hP hD hS rfl dX1_isAddedLast_103
            · replace hM := if_f c7 hM
              refine lv_aload_n hx hb dX1_isAddedLast_73 rfl (lv_at hl 4 rfl) ?_
              refine va_get (D := D) (ci := 1) (v := .ref (ad 6)) (C := RX1) (T := TX1) (N := 6) hx hb hts layX1 hown hK hP 0 rfl rfl 0 (by decide) (hts _ (inA q304)) (fun _ h9 => h9) rfl dX1_isAddedLast_74 ?_
              refine lv_iload_n hx hb dX1_isAddedLast_77 rfl (lv_at hl 3 rfl) ?_
              refine lv_iload hx hb dX1_isAddedLast_78 (lv_at hl 0 rfl) ?_
              refine lv_iadd hx hb dX1_isAddedLast_80 ?_
              obtain ⟨b8, hM⟩ := gd_use hM
              refine va_iald hx hb hK hP 1 0 rfl rfl b8 dX1_isAddedLast_81 ?_
              refine lv_aload_n hx hb dX1_isAddedLast_82 rfl (lv_at hl 4 rfl) ?_
              refine va_get (D := D) (ci := 1) (v := .ref (ad 6)) (C := RX1) (T := TX1) (N := 6) hx hb hts layX1 hown hK hP 0 rfl rfl 0 (by decide) (hts _ (inA q304)) (fun _ h9 => h9) rfl dX1_isAddedLast_83 ?_
              refine lv_iload_n hx hb dX1_isAddedLast_86 rfl (lv_at hl 2 rfl) ?_
              refine lv_iload hx hb dX1_isAddedLast_87 (lv_at hl 0 rfl) ?_
              refine lv_iadd hx hb dX1_isAddedLast_89 ?_
              obtain ⟨b9, hM⟩ := gd_use hM
              refine va_iald hx hb hK hP 1 0 rfl rfl b9 dX1_isAddedLast_90 ?_
              refine lv_icmp_eq (tgt := 96) hx hb dX1_isAddedLast_91 (by decide) (fun c10 => ?_) (fun c10 => ?_)
              · replace hM := if_t c10 hM
                obtain ⟨x11, ex11⟩ : ∃ y : Int32, y = v5_L66 + 1 := ⟨_, rfl⟩
                replace hM := nm_use ex11 hM
                refine lv_iinc (v := x11) (lv' := [(5, .int x11), (4, .int (o_this.2.1 - r2)), (3, .int r2), (2, .int r1), (0, .ref (ad 5))]) hx hb dX1_isAddedLast_96 hl (k := 0) rfl (by rw [ex11]; rfl) (by decide) rfl (fun ls hl => ?_)
                refine lv_goto (tgt := 66) hx hb dX1_isAddedLast_99 (by decide) ?_
                exact ih_L66 x11 _ _ _ hM hP hD hS (lv_sub hl [0, 1, 2, 3, 4] rfl)
              · replace hM := if_f c10 hM
                refine lv_iconst (v := 0) hx hb dX1_isAddedLast_94 (by decide) ?_
                cases hM
                exact rt_z hx hb hr hlk (by decide) hP hD hS rfl dX1_isAddedLast_95
        exact lp_L66 FU 0 _ _ _ hM hP hD hS (lv_sub hl [0, 1, 2, 3, 4] rfl)
      · replace hM := if_f c6 hM
        refine lv_iconst (v := 0) hx hb dX1_isAddedLast_61 (by decide) ?_
        cases hM
        exact rt_z hx hb hr hlk (by decide) hP hD hS rfl dX1_isAddedLast_62

set_option maxHeartbeats 4000000 in
set_option maxRecDepth 100000 in
theorem c_Names_keep (l : Launch) (D : va_G) (cI : ClassId) (sd : Nat → Nat) (ad : Nat → Nat) (o_this : S_Names) (a1 : Int32) (res : Int32 × S_Names) (hM : f_Names_keep o_this a1 = some res) : Ctr l D cI sd yX1_keep (wsM yX1_keep cX1_keep 3 (Option.some Jvm.ClassFile.FieldType.int)) { frames := 0, cells := 0, slots := 0, locals := 0 } [.ref (ad 5), .int a1] (wN cI ad o_this) (wN cI ad res.2) (some (.int res.1)) := by
  refine Ctr.of (cc := cX1_keep) (maxL := 3) (own := RX1) (by decide +kernel) rfl rfl (Nat.le_of_ble_eq_true rfl) ?_
  intro p e s m below meth c A ls hx hb hr hml hown hts hlk hK hE hA hP hD hS hl
  have hl : lv_has ls 3 [(0, .ref (ad 5)), (1, .int a1)] := hl
  unfold f_Names_keep at hM
  refine lv_aload_n hx hb dX1_keep_0 rfl (lv_at hl 0 rfl) ?_
  refine va_get (D := D) (ci := 1) (v := .int o_this.1) (C := RX1) (T := TX1) (N := 6) hx hb hts layX1 hown hK hP 0 rfl rfl 4 (by decide) (hts _ (inA q308)) (fun _ h9 => h9) rfl dX1_keep_1 ?_
  refine lv_if_lt (tgt := 28) hx hb dX1_keep_4 (by decide) (fun c1 => ?_) (fun c1 => ?_)
  · replace hM := if_t c1 hM
    refine lv_iconst (v := (-1)) hx hb dX1_keep_28 (by decide) ?_
    cases hM
    exact rt_i hx hb hr hlk hP hD hS rfl dX1_keep_29
  · replace hM := if_f c1 hM
    refine lv_aload_n hx hb dX1_keep_7 rfl (lv_at hl 0 rfl) ?_
    refine va_get (D := D) (ci := 1) (v := .int o_this.1) (C := RX1) (T := TX1) (N := 6) hx hb hts layX1 hown hK hP 0 rfl rfl 4 (by decide) (hts _ (inA q308)) (fun _ h9 => h9) rfl dX1_keep_8 ?_
    refine lv_sipush (v := 4137) hx hb dX1_keep_11 (by decide) ?_
    refine lv_icmp_ge (tgt := 28) hx hb dX1_keep_14 (by decide) (fun c2 => ?_) (fun c2 => ?_)
    · replace hM := if_t c2 hM
      refine lv_iconst (v := (-1)) hx hb dX1_keep_28 (by decide) ?_
      cases hM
      exact rt_i hx hb hr hlk hP hD hS rfl dX1_keep_29
    · replace hM := if_f c2 hM
      refine lv_iload_n hx hb dX1_keep_17 rfl (lv_at hl 1 rfl) ?_
      refine lv_if_lt (tgt := 28) hx hb dX1_keep_18 (by decide) (fun c3 => ?_) (fun c3 => ?_)
      · replace hM := if_t c3 hM
        refine lv_iconst (v := (-1)) hx hb dX1_keep_28 (by decide) ?_
        cases hM
        exact rt_i hx hb hr hlk hP hD hS rfl dX1_keep_29
      · replace hM := if_f c3 hM
        refine lv_iload_n hx hb dX1_keep_21 rfl (lv_at hl 1 rfl) ?_
        refine lv_sipush (v := 8192) hx hb dX1_keep_22 (by decide) ?_
        refine lv_icmp_lt (tgt := 30) hx hb dX1_keep_25 (by decide) (fun c4 => ?_) (fun c4 => ?_)
        · replace hM := if_t c4 hM
          refine lv_aload_n hx hb dX1_keep_30 rfl (lv_at hl 0 rfl) ?_
          refine va_get (D := D) (ci := 1) (v := .int o_this.1) (C := RX1) (T := TX1) (N := 6) hx hb hts layX1 hown hK hP 0 rfl rfl 4 (by decide) (hts _ (inA q308)) (fun _ h9 => h9) rfl dX1_keep_31 ?_
          refine lv_istore_n (lv' := [(2, .int o_this.1), (0, .ref (ad 5)), (1, .int a1)]) hx hb dX1_keep_34 rfl hl (by decide) rfl (fun ls hl => ?_)
          refine lv_aload_n hx hb dX1_keep_35 rfl (lv_at hl 1 rfl) ?_
          refine va_get (D := D) (ci := 1) (v := .ref (ad 9)) (C := RX1) (T := TX1) (N := 6) hx hb hts layX1 hown hK hP 0 rfl rfl 3 (by decide) (hts _ (inA q307)) (fun _ h9 => h9) rfl dX1_keep_36 ?_
          refine lv_iload_n hx hb dX1_keep_39 rfl (lv_at hl 2 rfl) ?_
          refine lv_iload_n hx hb dX1_keep_40 rfl (lv_at hl 0 rfl) ?_
          refine lv_iconst (v := 1) hx hb dX1_keep_41 (by decide) ?_
          refine lv_iadd hx hb dX1_keep_42 ?_
          obtain ⟨b5, hM⟩ := gd_use hM
          refine va_iast hx hb hK hP hD hS 4 0 rfl rfl b5 dX1_keep_43 (fun H locs hP hD hS => ?_)
          have hP : va_P D vwCl (wN cI ad (o_this.1, o_this.2.1, o_this.2.2.1, o_this.2.2.2.1, o_this.2.2.2.2.1, upd o_this.2.2.2.2.2 a1.toNatClampNeg (o_this.1 + 1))) H := hP
          have hD : va_D A (wN cI ad (o_this.1, o_this.2.1, o_this.2.2.1, o_this.2.2.2.1, o_this.2.2.2.2.1, upd o_this.2.2.2.2.2 a1.toNatClampNeg (o_this.1 + 1))) := hD
          refine lv_aload_n hx hb dX1_keep_44 rfl (lv_at hl 1 rfl) ?_
          refine va_get (D := D) (ci := 1) (v := .ref (ad 8)) (C := RX1) (T := TX1) (N := 6) hx hb hts layX1 hown hK hP 0 rfl rfl 2 (by decide) (hts _ (inA q306)) (fun _ h9 => h9) rfl dX1_keep_45 ?_
          refine lv_iload_n hx hb dX1_keep_48 rfl (lv_at hl 0 rfl) ?_
          refine lv_iload_n hx hb dX1_keep_49 rfl (lv_at hl 2 rfl) ?_
          obtain ⟨b6, hM⟩ := gd_use hM
          refine va_iast hx hb hK hP hD hS 3 0 rfl rfl b6 dX1_keep_50 (fun H locs hP hD hS => ?_)
          have hP : va_P D vwCl (wN cI ad (o_this.1, o_this.2.1, o_this.2.2.1, o_this.2.2.2.1, upd o_this.2.2.2.2.1 o_this.1.toNatClampNeg a1, upd o_this.2.2.2.2.2 a1.toNatClampNeg (o_this.1 + 1))) H := hP
          have hD : va_D A (wN cI ad (o_this.1, o_this.2.1, o_this.2.2.1, o_this.2.2.2.1, upd o_this.2.2.2.2.1 o_this.1.toNatClampNeg a1, upd o_this.2.2.2.2.2 a1.toNatClampNeg (o_this.1 + 1))) := hD
          refine lv_aload_n hx hb dX1_keep_51 rfl (lv_at hl 1 rfl) ?_
          refine lv_dup hx hb dX1_keep_52 rfl ?_
          refine va_get (D := D) (ci := 1) (v := .int o_this.1) (C := RX1) (T := TX1) (N := 6) hx hb hts layX1 hown hK hP 0 rfl rfl 4 (by decide) (hts _ (inA q308)) (fun _ h9 => h9) rfl dX1_keep_53 ?_
          refine lv_iconst (v := 1) hx hb dX1_keep_56 (by decide) ?_
          refine lv_iadd hx hb dX1_keep_57 ?_
          refine va_put (D := D) (ci := 1) (v := .int (o_this.1 + 1)) (ty := .int) (C := RX1) (T := TX1) (N := 6) hx hb hts layX1 tyX1 tyX1_ok nmX1 hown hK hP hD hS 0 rfl rfl 4 (by decide) (hts _ (inA q308)) (fun _ h9 => h9) rfl (by decide +kernel) rfl rfl (Nat.le_of_ble_eq_true rfl) dX1_keep_58 (fun H locs hP hD hS => ?_)
          have hP : va_P D vwCl (wN cI ad (o_this.1 + 1, o_this.2.1, o_this.2.2.1, o_this.2.2.2.1, upd o_this.2.2.2.2.1 o_this.1.toNatClampNeg a1, upd o_this.2.2.2.2.2 a1.toNatClampNeg (o_this.1 + 1))) H := hP
          have hD : va_D A (wN cI ad (o_this.1 + 1, o_this.2.1, o_this.2.2.1, o_this.2.2.2.1, upd o_this.2.2.2.2.1 o_this.1.toNatClampNeg a1, upd o_this.2.2.2.2.2 a1.toNatClampNeg (o_this.1 + 1))) := hD
          refine lv_aload_n hx hb dX1_keep_61 rfl (lv_at hl 1 rfl) ?_
          refine va_get (D := D) (ci := 1) (v := .ref (ad 7)) (C := RX1) (T := TX1) (N := 6) hx hb hts layX1 hown hK hP 0 rfl rfl 1 (by decide) (hts _ (inA q305)) (fun _ h9 => h9) rfl dX1_keep_62 ?_
          refine lv_aload_n hx hb dX1_keep_65 rfl (lv_at hl 1 rfl) ?_
          refine va_get (D := D) (ci := 1) (v := .int (o_this.1 + 1)) (C := RX1) (T := TX1) (N := 6) hx hb hts layX1 hown hK hP 0 rfl rfl 4 (by decide) (hts _ (inA q308)) (fun _ h9 => h9) rfl dX1_keep_66 ?_
          refine lv_aload_n hx hb dX1_keep_69 rfl (lv_at hl 1 rfl) ?_
          refine va_get (D := D) (ci := 1) (v := .int o_this.2.1) (C := RX1) (T := TX1) (N := 6) hx hb hts layX1 hown hK hP 0 rfl rfl 5 (by decide) (hts _ (inA q310)) (fun _ h9 => h9) rfl dX1_keep_70 ?_
          obtain ⟨b7, hM⟩ := gd_use hM
          refine va_iast hx hb hK hP hD hS 2 0 rfl rfl b7 dX1_keep_73 (fun H locs hP hD hS => ?_)
          have hP : va_P D vwCl (wN cI ad (o_this.1 + 1, o_this.2.1, o_this.2.2.1, upd o_this.2.2.2.1 (o_this.1 + 1).toNatClampNeg o_this.2.1, upd o_this.2.2.2.2.1 o_this.1.toNatClampNeg a1, upd o_this.2.2.2.2.2 a1.toNatClampNeg (o_this.1 + 1))) H := hP
          have hD : va_D A (wN cI ad (o_this.1 + 1, o_this.2.1, o_this.2.2.1, upd o_this.2.2.2.1 (o_this.1 + 1).toNatClampNeg o_this.2.1, upd o_this.2.2.2.2.1 o_this.1.toNatClampNeg a1, upd o_this.2.2.2.2.2 a1.toNatClampNeg (o_this.1 + 1))) := hD
          refine lv_iload_n hx hb dX1_keep_74 rfl (lv_at hl 0 rfl) ?_
          cases hM
          exact rt_i hx hb hr hlk hP hD hS rfl dX1_keep_75
        · replace hM := if_f c4 hM
          refine lv_iconst (v := (-1)) hx hb dX1_keep_28 (by decide) ?_
          cases hM
          exact rt_i hx hb hr hlk hP hD hS rfl dX1_keep_29

set_option maxHeartbeats 4000000 in
set_option maxRecDepth 100000 in
theorem c_Names_number (l : Launch) (D : va_G) (cI : ClassId) (sd : Nat → Nat) (ad : Nat → Nat) (o_this : S_Names) (res : Int32 × S_Names) (hM : f_Names_number o_this = some res) : Ctr l D cI sd yX1_number (wsM yX1_number cX1_number 4 (Option.some Jvm.ClassFile.FieldType.int)) { frames := 2, cells := 0, slots := 0, locals := 46 } [.ref (ad 5)] (wN cI ad o_this) (wN cI ad res.2) (some (.int res.1)) := by
  refine Ctr.of (cc := cX1_number) (maxL := 4) (own := RX1) (by decide +kernel) rfl rfl (Nat.le_of_ble_eq_true rfl) ?_
  intro p e s m below meth c A ls hx hb hr hml hown hts hlk hK hE hA hP hD hS hl
  have hl : lv_has ls 4 [(0, .ref (ad 5))] := hl
  unfold f_Names_number at hM
  refine lv_aload_n hx hb dX1_number_0 rfl (lv_at hl 0 rfl) ?_
  obtain ⟨r1, hcr1, hM⟩ := ob_use hM
  refine cl_V (As := []) (rest := []) (wN cI ad o_this) (.int r1 :: []) ⟨hx, hb, hml, hown, hts⟩ (c_Names_firstSlot l D cI sd ad o_this r1 hcr1) (cwV2 hts q276 mvX1_firstSlot rfl rfl ⟨(Nat.le_of_ble_eq_true rfl), (Nat.le_of_ble_eq_true rfl)⟩) hK hE hA hP hD hS 0 (T := TX1) (N := 6) (ci := 1) rfl rfl [0, 1, 2, 3, 4] rfl (by decide) rfl rfl rfl rfl rfl rfl hl.1 (Nat.le_of_ble_eq_true rfl) dX1_number_1 ⟨Nat.zero_le _, Nat.zero_le _⟩ (fun H locs hP hD hS => ?_)
  refine lv_istore_n (lv' := [(1, .int r1), (0, .ref (ad 5))]) hx hb dX1_number_4 rfl hl (by decide) rfl (fun ls hl => ?_)
  refine lv_iconst (v := 0) hx hb dX1_number_5 (by decide) ?_
  refine lv_istore_n (lv' := [(2, .int 0), (1, .int r1), (0, .ref (ad 5))]) hx hb dX1_number_6 rfl hl (by decide) rfl (fun ls hl => ?_)
  have lp_L7 : ∀ (n : Nat) (v2_L7 : Int32) (v1_L7 : Int32) (H : Heap) (locs : List Loc) (ls : Array Slot), f_Names_number_L7 o_this n v2_L7 v1_L7 = some res → va_P D vwCl (wN cI ad o_this) H → va_D A (wN cI ad o_this) → va_S A s.heap H locs → lv_has ls 4 [(2, .int v2_L7), (1, .int v1_L7), (0, .ref (ad 5))] → W p l e { frames := 2, cells := 0, slots := 0, locals := 46 } s m [.ref (ad 5)].toArray below meth c H locs 0 0 (MQ below (CQ D A (wN cI ad res.2) (some (.int res.1))) [.ref (ad 5)].toArray s 0 0 A) (F0 m 7 ls []) := by
    intro n
    induction n with
    | zero => intro v2_L7 v1_L7 H locs ls hM; exact absurd (show none = some _ from hM) (by simp)
    | succ n ih_L7 =>
      intro v2_L7 v1_L7 H locs ls hM hP hD hS hl
      rw [f_Names_number_L7] at hM
      refine lv_iload_n hx hb dX1_number_7 rfl (lv_at hl 0 rfl) ?_
      refine lv_sipush (v := 8192) hx hb dX1_number_8 (by decide) ?_
      refine lv_icmp_ge (tgt := 80) hx hb dX1_number_11 (by decide) (fun c2 => ?_) (fun c2 => ?_)
      · replace hM := if_t c2 hM
        refine lv_iconst (v := (-1)) hx hb dX1_number_80 (by decide) ?_
        cases hM
        exact rt_i hx hb hr hlk hP hD hS rfl dX1_number_81
      · replace hM := if_f c2 hM
        refine lv_iload_n hx hb dX1_number_14 rfl (lv_at hl 1 rfl) ?_
        refine lv_if_lt (tgt := 80) hx hb dX1_number_15 (by decide) (fun c3 => ?_) (fun c3 => ?_)
        · replace hM := if_t c3 hM
          refine lv_iconst (v := (-1)) hx hb dX1_number_80 (by decide) ?_
          cases hM
          exact rt_i hx hb hr hlk hP hD hS rfl dX1_number_81
        · replace hM := if_f c3 hM
          refine lv_iload_n hx hb dX1_number_18 rfl (lv_at hl 1 rfl) ?_
          refine lv_sipush (v := 8192) hx hb dX1_number_19 (by decide) ?_
          refine lv_icmp_ge (tgt := 80) hx hb dX1_number_22 (by decide) (fun c4 => ?_) (fun c4 => ?_)
          · replace hM := if_t c4 hM
            refine lv_iconst (v := (-1)) hx hb dX1_number_80 (by decide) ?_
            cases hM
            exact rt_i hx hb hr hlk hP hD hS rfl dX1_number_81
          · replace hM := if_f c4 hM
            refine lv_aload_n hx hb dX1_number_25 rfl (lv_at hl 2 rfl) ?_
            refine va_get (D := D) (ci := 1) (v := .ref (ad 9)) (C := RX1) (T := TX1) (N := 6) hx hb hts layX1 hown hK hP 0 rfl rfl 3 (by decide) (hts _ (inA q307)) (fun _ h9 => h9) rfl dX1_number_26 ?_
            refine lv_iload_n hx hb dX1_number_29 rfl (lv_at hl 1 rfl) ?_
            obtain ⟨b5, hM⟩ := gd_use hM
            refine va_iald hx hb hK hP 4 0 rfl rfl b5 dX1_number_30 ?_
            refine lv_iconst (v := 1) hx hb dX1_number_31 (by decide) ?_
            refine lv_isub hx hb dX1_number_32 ?_
            refine lv_topi (fun x6 ex6 => ?_)
            replace hM := nm_use ex6 hM
            refine lv_istore_n (lv' := [(3, .int x6), (2, .int v2_L7), (1, .int v1_L7), (0, .ref (ad 5))]) hx hb dX1_number_33 rfl hl (by decide) rfl (fun ls hl => ?_)
            refine lv_iload_n hx hb dX1_number_34 rfl (lv_at hl 0 rfl) ?_
            refine lv_if_ge (tgt := 44) hx hb dX1_number_35 (by decide) (fun c7 => ?_) (fun c7 => ?_)
            · replace hM := if_t c7 hM
              refine lv_aload_n hx hb dX1_number_44 rfl (lv_at hl 3 rfl) ?_
              refine lv_iload_n hx hb dX1_number_45 rfl (lv_at hl 0 rfl) ?_
              obtain ⟨r8, hcr8, hM⟩ := ob_use hM
              refine cl_V (As := [.int x6]) (rest := []) (wN cI ad o_this) (.int r8 :: []) ⟨hx, hb, hml, hown, hts⟩ (c_Names_isAddedLast l D cI sd ad o_this x6 r8 hcr8) (cwV2 hts q288 mvX1_isAddedLast rfl rfl ⟨(Nat.le_of_ble_eq_true rfl), (Nat.le_of_ble_eq_true rfl)⟩) hK hE hA hP hD hS 0 (T := TX1) (N := 6) (ci := 1) rfl rfl [0, 1, 2, 3, 4] rfl (by decide) rfl rfl rfl rfl rfl rfl hl.1 (Nat.le_of_ble_eq_true rfl) dX1_number_46 ⟨Nat.zero_le _, Nat.zero_le _⟩ (fun H locs hP hD hS => ?_)
              refine lv_if_eq (tgt := 66) hx hb dX1_number_49 (by decide) (fun c9 => ?_) (fun c9 => ?_)
              · replace hM := if_t c9 hM
                refine lv_iload_n hx hb dX1_number_66 rfl (lv_at hl 2 rfl) ?_
                refine lv_iconst (v := 1) hx hb dX1_number_67 (by decide) ?_
                refine lv_iadd hx hb dX1_number_68 ?_
                refine lv_sipush (v := 8191) hx hb dX1_number_69 (by decide) ?_
                refine lv_iand hx hb dX1_number_72 ?_
                refine lv_istore_n (lv' := [(1, .int ((v1_L7 + 1) &&& 8191)), (3, .int x6), (2, .int v2_L7), (0, .ref (ad 5))]) hx hb dX1_number_73 rfl hl (by decide) rfl (fun ls hl => ?_)
                obtain ⟨x10, ex10⟩ : ∃ y : Int32, y = v2_L7 + 1 := ⟨_, rfl⟩
                replace hM := nm_use ex10 hM
                refine lv_iinc (v := x10) (lv' := [(2, .int x10), (1, .int ((v1_L7 + 1) &&& 8191)), (3, .int x6), (0, .ref (ad 5))]) hx hb dX1_number_74 hl (k := 2) rfl (by rw [ex10]; rfl) (by decide) rfl (fun ls hl => ?_)
                refine lv_goto (tgt := 7) hx hb dX1_number_77 (by decide) ?_
                exact ih_L7 x10 ((v1_L7 + 1) &&& 8191) _ _ _ hM hP hD hS (lv_sub hl [0, 1, 3] rfl)
              · replace hM := if_f c9 hM
                refine lv_aload_n hx hb dX1_number_52 rfl (lv_at hl 3 rfl) ?_
                refine lv_aload_n hx hb dX1_number_53 rfl (lv_at hl 3 rfl) ?_
                refine lv_aload_n hx hb dX1_number_54 rfl (lv_at hl 3 rfl) ?_
                refine va_get (D := D) (ci := 1) (v := .int o_this.1) (C := RX1) (T := TX1) (N := 6) hx hb hts layX1 hown hK hP 0 rfl rfl 4 (by decide) (hts _ (inA q308)) (fun _ h9 => h9) rfl dX1_number_55 ?_
                obtain ⟨r11, hcr11, hM⟩ := ob_use hM
                refine cl_V (As := [.int o_this.1]) (rest := [.ref (ad 5)]) (wN cI ad o_this) (.int r11 :: [.ref (ad 5)]) ⟨hx, hb, hml, hown, hts⟩ (c_Names_startOf l D cI sd ad o_this o_this.1 r11 hcr11) (cwV2 hts q280 mvX1_startOf rfl rfl ⟨(Nat.le_of_ble_eq_true rfl), (Nat.le_of_ble_eq_true rfl)⟩) hK hE hA hP hD hS 0 (T := TX1) (N := 6) (ci := 1) rfl rfl [0, 1, 2, 3, 4] rfl (by decide) rfl rfl rfl rfl rfl rfl hl.1 (Nat.le_of_ble_eq_true rfl) dX1_number_58 ⟨Nat.zero_le _, Nat.zero_le _⟩ (fun H locs hP hD hS => ?_)
                refine va_put (D := D) (ci := 1) (v := .int r11) (ty := .int) (C := RX1) (T := TX1) (N := 6) hx hb hts layX1 tyX1 tyX1_ok nmX1 hown hK hP hD hS 0 rfl rfl 5 (by decide) (hts _ (inA q310)) (fun _ h9 => h9) rfl (by decide +kernel) rfl rfl (Nat.le_of_ble_eq_true rfl) dX1_number_61 (fun H locs hP hD hS => ?_)
                have hP : va_P D vwCl (wN cI ad (o_this.1, r11, o_this.2.2)) H := hP
                have hD : va_D A (wN cI ad (o_this.1, r11, o_this.2.2)) := hD
                refine lv_iload_n hx hb dX1_number_64 rfl (lv_at hl 0 rfl) ?_
                cases hM
                exact rt_i hx hb hr hlk hP hD hS rfl dX1_number_65
            · replace hM := if_f c7 hM
              refine lv_aload_n hx hb dX1_number_38 rfl (lv_at hl 3 rfl) ?_
              refine lv_iload_n hx hb dX1_number_39 rfl (lv_at hl 2 rfl) ?_
              obtain ⟨r12, hcr12, hM⟩ := ob_use hM
              refine cl_V (As := [.int v1_L7]) (rest := []) (wN cI ad r12.2) (.int r12.1 :: []) ⟨hx, hb, hml, hown, hts⟩ (c_Names_keep l D cI sd ad o_this v1_L7 r12 hcr12) (cwV2 hts q284 mvX1_keep rfl rfl ⟨(Nat.le_of_ble_eq_true rfl), (Nat.le_of_ble_eq_true rfl)⟩) hK hE hA hP hD hS 0 (T := TX1) (N := 6) (ci := 1) rfl rfl [0, 1, 2, 3, 4] rfl (by decide) rfl rfl rfl rfl rfl rfl hl.1 (Nat.le_of_ble_eq_true rfl) dX1_number_40 ⟨Nat.zero_le _, Nat.zero_le _⟩ (fun H locs hP hD hS => ?_)
              cases hM
              exact rt_i hx hb hr hlk hP hD hS rfl dX1_number_43
  exact lp_L7 FU 0 r1 _ _ _ hM hP hD hS (lv_sub hl [0, 1, 2] rfl)

set_option maxHeartbeats 4000000 in
set_option maxRecDepth 100000 in
theorem c_Names_letterOf (l : Launch) (D : va_G) (cI : ClassId) (sd : Nat → Nat) (ad : Nat → Nat) (o_this : S_Names) (a1 : Int32) (a2 : Int32) (res : Int32) (hM : f_Names_letterOf o_this a1 a2 = some res) : Ctr l D cI sd yX1_letterOf (wsM yX1_letterOf cX1_letterOf 4 (Option.some Jvm.ClassFile.FieldType.int)) { frames := 0, cells := 0, slots := 0, locals := 0 } [.ref (ad 5), .int a1, .int a2] (wN cI ad o_this) (wN cI ad o_this) (some (.int res)) := by
  refine Ctr.of (cc := cX1_letterOf) (maxL := 4) (own := RX1) (by decide +kernel) rfl rfl (Nat.le_of_ble_eq_true rfl) ?_
  intro p e s m below meth c A ls hx hb hr hml hown hts hlk hK hE hA hP hD hS hl
  have hl : lv_has ls 4 [(0, .ref (ad 5)), (1, .int a1), (2, .int a2)] := hl
  unfold f_Names_letterOf at hM
  refine lv_iload_n hx hb dX1_letterOf_0 rfl (lv_at hl 1 rfl) ?_
  refine lv_if_lt (tgt := 42) hx hb dX1_letterOf_1 (by decide) (fun c1 => ?_) (fun c1 => ?_)
  · replace hM := if_t c1 hM
    refine lv_iconst (v := (-1)) hx hb dX1_letterOf_42 (by decide) ?_
    cases hM
    exact rt_i hx hb hr hlk hP hD hS rfl dX1_letterOf_43
  · replace hM := if_f c1 hM
    refine lv_iload_n hx hb dX1_letterOf_4 rfl (lv_at hl 1 rfl) ?_
    refine lv_aload_n hx hb dX1_letterOf_5 rfl (lv_at hl 0 rfl) ?_
    refine va_get (D := D) (ci := 1) (v := .int o_this.1) (C := RX1) (T := TX1) (N := 6) hx hb hts layX1 hown hK hP 0 rfl rfl 4 (by decide) (hts _ (inA q308)) (fun _ h9 => h9) rfl dX1_letterOf_6 ?_
    refine lv_icmp_ge (tgt := 42) hx hb dX1_letterOf_9 (by decide) (fun c2 => ?_) (fun c2 => ?_)
    · replace hM := if_t c2 hM
      refine lv_iconst (v := (-1)) hx hb dX1_letterOf_42 (by decide) ?_
      cases hM
      exact rt_i hx hb hr hlk hP hD hS rfl dX1_letterOf_43
    · replace hM := if_f c2 hM
      refine lv_iload_n hx hb dX1_letterOf_12 rfl (lv_at hl 1 rfl) ?_
      refine lv_sipush (v := 4137) hx hb dX1_letterOf_13 (by decide) ?_
      refine lv_icmp_ge (tgt := 42) hx hb dX1_letterOf_16 (by decide) (fun c3 => ?_) (fun c3 => ?_)
      · replace hM := if_t c3 hM
        refine lv_iconst (v := (-1)) hx hb dX1_letterOf_42 (by decide) ?_
        cases hM
        exact rt_i hx hb hr hlk hP hD hS rfl dX1_letterOf_43
      · replace hM := if_f c3 hM
        refine lv_iload_n hx hb dX1_letterOf_19 rfl (lv_at hl 2 rfl) ?_
        refine lv_if_lt (tgt := 42) hx hb dX1_letterOf_20 (by decide) (fun c4 => ?_) (fun c4 => ?_)
        · replace hM := if_t c4 hM
          refine lv_iconst (v := (-1)) hx hb dX1_letterOf_42 (by decide) ?_
          cases hM
          exact rt_i hx hb hr hlk hP hD hS rfl dX1_letterOf_43
        · replace hM := if_f c4 hM
          refine lv_iload_n hx hb dX1_letterOf_23 rfl (lv_at hl 2 rfl) ?_
          refine lv_aload_n hx hb dX1_letterOf_24 rfl (lv_at hl 0 rfl) ?_
          refine va_get (D := D) (ci := 1) (v := .ref (ad 7)) (C := RX1) (T := TX1) (N := 6) hx hb hts layX1 hown hK hP 0 rfl rfl 1 (by decide) (hts _ (inA q305)) (fun _ h9 => h9) rfl dX1_letterOf_25 ?_
          refine lv_iload_n hx hb dX1_letterOf_28 rfl (lv_at hl 1 rfl) ?_
          refine lv_iconst (v := 1) hx hb dX1_letterOf_29 (by decide) ?_
          refine lv_iadd hx hb dX1_letterOf_30 ?_
          obtain ⟨b5, hM⟩ := gd_use hM
          refine va_iald hx hb hK hP 2 0 rfl rfl b5 dX1_letterOf_31 ?_
          refine lv_aload_n hx hb dX1_letterOf_32 rfl (lv_at hl 0 rfl) ?_
          refine va_get (D := D) (ci := 1) (v := .ref (ad 7)) (C := RX1) (T := TX1) (N := 6) hx hb hts layX1 hown hK hP 0 rfl rfl 1 (by decide) (hts _ (inA q305)) (fun _ h9 => h9) rfl dX1_letterOf_33 ?_
          refine lv_iload_n hx hb dX1_letterOf_36 rfl (lv_at hl 1 rfl) ?_
          obtain ⟨b6, hM⟩ := gd_use hM
          refine va_iald hx hb hK hP 2 0 rfl rfl b6 dX1_letterOf_37 ?_
          refine lv_isub hx hb dX1_letterOf_38 ?_
          refine lv_icmp_lt (tgt := 44) hx hb dX1_letterOf_39 (by decide) (fun c7 => ?_) (fun c7 => ?_)
          · replace hM := if_t c7 hM
            refine lv_aload_n hx hb dX1_letterOf_44 rfl (lv_at hl 0 rfl) ?_
            refine va_get (D := D) (ci := 1) (v := .ref (ad 7)) (C := RX1) (T := TX1) (N := 6) hx hb hts layX1 hown hK hP 0 rfl rfl 1 (by decide) (hts _ (inA q305)) (fun _ h9 => h9) rfl dX1_letterOf_45 ?_
            refine lv_iload_n hx hb dX1_letterOf_48 rfl (lv_at hl 1 rfl) ?_
            obtain ⟨b8, hM⟩ := gd_use hM
            refine va_iald hx hb hK hP 2 0 rfl rfl b8 dX1_letterOf_49 ?_
            refine lv_iload_n hx hb dX1_letterOf_50 rfl (lv_at hl 2 rfl) ?_
            refine lv_iadd hx hb dX1_letterOf_51 ?_
            refine lv_topi (fun x9 ex9 => ?_)
            replace hM := nm_use ex9 hM
            refine lv_istore_n (lv' := [(3, .int x9), (0, .ref (ad 5)), (1, .int a1), (2, .int a2)]) hx hb dX1_letterOf_52 rfl hl (by decide) rfl (fun ls hl => ?_)
            refine lv_iload_n hx hb dX1_letterOf_53 rfl (lv_at hl 0 rfl) ?_
            refine lv_if_lt (tgt := 75) hx hb dX1_letterOf_54 (by decide) (fun c10 => ?_) (fun c10 => ?_)
            · replace hM := if_t c10 hM
              refine lv_iconst (v := (-1)) hx hb dX1_letterOf_75 (by decide) ?_
              cases hM
              exact rt_i hx hb hr hlk hP hD hS rfl dX1_letterOf_76
            · replace hM := if_f c10 hM
              refine lv_iload_n hx hb dX1_letterOf_57 rfl (lv_at hl 0 rfl) ?_
              refine lv_aload_n hx hb dX1_letterOf_58 rfl (lv_at hl 1 rfl) ?_
              refine va_get (D := D) (ci := 1) (v := .ref (ad 6)) (C := RX1) (T := TX1) (N := 6) hx hb hts layX1 hown hK hP 0 rfl rfl 0 (by decide) (hts _ (inA q304)) (fun _ h9 => h9) rfl dX1_letterOf_59 ?_
              refine va_alen (v := 8704) hx hb hK hP 1 0 rfl rfl (show Int32.ofNat 8704 = 8704 by decide) dX1_letterOf_62 ?_
              refine lv_icmp_ge (tgt := 75) hx hb dX1_letterOf_63 (by decide) (fun c11 => ?_) (fun c11 => ?_)
              · replace hM := if_t c11 hM
                refine lv_iconst (v := (-1)) hx hb dX1_letterOf_75 (by decide) ?_
                cases hM
                exact rt_i hx hb hr hlk hP hD hS rfl dX1_letterOf_76
              · replace hM := if_f c11 hM
                refine lv_aload_n hx hb dX1_letterOf_66 rfl (lv_at hl 1 rfl) ?_
                refine va_get (D := D) (ci := 1) (v := .ref (ad 6)) (C := RX1) (T := TX1) (N := 6) hx hb hts layX1 hown hK hP 0 rfl rfl 0 (by decide) (hts _ (inA q304)) (fun _ h9 => h9) rfl dX1_letterOf_67 ?_
                refine lv_iload_n hx hb dX1_letterOf_70 rfl (lv_at hl 0 rfl) ?_
                obtain ⟨b12, hM⟩ := gd_use hM
                refine va_iald hx hb hK hP 1 0 rfl rfl b12 dX1_letterOf_71 ?_
                refine lv_goto (tgt := 76) hx hb dX1_letterOf_72 (by decide) ?_
                cases hM
                exact rt_i hx hb hr hlk hP hD hS rfl dX1_letterOf_76
          · replace hM := if_f c7 hM
            refine lv_iconst (v := (-1)) hx hb dX1_letterOf_42 (by decide) ?_
            cases hM
            exact rt_i hx hb hr hlk hP hD hS rfl dX1_letterOf_43
end
section
theorem dX3_add_0 : decode cX3_add 0 = .ok (.aload_n 0, 1) := by decide +kernel
theorem dX3_add_1 : decode cX3_add 1 = .ok (.getfield 33, 3) := by decide +kernel
theorem dX3_add_4 : decode cX3_add 4 = .ok (.istore 5, 2) := by decide +kernel
theorem dX3_add_6 : decode cX3_add 6 = .ok (.iload 5, 2) := by decide +kernel
theorem dX3_add_8 : decode cX3_add 8 = .ok (.ifCond .lt 11, 3) := by decide +kernel
theorem dX3_add_11 : decode cX3_add 11 = .ok (.iload 5, 2) := by decide +kernel
theorem dX3_add_13 : decode cX3_add 13 = .ok (.sipush 16384, 3) := by decide +kernel
theorem dX3_add_16 : decode cX3_add 16 = .ok (.if_icmp .lt 5, 3) := by decide +kernel
theorem dX3_add_19 : decode cX3_add 19 = .ok (.iconst (-1), 1) := by decide +kernel
theorem dX3_add_20 : decode cX3_add 20 = .ok (.ireturn, 1) := by decide +kernel
theorem dX3_add_21 : decode cX3_add 21 = .ok (.iload_n 1, 1) := by decide +kernel
theorem dX3_add_22 : decode cX3_add 22 = .ok (.ifCond .lt 19, 3) := by decide +kernel
theorem dX3_add_25 : decode cX3_add 25 = .ok (.iload_n 1, 1) := by decide +kernel
theorem dX3_add_26 : decode cX3_add 26 = .ok (.iload 5, 2) := by decide +kernel
theorem dX3_add_28 : decode cX3_add 28 = .ok (.if_icmp .ge 13, 3) := by decide +kernel
theorem dX3_add_31 : decode cX3_add 31 = .ok (.aload_n 0, 1) := by decide +kernel
theorem dX3_add_32 : decode cX3_add 32 = .ok (.getfield 21, 3) := by decide +kernel
theorem dX3_add_35 : decode cX3_add 35 = .ok (.iload_n 1, 1) := by decide +kernel
theorem dX3_add_36 : decode cX3_add 36 = .ok (.dup2, 1) := by decide +kernel
theorem dX3_add_37 : decode cX3_add 37 = .ok (.iaload, 1) := by decide +kernel
theorem dX3_add_38 : decode cX3_add 38 = .ok (.iconst 1, 1) := by decide +kernel
theorem dX3_add_39 : decode cX3_add 39 = .ok (.iadd, 1) := by decide +kernel
theorem dX3_add_40 : decode cX3_add 40 = .ok (.iastore, 1) := by decide +kernel
theorem dX3_add_41 : decode cX3_add 41 = .ok (.aload_n 0, 1) := by decide +kernel
theorem dX3_add_42 : decode cX3_add 42 = .ok (.getfield 9, 3) := by decide +kernel
theorem dX3_add_45 : decode cX3_add 45 = .ok (.iload 5, 2) := by decide +kernel
theorem dX3_add_47 : decode cX3_add 47 = .ok (.iload_n 2, 1) := by decide +kernel
theorem dX3_add_48 : decode cX3_add 48 = .ok (.iastore, 1) := by decide +kernel
theorem dX3_add_49 : decode cX3_add 49 = .ok (.aload_n 0, 1) := by decide +kernel
theorem dX3_add_50 : decode cX3_add 50 = .ok (.getfield 15, 3) := by decide +kernel
theorem dX3_add_53 : decode cX3_add 53 = .ok (.iload 5, 2) := by decide +kernel
theorem dX3_add_55 : decode cX3_add 55 = .ok (.iload_n 3, 1) := by decide +kernel
theorem dX3_add_56 : decode cX3_add 56 = .ok (.iastore, 1) := by decide +kernel
theorem dX3_add_57 : decode cX3_add 57 = .ok (.aload_n 0, 1) := by decide +kernel
theorem dX3_add_58 : decode cX3_add 58 = .ok (.getfield 18, 3) := by decide +kernel
theorem dX3_add_61 : decode cX3_add 61 = .ok (.iload 5, 2) := by decide +kernel
theorem dX3_add_63 : decode cX3_add 63 = .ok (.iload 4, 2) := by decide +kernel
theorem dX3_add_65 : decode cX3_add 65 = .ok (.iastore, 1) := by decide +kernel
theorem dX3_add_66 : decode cX3_add 66 = .ok (.aload_n 0, 1) := by decide +kernel
theorem dX3_add_67 : decode cX3_add 67 = .ok (.getfield 21, 3) := by decide +kernel
theorem dX3_add_70 : decode cX3_add 70 = .ok (.iload 5, 2) := by decide +kernel
theorem dX3_add_72 : decode cX3_add 72 = .ok (.iconst 0, 1) := by decide +kernel
theorem dX3_add_73 : decode cX3_add 73 = .ok (.iastore, 1) := by decide +kernel
theorem dX3_add_74 : decode cX3_add 74 = .ok (.aload_n 0, 1) := by decide +kernel
theorem dX3_add_75 : decode cX3_add 75 = .ok (.dup, 1) := by decide +kernel
theorem dX3_add_76 : decode cX3_add 76 = .ok (.getfield 33, 3) := by decide +kernel
theorem dX3_add_79 : decode cX3_add 79 = .ok (.iconst 1, 1) := by decide +kernel
theorem dX3_add_80 : decode cX3_add 80 = .ok (.iadd, 1) := by decide +kernel
theorem dX3_add_81 : decode cX3_add 81 = .ok (.putfield 33, 3) := by decide +kernel
theorem dX3_add_84 : decode cX3_add 84 = .ok (.iload 5, 2) := by decide +kernel
theorem dX3_add_86 : decode cX3_add 86 = .ok (.ireturn, 1) := by decide +kernel

theorem dX3_has_0 : decode cX3_has 0 = .ok (.iload_n 1, 1) := by decide +kernel
theorem dX3_has_1 : decode cX3_has 1 = .ok (.ifCond .lt 22, 3) := by decide +kernel
theorem dX3_has_4 : decode cX3_has 4 = .ok (.iload_n 1, 1) := by decide +kernel
theorem dX3_has_5 : decode cX3_has 5 = .ok (.aload_n 0, 1) := by decide +kernel
theorem dX3_has_6 : decode cX3_has 6 = .ok (.getfield 33, 3) := by decide +kernel
theorem dX3_has_9 : decode cX3_has 9 = .ok (.if_icmp .ge 14, 3) := by decide +kernel
theorem dX3_has_12 : decode cX3_has 12 = .ok (.iload_n 1, 1) := by decide +kernel
theorem dX3_has_13 : decode cX3_has 13 = .ok (.sipush 16384, 3) := by decide +kernel
theorem dX3_has_16 : decode cX3_has 16 = .ok (.if_icmp .ge 7, 3) := by decide +kernel
theorem dX3_has_19 : decode cX3_has 19 = .ok (.iconst 1, 1) := by decide +kernel
theorem dX3_has_20 : decode cX3_has 20 = .ok (.goto 4, 3) := by decide +kernel
theorem dX3_has_23 : decode cX3_has 23 = .ok (.iconst 0, 1) := by decide +kernel
theorem dX3_has_24 : decode cX3_has 24 = .ok (.ireturn, 1) := by decide +kernel

theorem dX3_wrap_0 : decode cX3_wrap 0 = .ok (.aload_n 0, 1) := by decide +kernel
theorem dX3_wrap_1 : decode cX3_wrap 1 = .ok (.iload_n 1, 1) := by decide +kernel
theorem dX3_wrap_2 : decode cX3_wrap 2 = .ok (.invokevirtual 37, 3) := by decide +kernel
theorem dX3_wrap_5 : decode cX3_wrap 5 = .ok (.ifCond .eq 13, 3) := by decide +kernel
theorem dX3_wrap_8 : decode cX3_wrap 8 = .ok (.aload_n 0, 1) := by decide +kernel
theorem dX3_wrap_9 : decode cX3_wrap 9 = .ok (.getfield 33, 3) := by decide +kernel
theorem dX3_wrap_12 : decode cX3_wrap 12 = .ok (.sipush 16384, 3) := by decide +kernel
theorem dX3_wrap_15 : decode cX3_wrap 15 = .ok (.if_icmp .lt 4, 3) := by decide +kernel
theorem dX3_wrap_18 : decode cX3_wrap 18 = .ok (.return_, 1) := by decide +kernel
theorem dX3_wrap_19 : decode cX3_wrap 19 = .ok (.aload_n 0, 1) := by decide +kernel
theorem dX3_wrap_20 : decode cX3_wrap 20 = .ok (.getfield 33, 3) := by decide +kernel
theorem dX3_wrap_23 : decode cX3_wrap 23 = .ok (.iload_n 1, 1) := by decide +kernel
theorem dX3_wrap_24 : decode cX3_wrap 24 = .ok (.isub, 1) := by decide +kernel
theorem dX3_wrap_25 : decode cX3_wrap 25 = .ok (.istore 5, 2) := by decide +kernel
theorem dX3_wrap_27 : decode cX3_wrap 27 = .ok (.aload_n 0, 1) := by decide +kernel
theorem dX3_wrap_28 : decode cX3_wrap 28 = .ok (.getfield 9, 3) := by decide +kernel
theorem dX3_wrap_31 : decode cX3_wrap 31 = .ok (.iload_n 1, 1) := by decide +kernel
theorem dX3_wrap_32 : decode cX3_wrap 32 = .ok (.aload_n 0, 1) := by decide +kernel
theorem dX3_wrap_33 : decode cX3_wrap 33 = .ok (.getfield 9, 3) := by decide +kernel
theorem dX3_wrap_36 : decode cX3_wrap 36 = .ok (.iload_n 1, 1) := by decide +kernel
theorem dX3_wrap_37 : decode cX3_wrap 37 = .ok (.iconst 1, 1) := by decide +kernel
theorem dX3_wrap_38 : decode cX3_wrap 38 = .ok (.iadd, 1) := by decide +kernel
theorem dX3_wrap_39 : decode cX3_wrap 39 = .ok (.iload 5, 2) := by decide +kernel
theorem dX3_wrap_41 : decode cX3_wrap 41 = .ok (.invokestatic 41, 3) := by decide +kernel
theorem dX3_wrap_44 : decode cX3_wrap 44 = .ok (.aload_n 0, 1) := by decide +kernel
theorem dX3_wrap_45 : decode cX3_wrap 45 = .ok (.getfield 15, 3) := by decide +kernel
theorem dX3_wrap_48 : decode cX3_wrap 48 = .ok (.iload_n 1, 1) := by decide +kernel
theorem dX3_wrap_49 : decode cX3_wrap 49 = .ok (.aload_n 0, 1) := by decide +kernel
theorem dX3_wrap_50 : decode cX3_wrap 50 = .ok (.getfield 15, 3) := by decide +kernel
theorem dX3_wrap_53 : decode cX3_wrap 53 = .ok (.iload_n 1, 1) := by decide +kernel
theorem dX3_wrap_54 : decode cX3_wrap 54 = .ok (.iconst 1, 1) := by decide +kernel
theorem dX3_wrap_55 : decode cX3_wrap 55 = .ok (.iadd, 1) := by decide +kernel
theorem dX3_wrap_56 : decode cX3_wrap 56 = .ok (.iload 5, 2) := by decide +kernel
theorem dX3_wrap_58 : decode cX3_wrap 58 = .ok (.invokestatic 41, 3) := by decide +kernel
theorem dX3_wrap_61 : decode cX3_wrap 61 = .ok (.aload_n 0, 1) := by decide +kernel
theorem dX3_wrap_62 : decode cX3_wrap 62 = .ok (.getfield 18, 3) := by decide +kernel
theorem dX3_wrap_65 : decode cX3_wrap 65 = .ok (.iload_n 1, 1) := by decide +kernel
theorem dX3_wrap_66 : decode cX3_wrap 66 = .ok (.aload_n 0, 1) := by decide +kernel
theorem dX3_wrap_67 : decode cX3_wrap 67 = .ok (.getfield 18, 3) := by decide +kernel
theorem dX3_wrap_70 : decode cX3_wrap 70 = .ok (.iload_n 1, 1) := by decide +kernel
theorem dX3_wrap_71 : decode cX3_wrap 71 = .ok (.iconst 1, 1) := by decide +kernel
theorem dX3_wrap_72 : decode cX3_wrap 72 = .ok (.iadd, 1) := by decide +kernel
theorem dX3_wrap_73 : decode cX3_wrap 73 = .ok (.iload 5, 2) := by decide +kernel
theorem dX3_wrap_75 : decode cX3_wrap 75 = .ok (.invokestatic 41, 3) := by decide +kernel
theorem dX3_wrap_78 : decode cX3_wrap 78 = .ok (.aload_n 0, 1) := by decide +kernel
theorem dX3_wrap_79 : decode cX3_wrap 79 = .ok (.getfield 21, 3) := by decide +kernel
theorem dX3_wrap_82 : decode cX3_wrap 82 = .ok (.iload_n 1, 1) := by decide +kernel
theorem dX3_wrap_83 : decode cX3_wrap 83 = .ok (.aload_n 0, 1) := by decide +kernel
theorem dX3_wrap_84 : decode cX3_wrap 84 = .ok (.getfield 21, 3) := by decide +kernel
theorem dX3_wrap_87 : decode cX3_wrap 87 = .ok (.iload_n 1, 1) := by decide +kernel
theorem dX3_wrap_88 : decode cX3_wrap 88 = .ok (.iconst 1, 1) := by decide +kernel
theorem dX3_wrap_89 : decode cX3_wrap 89 = .ok (.iadd, 1) := by decide +kernel
theorem dX3_wrap_90 : decode cX3_wrap 90 = .ok (.iload 5, 2) := by decide +kernel
theorem dX3_wrap_92 : decode cX3_wrap 92 = .ok (.invokestatic 41, 3) := by decide +kernel
theorem dX3_wrap_95 : decode cX3_wrap 95 = .ok (.aload_n 0, 1) := by decide +kernel
theorem dX3_wrap_96 : decode cX3_wrap 96 = .ok (.getfield 9, 3) := by decide +kernel
theorem dX3_wrap_99 : decode cX3_wrap 99 = .ok (.iload_n 1, 1) := by decide +kernel
theorem dX3_wrap_100 : decode cX3_wrap 100 = .ok (.iload_n 2, 1) := by decide +kernel
theorem dX3_wrap_101 : decode cX3_wrap 101 = .ok (.iastore, 1) := by decide +kernel
theorem dX3_wrap_102 : decode cX3_wrap 102 = .ok (.aload_n 0, 1) := by decide +kernel
theorem dX3_wrap_103 : decode cX3_wrap 103 = .ok (.getfield 15, 3) := by decide +kernel
theorem dX3_wrap_106 : decode cX3_wrap 106 = .ok (.iload_n 1, 1) := by decide +kernel
theorem dX3_wrap_107 : decode cX3_wrap 107 = .ok (.iload_n 3, 1) := by decide +kernel
theorem dX3_wrap_108 : decode cX3_wrap 108 = .ok (.iastore, 1) := by decide +kernel
theorem dX3_wrap_109 : decode cX3_wrap 109 = .ok (.aload_n 0, 1) := by decide +kernel
theorem dX3_wrap_110 : decode cX3_wrap 110 = .ok (.getfield 18, 3) := by decide +kernel
theorem dX3_wrap_113 : decode cX3_wrap 113 = .ok (.iload_n 1, 1) := by decide +kernel
theorem dX3_wrap_114 : decode cX3_wrap 114 = .ok (.iload 4, 2) := by decide +kernel
theorem dX3_wrap_116 : decode cX3_wrap 116 = .ok (.iastore, 1) := by decide +kernel
theorem dX3_wrap_117 : decode cX3_wrap 117 = .ok (.aload_n 0, 1) := by decide +kernel
theorem dX3_wrap_118 : decode cX3_wrap 118 = .ok (.getfield 21, 3) := by decide +kernel
theorem dX3_wrap_121 : decode cX3_wrap 121 = .ok (.iload_n 1, 1) := by decide +kernel
theorem dX3_wrap_122 : decode cX3_wrap 122 = .ok (.iconst 1, 1) := by decide +kernel
theorem dX3_wrap_123 : decode cX3_wrap 123 = .ok (.iastore, 1) := by decide +kernel
theorem dX3_wrap_124 : decode cX3_wrap 124 = .ok (.aload_n 0, 1) := by decide +kernel
theorem dX3_wrap_125 : decode cX3_wrap 125 = .ok (.dup, 1) := by decide +kernel
theorem dX3_wrap_126 : decode cX3_wrap 126 = .ok (.getfield 33, 3) := by decide +kernel
theorem dX3_wrap_129 : decode cX3_wrap 129 = .ok (.iconst 1, 1) := by decide +kernel
theorem dX3_wrap_130 : decode cX3_wrap 130 = .ok (.iadd, 1) := by decide +kernel
theorem dX3_wrap_131 : decode cX3_wrap 131 = .ok (.putfield 33, 3) := by decide +kernel
theorem dX3_wrap_134 : decode cX3_wrap 134 = .ok (.return_, 1) := by decide +kernel

theorem dX3_forget_0 : decode cX3_forget 0 = .ok (.aload_n 0, 1) := by decide +kernel
theorem dX3_forget_1 : decode cX3_forget 1 = .ok (.iconst 0, 1) := by decide +kernel
theorem dX3_forget_2 : decode cX3_forget 2 = .ok (.putfield 33, 3) := by decide +kernel
theorem dX3_forget_5 : decode cX3_forget 5 = .ok (.return_, 1) := by decide +kernel

theorem dX3_firstUnfilled_0 : decode cX3_firstUnfilled 0 = .ok (.iload_n 1, 1) := by decide +kernel
theorem dX3_firstUnfilled_1 : decode cX3_firstUnfilled 1 = .ok (.istore_n 2, 1) := by decide +kernel
theorem dX3_firstUnfilled_2 : decode cX3_firstUnfilled 2 = .ok (.iconst 0, 1) := by decide +kernel
theorem dX3_firstUnfilled_3 : decode cX3_firstUnfilled 3 = .ok (.istore_n 3, 1) := by decide +kernel
theorem dX3_firstUnfilled_4 : decode cX3_firstUnfilled 4 = .ok (.iload_n 3, 1) := by decide +kernel
theorem dX3_firstUnfilled_5 : decode cX3_firstUnfilled 5 = .ok (.aload_n 0, 1) := by decide +kernel
theorem dX3_firstUnfilled_6 : decode cX3_firstUnfilled 6 = .ok (.getfield 33, 3) := by decide +kernel
theorem dX3_firstUnfilled_9 : decode cX3_firstUnfilled 9 = .ok (.if_icmp .ge 39, 3) := by decide +kernel
theorem dX3_firstUnfilled_12 : decode cX3_firstUnfilled 12 = .ok (.aload_n 0, 1) := by decide +kernel
theorem dX3_firstUnfilled_13 : decode cX3_firstUnfilled 13 = .ok (.iload_n 2, 1) := by decide +kernel
theorem dX3_firstUnfilled_14 : decode cX3_firstUnfilled 14 = .ok (.invokevirtual 37, 3) := by decide +kernel
theorem dX3_firstUnfilled_17 : decode cX3_firstUnfilled 17 = .ok (.ifCond .eq 31, 3) := by decide +kernel
theorem dX3_firstUnfilled_20 : decode cX3_firstUnfilled 20 = .ok (.aload_n 0, 1) := by decide +kernel
theorem dX3_firstUnfilled_21 : decode cX3_firstUnfilled 21 = .ok (.getfield 30, 3) := by decide +kernel
theorem dX3_firstUnfilled_24 : decode cX3_firstUnfilled 24 = .ok (.iload_n 2, 1) := by decide +kernel
theorem dX3_firstUnfilled_25 : decode cX3_firstUnfilled 25 = .ok (.iaload, 1) := by decide +kernel
theorem dX3_firstUnfilled_26 : decode cX3_firstUnfilled 26 = .ok (.aload_n 0, 1) := by decide +kernel
theorem dX3_firstUnfilled_27 : decode cX3_firstUnfilled 27 = .ok (.getfield 21, 3) := by decide +kernel
theorem dX3_firstUnfilled_30 : decode cX3_firstUnfilled 30 = .ok (.iload_n 2, 1) := by decide +kernel
theorem dX3_firstUnfilled_31 : decode cX3_firstUnfilled 31 = .ok (.iaload, 1) := by decide +kernel
theorem dX3_firstUnfilled_32 : decode cX3_firstUnfilled 32 = .ok (.if_icmp .lt 16, 3) := by decide +kernel
theorem dX3_firstUnfilled_35 : decode cX3_firstUnfilled 35 = .ok (.aload_n 0, 1) := by decide +kernel
theorem dX3_firstUnfilled_36 : decode cX3_firstUnfilled 36 = .ok (.getfield 24, 3) := by decide +kernel
theorem dX3_firstUnfilled_39 : decode cX3_firstUnfilled 39 = .ok (.iload_n 2, 1) := by decide +kernel
theorem dX3_firstUnfilled_40 : decode cX3_firstUnfilled 40 = .ok (.iaload, 1) := by decide +kernel
theorem dX3_firstUnfilled_41 : decode cX3_firstUnfilled 41 = .ok (.istore_n 2, 1) := by decide +kernel
theorem dX3_firstUnfilled_42 : decode cX3_firstUnfilled 42 = .ok (.iinc 3 1, 3) := by decide +kernel
theorem dX3_firstUnfilled_45 : decode cX3_firstUnfilled 45 = .ok (.goto (-41), 3) := by decide +kernel
theorem dX3_firstUnfilled_48 : decode cX3_firstUnfilled 48 = .ok (.iload_n 2, 1) := by decide +kernel
theorem dX3_firstUnfilled_49 : decode cX3_firstUnfilled 49 = .ok (.ireturn, 1) := by decide +kernel

theorem dX3_link_0 : decode cX3_link 0 = .ok (.iconst (-1), 1) := by decide +kernel
theorem dX3_link_1 : decode cX3_link 1 = .ok (.istore_n 1, 1) := by decide +kernel
theorem dX3_link_2 : decode cX3_link 2 = .ok (.iconst 0, 1) := by decide +kernel
theorem dX3_link_3 : decode cX3_link 3 = .ok (.istore_n 2, 1) := by decide +kernel
theorem dX3_link_4 : decode cX3_link 4 = .ok (.iload_n 2, 1) := by decide +kernel
theorem dX3_link_5 : decode cX3_link 5 = .ok (.aload_n 0, 1) := by decide +kernel
theorem dX3_link_6 : decode cX3_link 6 = .ok (.getfield 33, 3) := by decide +kernel
theorem dX3_link_9 : decode cX3_link 9 = .ok (.if_icmp .ge 67, 3) := by decide +kernel
theorem dX3_link_12 : decode cX3_link 12 = .ok (.iload_n 2, 1) := by decide +kernel
theorem dX3_link_13 : decode cX3_link 13 = .ok (.sipush 16384, 3) := by decide +kernel
theorem dX3_link_16 : decode cX3_link 16 = .ok (.if_icmp .ge 60, 3) := by decide +kernel
theorem dX3_link_19 : decode cX3_link 19 = .ok (.aload_n 0, 1) := by decide +kernel
theorem dX3_link_20 : decode cX3_link 20 = .ok (.iload_n 1, 1) := by decide +kernel
theorem dX3_link_21 : decode cX3_link 21 = .ok (.invokevirtual 47, 3) := by decide +kernel
theorem dX3_link_24 : decode cX3_link 24 = .ok (.istore_n 1, 1) := by decide +kernel
theorem dX3_link_25 : decode cX3_link 25 = .ok (.aload_n 0, 1) := by decide +kernel
theorem dX3_link_26 : decode cX3_link 26 = .ok (.getfield 24, 3) := by decide +kernel
theorem dX3_link_29 : decode cX3_link 29 = .ok (.iload_n 2, 1) := by decide +kernel
theorem dX3_link_30 : decode cX3_link 30 = .ok (.iload_n 1, 1) := by decide +kernel
theorem dX3_link_31 : decode cX3_link 31 = .ok (.iastore, 1) := by decide +kernel
theorem dX3_link_32 : decode cX3_link 32 = .ok (.aload_n 0, 1) := by decide +kernel
theorem dX3_link_33 : decode cX3_link 33 = .ok (.getfield 27, 3) := by decide +kernel
theorem dX3_link_36 : decode cX3_link 36 = .ok (.iload_n 2, 1) := by decide +kernel
theorem dX3_link_37 : decode cX3_link 37 = .ok (.aload_n 0, 1) := by decide +kernel
theorem dX3_link_38 : decode cX3_link 38 = .ok (.iload_n 1, 1) := by decide +kernel
theorem dX3_link_39 : decode cX3_link 39 = .ok (.invokevirtual 37, 3) := by decide +kernel
theorem dX3_link_42 : decode cX3_link 42 = .ok (.ifCond .eq 17, 3) := by decide +kernel
theorem dX3_link_45 : decode cX3_link 45 = .ok (.aload_n 0, 1) := by decide +kernel
theorem dX3_link_46 : decode cX3_link 46 = .ok (.getfield 30, 3) := by decide +kernel
theorem dX3_link_49 : decode cX3_link 49 = .ok (.iload_n 1, 1) := by decide +kernel
theorem dX3_link_50 : decode cX3_link 50 = .ok (.dup2, 1) := by decide +kernel
theorem dX3_link_51 : decode cX3_link 51 = .ok (.iaload, 1) := by decide +kernel
theorem dX3_link_52 : decode cX3_link 52 = .ok (.dup_x2, 1) := by decide +kernel
theorem dX3_link_53 : decode cX3_link 53 = .ok (.iconst 1, 1) := by decide +kernel
theorem dX3_link_54 : decode cX3_link 54 = .ok (.iadd, 1) := by decide +kernel
theorem dX3_link_55 : decode cX3_link 55 = .ok (.iastore, 1) := by decide +kernel
theorem dX3_link_56 : decode cX3_link 56 = .ok (.goto 4, 3) := by decide +kernel
theorem dX3_link_59 : decode cX3_link 59 = .ok (.iconst 0, 1) := by decide +kernel
theorem dX3_link_60 : decode cX3_link 60 = .ok (.iastore, 1) := by decide +kernel
theorem dX3_link_61 : decode cX3_link 61 = .ok (.aload_n 0, 1) := by decide +kernel
theorem dX3_link_62 : decode cX3_link 62 = .ok (.getfield 30, 3) := by decide +kernel
theorem dX3_link_65 : decode cX3_link 65 = .ok (.iload_n 2, 1) := by decide +kernel
theorem dX3_link_66 : decode cX3_link 66 = .ok (.iconst 0, 1) := by decide +kernel
theorem dX3_link_67 : decode cX3_link 67 = .ok (.iastore, 1) := by decide +kernel
theorem dX3_link_68 : decode cX3_link 68 = .ok (.iload_n 2, 1) := by decide +kernel
theorem dX3_link_69 : decode cX3_link 69 = .ok (.istore_n 1, 1) := by decide +kernel
theorem dX3_link_70 : decode cX3_link 70 = .ok (.iinc 2 1, 3) := by decide +kernel
theorem dX3_link_73 : decode cX3_link 73 = .ok (.goto (-69), 3) := by decide +kernel
theorem dX3_link_76 : decode cX3_link 76 = .ok (.return_, 1) := by decide +kernel

theorem dX3_children_0 : decode cX3_children 0 = .ok (.aload_n 0, 1) := by decide +kernel
theorem dX3_children_1 : decode cX3_children 1 = .ok (.iload_n 1, 1) := by decide +kernel
theorem dX3_children_2 : decode cX3_children 2 = .ok (.invokevirtual 37, 3) := by decide +kernel
theorem dX3_children_5 : decode cX3_children 5 = .ok (.ifCond .eq 12, 3) := by decide +kernel
theorem dX3_children_8 : decode cX3_children 8 = .ok (.aload_n 0, 1) := by decide +kernel
theorem dX3_children_9 : decode cX3_children 9 = .ok (.getfield 21, 3) := by decide +kernel
theorem dX3_children_12 : decode cX3_children 12 = .ok (.iload_n 1, 1) := by decide +kernel
theorem dX3_children_13 : decode cX3_children 13 = .ok (.iaload, 1) := by decide +kernel
theorem dX3_children_14 : decode cX3_children 14 = .ok (.goto 4, 3) := by decide +kernel
theorem dX3_children_17 : decode cX3_children 17 = .ok (.iconst (-1), 1) := by decide +kernel
theorem dX3_children_18 : decode cX3_children 18 = .ok (.ireturn, 1) := by decide +kernel

theorem dX3_kind_0 : decode cX3_kind 0 = .ok (.aload_n 0, 1) := by decide +kernel
theorem dX3_kind_1 : decode cX3_kind 1 = .ok (.iload_n 1, 1) := by decide +kernel
theorem dX3_kind_2 : decode cX3_kind 2 = .ok (.invokevirtual 37, 3) := by decide +kernel
theorem dX3_kind_5 : decode cX3_kind 5 = .ok (.ifCond .eq 12, 3) := by decide +kernel
theorem dX3_kind_8 : decode cX3_kind 8 = .ok (.aload_n 0, 1) := by decide +kernel
theorem dX3_kind_9 : decode cX3_kind 9 = .ok (.getfield 9, 3) := by decide +kernel
theorem dX3_kind_12 : decode cX3_kind 12 = .ok (.iload_n 1, 1) := by decide +kernel
theorem dX3_kind_13 : decode cX3_kind 13 = .ok (.iaload, 1) := by decide +kernel
theorem dX3_kind_14 : decode cX3_kind 14 = .ok (.goto 4, 3) := by decide +kernel
theorem dX3_kind_17 : decode cX3_kind 17 = .ok (.iconst (-1), 1) := by decide +kernel
theorem dX3_kind_18 : decode cX3_kind 18 = .ok (.ireturn, 1) := by decide +kernel

theorem dX3_parent_0 : decode cX3_parent 0 = .ok (.aload_n 0, 1) := by decide +kernel
theorem dX3_parent_1 : decode cX3_parent 1 = .ok (.iload_n 1, 1) := by decide +kernel
theorem dX3_parent_2 : decode cX3_parent 2 = .ok (.invokevirtual 37, 3) := by decide +kernel
theorem dX3_parent_5 : decode cX3_parent 5 = .ok (.ifCond .eq 12, 3) := by decide +kernel
theorem dX3_parent_8 : decode cX3_parent 8 = .ok (.aload_n 0, 1) := by decide +kernel
theorem dX3_parent_9 : decode cX3_parent 9 = .ok (.getfield 24, 3) := by decide +kernel
theorem dX3_parent_12 : decode cX3_parent 12 = .ok (.iload_n 1, 1) := by decide +kernel
theorem dX3_parent_13 : decode cX3_parent 13 = .ok (.iaload, 1) := by decide +kernel
theorem dX3_parent_14 : decode cX3_parent 14 = .ok (.goto 4, 3) := by decide +kernel
theorem dX3_parent_17 : decode cX3_parent 17 = .ok (.iconst (-1), 1) := by decide +kernel
theorem dX3_parent_18 : decode cX3_parent 18 = .ok (.ireturn, 1) := by decide +kernel

theorem dX3_place_0 : decode cX3_place 0 = .ok (.aload_n 0, 1) := by decide +kernel
theorem dX3_place_1 : decode cX3_place 1 = .ok (.iload_n 1, 1) := by decide +kernel
theorem dX3_place_2 : decode cX3_place 2 = .ok (.invokevirtual 37, 3) := by decide +kernel
theorem dX3_place_5 : decode cX3_place 5 = .ok (.ifCond .eq 12, 3) := by decide +kernel
theorem dX3_place_8 : decode cX3_place 8 = .ok (.aload_n 0, 1) := by decide +kernel
theorem dX3_place_9 : decode cX3_place 9 = .ok (.getfield 15, 3) := by decide +kernel
theorem dX3_place_12 : decode cX3_place 12 = .ok (.iload_n 1, 1) := by decide +kernel
theorem dX3_place_13 : decode cX3_place 13 = .ok (.iaload, 1) := by decide +kernel
theorem dX3_place_14 : decode cX3_place 14 = .ok (.goto 4, 3) := by decide +kernel
theorem dX3_place_17 : decode cX3_place 17 = .ok (.iconst (-1), 1) := by decide +kernel
theorem dX3_place_18 : decode cX3_place 18 = .ok (.ireturn, 1) := by decide +kernel

theorem dX3_value_0 : decode cX3_value 0 = .ok (.aload_n 0, 1) := by decide +kernel
theorem dX3_value_1 : decode cX3_value 1 = .ok (.iload_n 1, 1) := by decide +kernel
theorem dX3_value_2 : decode cX3_value 2 = .ok (.invokevirtual 37, 3) := by decide +kernel
theorem dX3_value_5 : decode cX3_value 5 = .ok (.ifCond .eq 12, 3) := by decide +kernel
theorem dX3_value_8 : decode cX3_value 8 = .ok (.aload_n 0, 1) := by decide +kernel
theorem dX3_value_9 : decode cX3_value 9 = .ok (.getfield 18, 3) := by decide +kernel
theorem dX3_value_12 : decode cX3_value 12 = .ok (.iload_n 1, 1) := by decide +kernel
theorem dX3_value_13 : decode cX3_value 13 = .ok (.iaload, 1) := by decide +kernel
theorem dX3_value_14 : decode cX3_value 14 = .ok (.goto 4, 3) := by decide +kernel
theorem dX3_value_17 : decode cX3_value 17 = .ok (.iconst (-1), 1) := by decide +kernel
theorem dX3_value_18 : decode cX3_value 18 = .ok (.ireturn, 1) := by decide +kernel

theorem dX3_rank_0 : decode cX3_rank 0 = .ok (.aload_n 0, 1) := by decide +kernel
theorem dX3_rank_1 : decode cX3_rank 1 = .ok (.iload_n 1, 1) := by decide +kernel
theorem dX3_rank_2 : decode cX3_rank 2 = .ok (.invokevirtual 37, 3) := by decide +kernel
theorem dX3_rank_5 : decode cX3_rank 5 = .ok (.ifCond .eq 12, 3) := by decide +kernel
theorem dX3_rank_8 : decode cX3_rank 8 = .ok (.aload_n 0, 1) := by decide +kernel
theorem dX3_rank_9 : decode cX3_rank 9 = .ok (.getfield 27, 3) := by decide +kernel
theorem dX3_rank_12 : decode cX3_rank 12 = .ok (.iload_n 1, 1) := by decide +kernel
theorem dX3_rank_13 : decode cX3_rank 13 = .ok (.iaload, 1) := by decide +kernel
theorem dX3_rank_14 : decode cX3_rank 14 = .ok (.goto 4, 3) := by decide +kernel
theorem dX3_rank_17 : decode cX3_rank 17 = .ok (.iconst (-1), 1) := by decide +kernel
theorem dX3_rank_18 : decode cX3_rank 18 = .ok (.ireturn, 1) := by decide +kernel
end
section
def f_Tree_add (o_this : S_Tree) (a1 : Int32) (a2 : Int32) (a3 : Int32) (a4 : Int32) : Option (Int32 × S_Tree) :=
  if o_this.1 < 0 then
    some ((-1), o_this)
  else
    if o_this.1 < 16384 then
      if a1 < 0 then
        gd o_this.1 16384 <|
        gd o_this.1 16384 <|
        gd o_this.1 16384 <|
        gd o_this.1 16384 <|
        some (o_this.1, (o_this.1 + 1, upd o_this.2.1 o_this.1.toNatClampNeg a2, upd o_this.2.2.1 o_this.1.toNatClampNeg a3, upd o_this.2.2.2.1 o_this.1.toNatClampNeg a4, upd o_this.2.2.2.2.1 o_this.1.toNatClampNeg 0, o_this.2.2.2.2.2))
      else
        if o_this.1 ≤ a1 then
          gd o_this.1 16384 <|
          gd o_this.1 16384 <|
          gd o_this.1 16384 <|
          gd o_this.1 16384 <|
          some (o_this.1, (o_this.1 + 1, upd o_this.2.1 o_this.1.toNatClampNeg a2, upd o_this.2.2.1 o_this.1.toNatClampNeg a3, upd o_this.2.2.2.1 o_this.1.toNatClampNeg a4, upd o_this.2.2.2.2.1 o_this.1.toNatClampNeg 0, o_this.2.2.2.2.2))
        else
          gd a1 16384 <|
          nm ((o_this.2.2.2.2.1 a1.toNatClampNeg) + 1) fun x15 =>
          gd a1 16384 <|
          gd o_this.1 16384 <|
          gd o_this.1 16384 <|
          gd o_this.1 16384 <|
          gd o_this.1 16384 <|
          some (o_this.1, (o_this.1 + 1, upd o_this.2.1 o_this.1.toNatClampNeg a2, upd o_this.2.2.1 o_this.1.toNatClampNeg a3, upd o_this.2.2.2.1 o_this.1.toNatClampNeg a4, upd (upd o_this.2.2.2.2.1 a1.toNatClampNeg x15) o_this.1.toNatClampNeg 0, o_this.2.2.2.2.2))
    else
      some ((-1), o_this)

def f_Tree_has (o_this : S_Tree) (a1 : Int32) : Option (Int32) :=
  if a1 < 0 then
    some 0
  else
    if o_this.1 ≤ a1 then
      some 0
    else
      if 16384 ≤ a1 then
        some 0
      else
        some 1

def f_Tree_wrap (o_this : S_Tree) (a1 : Int32) (a2 : Int32) (a3 : Int32) (a4 : Int32) : Option (S_Tree) :=
  (f_Tree_has o_this a1).bind fun r1 =>
  if r1 = 0 then
    some o_this
  else
    if o_this.1 < 16384 then
      ac a1 (a1 + 1) (o_this.1 - a1) 16384 16384 <|
      ac a1 (a1 + 1) (o_this.1 - a1) 16384 16384 <|
      ac a1 (a1 + 1) (o_this.1 - a1) 16384 16384 <|
      ac a1 (a1 + 1) (o_this.1 - a1) 16384 16384 <|
      gd a1 16384 <|
      gd a1 16384 <|
      gd a1 16384 <|
      gd a1 16384 <|
      some (o_this.1 + 1, upd (va_cpy o_this.2.1 o_this.2.1 a1.toNatClampNeg (a1 + 1).toNatClampNeg (o_this.1 - a1).toNatClampNeg) a1.toNatClampNeg a2, upd (va_cpy o_this.2.2.1 o_this.2.2.1 a1.toNatClampNeg (a1 + 1).toNatClampNeg (o_this.1 - a1).toNatClampNeg) a1.toNatClampNeg a3, upd (va_cpy o_this.2.2.2.1 o_this.2.2.2.1 a1.toNatClampNeg (a1 + 1).toNatClampNeg (o_this.1 - a1).toNatClampNeg) a1.toNatClampNeg a4, upd (va_cpy o_this.2.2.2.2.1 o_this.2.2.2.2.1 a1.toNatClampNeg (a1 + 1).toNatClampNeg (o_this.1 - a1).toNatClampNeg) a1.toNatClampNeg 1, o_this.2.2.2.2.2)
    else
      some o_this

def f_Tree_forget (o_this : S_Tree) : Option (S_Tree) :=
  some (0, o_this.2)

def f_Tree_firstUnfilled_L4 (o_this : S_Tree) : Nat → Int32 → Int32 → Option (Int32)
  | 0, _, _ => none
  | n + 1, v3_L4, v2_L4 =>
    if o_this.1 ≤ v3_L4 then
      some v2_L4
    else
      (f_Tree_has o_this v2_L4).bind fun r2 =>
      if r2 = 0 then
        some v2_L4
      else
        gd v2_L4 16384 <|
        gd v2_L4 16384 <|
        if (o_this.2.2.2.2.2.2.2 v2_L4.toNatClampNeg) < (o_this.2.2.2.2.1 v2_L4.toNatClampNeg) then
          some v2_L4
        else
          gd v2_L4 16384 <|
          nm (o_this.2.2.2.2.2.1 v2_L4.toNatClampNeg) fun x8 =>
          nm (v3_L4 + 1) fun x9 =>
          f_Tree_firstUnfilled_L4 o_this n x9 x8
def f_Tree_firstUnfilled (o_this : S_Tree) (a1 : Int32) : Option (Int32) :=
  (f_Tree_firstUnfilled_L4 o_this FU 0 a1).bind fun r10 =>
  some r10

def f_Tree_link_L4 : Nat → Int32 → Int32 → S_Tree → Option (S_Tree)
  | 0, _, _, _ => none
  | n + 1, v2_L4, v1_L4, o_this_L4 =>
    if o_this_L4.1 ≤ v2_L4 then
      some o_this_L4
    else
      if 16384 ≤ v2_L4 then
        some o_this_L4
      else
        (f_Tree_firstUnfilled o_this_L4 v1_L4).bind fun r3 =>
        gd v2_L4 16384 <|
        (f_Tree_has (o_this_L4.1, o_this_L4.2.1, o_this_L4.2.2.1, o_this_L4.2.2.2.1, o_this_L4.2.2.2.2.1, upd o_this_L4.2.2.2.2.2.1 v2_L4.toNatClampNeg r3, o_this_L4.2.2.2.2.2.2) r3).bind fun r5 =>
        if r5 = 0 then
          gd v2_L4 16384 <|
          gd v2_L4 16384 <|
          nm (v2_L4 + 1) fun x9 =>
          f_Tree_link_L4 n x9 v2_L4 (o_this_L4.1, o_this_L4.2.1, o_this_L4.2.2.1, o_this_L4.2.2.2.1, o_this_L4.2.2.2.2.1, upd o_this_L4.2.2.2.2.2.1 v2_L4.toNatClampNeg r3, upd o_this_L4.2.2.2.2.2.2.1 v2_L4.toNatClampNeg 0, upd o_this_L4.2.2.2.2.2.2.2 v2_L4.toNatClampNeg 0)
        else
          gd r3 16384 <|
          nm ((o_this_L4.2.2.2.2.2.2.2 r3.toNatClampNeg) + 1) fun x12 =>
          gd r3 16384 <|
          nm (o_this_L4.2.2.2.2.2.2.2 r3.toNatClampNeg) fun x14 =>
          gd v2_L4 16384 <|
          gd v2_L4 16384 <|
          nm (v2_L4 + 1) fun x16 =>
          f_Tree_link_L4 n x16 v2_L4 (o_this_L4.1, o_this_L4.2.1, o_this_L4.2.2.1, o_this_L4.2.2.2.1, o_this_L4.2.2.2.2.1, upd o_this_L4.2.2.2.2.2.1 v2_L4.toNatClampNeg r3, upd o_this_L4.2.2.2.2.2.2.1 v2_L4.toNatClampNeg x14, upd (upd o_this_L4.2.2.2.2.2.2.2 r3.toNatClampNeg x12) v2_L4.toNatClampNeg 0)
def f_Tree_link (o_this : S_Tree) : Option (S_Tree) :=
  (f_Tree_link_L4 FU 0 (-1) o_this).bind fun r17 =>
  some r17

def f_Tree_children (o_this : S_Tree) (a1 : Int32) : Option (Int32) :=
  (f_Tree_has o_this a1).bind fun r1 =>
  if r1 = 0 then
    some (-1)
  else
    gd a1 16384 <|
    some (o_this.2.2.2.2.1 a1.toNatClampNeg)

def f_Tree_kind (o_this : S_Tree) (a1 : Int32) : Option (Int32) :=
  (f_Tree_has o_this a1).bind fun r1 =>
  if r1 = 0 then
    some (-1)
  else
    gd a1 16384 <|
    some (o_this.2.1 a1.toNatClampNeg)

def f_Tree_parent (o_this : S_Tree) (a1 : Int32) : Option (Int32) :=
  (f_Tree_has o_this a1).bind fun r1 =>
  if r1 = 0 then
    some (-1)
  else
    gd a1 16384 <|
    some (o_this.2.2.2.2.2.1 a1.toNatClampNeg)

def f_Tree_place (o_this : S_Tree) (a1 : Int32) : Option (Int32) :=
  (f_Tree_has o_this a1).bind fun r1 =>
  if r1 = 0 then
    some (-1)
  else
    gd a1 16384 <|
    some (o_this.2.2.1 a1.toNatClampNeg)

def f_Tree_value (o_this : S_Tree) (a1 : Int32) : Option (Int32) :=
  (f_Tree_has o_this a1).bind fun r1 =>
  if r1 = 0 then
    some (-1)
  else
    gd a1 16384 <|
    some (o_this.2.2.2.1 a1.toNatClampNeg)

def f_Tree_rank (o_this : S_Tree) (a1 : Int32) : Option (Int32) :=
  (f_Tree_has o_this a1).bind fun r1 =>
  if r1 = 0 then
    some (-1)
  else
    gd a1 16384 <|
    some (o_this.2.2.2.2.2.2.1 a1.toNatClampNeg)
end
section
set_option maxHeartbeats 4000000 in
set_option maxRecDepth 100000 in
theorem c_Tree_add (l : Launch) (D : va_G) (cI : ClassId) (sd : Nat → Nat) (ad : Nat → Nat) (o_this : S_Tree) (a1 : Int32) (a2 : Int32) (a3 : Int32) (a4 : Int32) (res : Int32 × S_Tree) (hM : f_Tree_add o_this a1 a2 a3 a4 = some res) : Ctr l D cI sd yX3_add (wsM yX3_add cX3_add 6 (Option.some Jvm.ClassFile.FieldType.int)) { frames := 0, cells := 0, slots := 0, locals := 0 } [.ref (ad 14), .int a1, .int a2, .int a3, .int a4] (wT cI ad o_this) (wT cI ad res.2) (some (.int res.1)) := by
  refine Ctr.of (cc := cX3_add) (maxL := 6) (own := RX3) (by decide +kernel) rfl rfl (Nat.le_of_ble_eq_true rfl) ?_
  intro p e s m below meth c A ls hx hb hr hml hown hts hlk hK hE hA hP hD hS hl
  have hl : lv_has ls 6 [(0, .ref (ad 14)), (1, .int a1), (2, .int a2), (3, .int a3), (4, .int a4)] := hl
  unfold f_Tree_add at hM
  refine lv_aload_n hx hb dX3_add_0 rfl (lv_at hl 0 rfl) ?_
  refine va_get (D := D) (ci := 3) (v := .int o_this.1) (C := RX3) (T := TX3) (N := 8) hx hb hts layX3 hown hK hP 0 rfl rfl 7 (by decide) (hts _ (inA q370)) (fun _ h9 => h9) rfl dX3_add_1 ?_
  refine lv_istore (lv' := [(5, .int o_this.1), (0, .ref (ad 14)), (1, .int a1), (2, .int a2), (3, .int a3), (4, .int a4)]) hx hb dX3_add_4 hl (by decide) rfl (fun ls hl => ?_)
  refine lv_iload hx hb dX3_add_6 (lv_at hl 0 rfl) ?_
  refine lv_if_lt (tgt := 19) hx hb dX3_add_8 (by decide) (fun c1 => ?_) (fun c1 => ?_)
  · replace hM := if_t c1 hM
    refine lv_iconst (v := (-1)) hx hb dX3_add_19 (by decide) ?_
    cases hM
    exact rt_i hx hb hr hlk hP hD hS rfl dX3_add_20
  · replace hM := if_f c1 hM
    refine lv_iload hx hb dX3_add_11 (lv_at hl 0 rfl) ?_
    refine lv_sipush (v := 16384) hx hb dX3_add_13 (by decide) ?_
    refine lv_icmp_lt (tgt := 21) hx hb dX3_add_16 (by decide) (fun c2 => ?_) (fun c2 => ?_)
    · replace hM := if_t c2 hM
      refine lv_iload_n hx hb dX3_add_21 rfl (lv_at hl 2 rfl) ?_
      refine lv_if_lt (tgt := 41) hx hb dX3_add_22 (by decide) (fun c3 => ?_) (fun c3 => ?_)
      · replace hM := if_t c3 hM
        refine lv_aload_n hx hb dX3_add_41 rfl (lv_at hl 1 rfl) ?_
        refine va_get (D := D) (ci := 3) (v := .ref (ad 15)) (C := RX3) (T := TX3) (N := 8) hx hb hts layX3 hown hK hP 0 rfl rfl 0 (by decide) (hts _ (inA q363)) (fun _ h9 => h9) rfl dX3_add_42 ?_
        refine lv_iload hx hb dX3_add_45 (lv_at hl 0 rfl) ?_
        refine lv_iload_n hx hb dX3_add_47 rfl (lv_at hl 3 rfl) ?_
        obtain ⟨b4, hM⟩ := gd_use hM
        refine va_iast hx hb hK hP hD hS 1 0 rfl rfl b4 dX3_add_48 (fun H locs hP hD hS => ?_)
        have hP : va_P D vwCl (wT cI ad (o_this.1, upd o_this.2.1 o_this.1.toNatClampNeg a2, o_this.2.2)) H := hP
        have hD : va_D A (wT cI ad (o_this.1, upd o_this.2.1 o_this.1.toNatClampNeg a2, o_this.2.2)) := hD
        refine lv_aload_n hx hb dX3_add_49 rfl (lv_at hl 1 rfl) ?_
        refine va_get (D := D) (ci := 3) (v := .ref (ad 16)) (C := RX3) (T := TX3) (N := 8) hx hb hts layX3 hown hK hP 0 rfl rfl 1 (by decide) (hts _ (inA q364)) (fun _ h9 => h9) rfl dX3_add_50 ?_
        refine lv_iload hx hb dX3_add_53 (lv_at hl 0 rfl) ?_
        refine lv_iload_n hx hb dX3_add_55 rfl (lv_at hl 4 rfl) ?_
        obtain ⟨b5, hM⟩ := gd_use hM
        refine va_iast hx hb hK hP hD hS 2 0 rfl rfl b5 dX3_add_56 (fun H locs hP hD hS => ?_)
        have hP : va_P D vwCl (wT cI ad (o_this.1, upd o_this.2.1 o_this.1.toNatClampNeg a2, upd o_this.2.2.1 o_this.1.toNatClampNeg a3, o_this.2.2.2)) H := hP
        have hD : va_D A (wT cI ad (o_this.1, upd o_this.2.1 o_this.1.toNatClampNeg a2, upd o_this.2.2.1 o_this.1.toNatClampNeg a3, o_this.2.2.2)) := hD
        refine lv_aload_n hx hb dX3_add_57 rfl (lv_at hl 1 rfl) ?_
        refine va_get (D := D) (ci := 3) (v := .ref (ad 17)) (C := RX3) (T := TX3) (N := 8) hx hb hts layX3 hown hK hP 0 rfl rfl 2 (by decide) (hts _ (inA q365)) (fun _ h9 => h9) rfl dX3_add_58 ?_
        refine lv_iload hx hb dX3_add_61 (lv_at hl 0 rfl) ?_
        refine lv_iload hx hb dX3_add_63 (lv_at hl 5 rfl) ?_
        obtain ⟨b6, hM⟩ := gd_use hM
        refine va_iast hx hb hK hP hD hS 3 0 rfl rfl b6 dX3_add_65 (fun H locs hP hD hS => ?_)
        have hP : va_P D vwCl (wT cI ad (o_this.1, upd o_this.2.1 o_this.1.toNatClampNeg a2, upd o_this.2.2.1 o_this.1.toNatClampNeg a3, upd o_this.2.2.2.1 o_this.1.toNatClampNeg a4, o_this.2.2.2.2)) H := hP
        have hD : va_D A (wT cI ad (o_this.1, upd o_this.2.1 o_this.1.toNatClampNeg a2, upd o_this.2.2.1 o_this.1.toNatClampNeg a3, upd o_this.2.2.2.1 o_this.1.toNatClampNeg a4, o_this.2.2.2.2)) := hD
        refine lv_aload_n hx hb dX3_add_66 rfl (lv_at hl 1 rfl) ?_
        refine va_get (D := D) (ci := 3) (v := .ref (ad 18)) (C := RX3) (T := TX3) (N := 8) hx hb hts layX3 hown hK hP 0 rfl rfl 3 (by decide) (hts _ (inA q366)) (fun _ h9 => h9) rfl dX3_add_67 ?_
        refine lv_iload hx hb dX3_add_70 (lv_at hl 0 rfl) ?_
        refine lv_iconst (v := 0) hx hb dX3_add_72 (by decide) ?_
        obtain ⟨b7, hM⟩ := gd_use hM
        refine va_iast hx hb hK hP hD hS 4 0 rfl rfl b7 dX3_add_73 (fun H locs hP hD hS => ?_)
        have hP : va_P D vwCl (wT cI ad (o_this.1, upd o_this.2.1 o_this.1.toNatClampNeg a2, upd o_this.2.2.1 o_this.1.toNatClampNeg a3, upd o_this.2.2.2.1 o_this.1.toNatClampNeg a4, upd o_this.2.2.2.2.1 o_this.1.toNatClampNeg 0, o_this.2.2.2.2.2)) H := hP
        have hD : va_D A (wT cI ad (o_this.1, upd o_this.2.1 o_this.1.toNatClampNeg a2, upd o_this.2.2.1 o_this.1.toNatClampNeg a3, upd o_this.2.2.2.1 o_this.1.toNatClampNeg a4, upd o_this.2.2.2.2.1 o_this.1.toNatClampNeg 0, o_this.2.2.2.2.2)) := hD
        refine lv_aload_n hx hb dX3_add_74 rfl (lv_at hl 1 rfl) ?_
        refine lv_dup hx hb dX3_add_75 rfl ?_
        refine va_get (D := D) (ci := 3) (v := .int o_this.1) (C := RX3) (T := TX3) (N := 8) hx hb hts layX3 hown hK hP 0 rfl rfl 7 (by decide) (hts _ (inA q370)) (fun _ h9 => h9) rfl dX3_add_76 ?_
        refine lv_iconst (v := 1) hx hb dX3_add_79 (by decide) ?_
        refine lv_iadd hx hb dX3_add_80 ?_
        refine va_put (D := D) (ci := 3) (v := .int (o_this.1 + 1)) (ty := .int) (C := RX3) (T := TX3) (N := 8) hx hb hts layX3 tyX3 tyX3_ok nmX3 hown hK hP hD hS 0 rfl rfl 7 (by decide) (hts _ (inA q370)) (fun _ h9 => h9) rfl (by decide +kernel) rfl rfl (Nat.le_of_ble_eq_true rfl) dX3_add_81 (fun H locs hP hD hS => ?_)
        have hP : va_P D vwCl (wT cI ad (o_this.1 + 1, upd o_this.2.1 o_this.1.toNatClampNeg a2, upd o_this.2.2.1 o_this.1.toNatClampNeg a3, upd o_this.2.2.2.1 o_this.1.toNatClampNeg a4, upd o_this.2.2.2.2.1 o_this.1.toNatClampNeg 0, o_this.2.2.2.2.2)) H := hP
        have hD : va_D A (wT cI ad (o_this.1 + 1, upd o_this.2.1 o_this.1.toNatClampNeg a2, upd o_this.2.2.1 o_this.1.toNatClampNeg a3, upd o_this.2.2.2.1 o_this.1.toNatClampNeg a4, upd o_this.2.2.2.2.1 o_this.1.toNatClampNeg 0, o_this.2.2.2.2.2)) := hD
        refine lv_iload hx hb dX3_add_84 (lv_at hl 0 rfl) ?_
        cases hM
        exact rt_i hx hb hr hlk hP hD hS rfl dX3_add_86
      · replace hM := if_f c3 hM
        refine lv_iload_n hx hb dX3_add_25 rfl (lv_at hl 2 rfl) ?_
        refine lv_iload hx hb dX3_add_26 (lv_at hl 0 rfl) ?_
        refine lv_icmp_ge (tgt := 41) hx hb dX3_add_28 (by decide) (fun c8 => ?_) (fun c8 => ?_)
        · replace hM := if_t c8 hM
          refine lv_aload_n hx hb dX3_add_41 rfl (lv_at hl 1 rfl) ?_
          refine va_get (D := D) (ci := 3) (v := .ref (ad 15)) (C := RX3) (T := TX3) (N := 8) hx hb hts layX3 hown hK hP 0 rfl rfl 0 (by decide) (hts _ (inA q363)) (fun _ h9 => h9) rfl dX3_add_42 ?_
          refine lv_iload hx hb dX3_add_45 (lv_at hl 0 rfl) ?_
          refine lv_iload_n hx hb dX3_add_47 rfl (lv_at hl 3 rfl) ?_
          obtain ⟨b9, hM⟩ := gd_use hM
          refine va_iast hx hb hK hP hD hS 1 0 rfl rfl b9 dX3_add_48 (fun H locs hP hD hS => ?_)
          have hP : va_P D vwCl (wT cI ad (o_this.1, upd o_this.2.1 o_this.1.toNatClampNeg a2, o_this.2.2)) H := hP
          have hD : va_D A (wT cI ad (o_this.1, upd o_this.2.1 o_this.1.toNatClampNeg a2, o_this.2.2)) := hD
          refine lv_aload_n hx hb dX3_add_49 rfl (lv_at hl 1 rfl) ?_
          refine va_get (D := D) (ci := 3) (v := .ref (ad 16)) (C := RX3) (T := TX3) (N := 8) hx hb hts layX3 hown hK hP 0 rfl rfl 1 (by decide) (hts _ (inA q364)) (fun _ h9 => h9) rfl dX3_add_50 ?_
          refine lv_iload hx hb dX3_add_53 (lv_at hl 0 rfl) ?_
          refine lv_iload_n hx hb dX3_add_55 rfl (lv_at hl 4 rfl) ?_
          obtain ⟨b10, hM⟩ := gd_use hM
          refine va_iast hx hb hK hP hD hS 2 0 rfl rfl b10 dX3_add_56 (fun H locs hP hD hS => ?_)
          have hP : va_P D vwCl (wT cI ad (o_this.1, upd o_this.2.1 o_this.1.toNatClampNeg a2, upd o_this.2.2.1 o_this.1.toNatClampNeg a3, o_this.2.2.2)) H := hP
          have hD : va_D A (wT cI ad (o_this.1, upd o_this.2.1 o_this.1.toNatClampNeg a2, upd o_this.2.2.1 o_this.1.toNatClampNeg a3, o_this.2.2.2)) := hD
          refine lv_aload_n hx hb dX3_add_57 rfl (lv_at hl 1 rfl) ?_
          refine va_get (D := D) (ci := 3) (v := .ref (ad 17)) (C := RX3) (T := TX3) (N := 8) hx hb hts layX3 hown hK hP 0 rfl rfl 2 (by decide) (hts _ (inA q365)) (fun _ h9 => h9) rfl dX3_add_58 ?_
          refine lv_iload hx hb dX3_add_61 (lv_at hl 0 rfl) ?_
          refine lv_iload hx hb dX3_add_63 (lv_at hl 5 rfl) ?_
          obtain ⟨b11, hM⟩ := gd_use hM
          refine va_iast hx hb hK hP hD hS 3 0 rfl rfl b11 dX3_add_65 (fun H locs hP hD hS => ?_)
          have hP : va_P D vwCl (wT cI ad (o_this.1, upd o_this.2.1 o_this.1.toNatClampNeg a2, upd o_this.2.2.1 o_this.1.toNatClampNeg a3, upd o_this.2.2.2.1 o_this.1.toNatClampNeg a4, o_this.2.2.2.2)) H := hP
          have hD : va_D A (wT cI ad (o_this.1, upd o_this.2.1 o_this.1.toNatClampNeg a2, upd o_this.2.2.1 o_this.1.toNatClampNeg a3, upd o_this.2.2.2.1 o_this.1.toNatClampNeg a4, o_this.2.2.2.2)) := hD
          refine lv_aload_n hx hb dX3_add_66 rfl (lv_at hl 1 rfl) ?_
          refine va_get (D := D) (ci := 3) (v := .ref (ad 18)) (C := RX3) (T := TX3) (N := 8) hx hb hts layX3 hown hK hP 0 rfl rfl 3 (by decide) (hts _ (inA q366)) (fun _ h9 => h9) rfl dX3_add_67 ?_
          refine lv_iload hx hb dX3_add_70 (lv_at hl 0 rfl) ?_
          refine lv_iconst (v := 0) hx hb dX3_add_72 (by decide) ?_
          obtain ⟨b12, hM⟩ := gd_use hM
          refine va_iast hx hb hK hP hD hS 4 0 rfl rfl b12 dX3_add_73 (fun H locs hP hD hS => ?_)
          have hP : va_P D vwCl (wT cI ad (o_this.1, upd o_this.2.1 o_this.1.toNatClampNeg a2, upd o_this.2.2.1 o_this.1.toNatClampNeg a3, upd o_this.2.2.2.1 o_this.1.toNatClampNeg a4, upd o_this.2.2.2.2.1 o_this.1.toNatClampNeg 0, o_this.2.2.2.2.2)) H := hP
          have hD : va_D A (wT cI ad (o_this.1, upd o_this.2.1 o_this.1.toNatClampNeg a2, upd o_this.2.2.1 o_this.1.toNatClampNeg a3, upd o_this.2.2.2.1 o_this.1.toNatClampNeg a4, upd o_this.2.2.2.2.1 o_this.1.toNatClampNeg 0, o_this.2.2.2.2.2)) := hD
          refine lv_aload_n hx hb dX3_add_74 rfl (lv_at hl 1 rfl) ?_
          refine lv_dup hx hb dX3_add_75 rfl ?_
          refine va_get (D := D) (ci := 3) (v := .int o_this.1) (C := RX3) (T := TX3) (N := 8) hx hb hts layX3 hown hK hP 0 rfl rfl 7 (by decide) (hts _ (inA q370)) (fun _ h9 => h9) rfl dX3_add_76 ?_
          refine lv_iconst (v := 1) hx hb dX3_add_79 (by decide) ?_
          refine lv_iadd hx hb dX3_add_80 ?_
          refine va_put (D := D) (ci := 3) (v := .int (o_this.1 + 1)) (ty := .int) (C := RX3) (T := TX3) (N := 8) hx hb hts layX3 tyX3 tyX3_ok nmX3 hown hK hP hD hS 0 rfl rfl 7 (by decide) (hts _ (inA q370)) (fun _ h9 => h9) rfl (by decide +kernel) rfl rfl (Nat.le_of_ble_eq_true rfl) dX3_add_81 (fun H locs hP hD hS => ?_)
          have hP : va_P D vwCl (wT cI ad (o_this.1 + 1, upd o_this.2.1 o_this.1.toNatClampNeg a2, upd o_this.2.2.1 o_this.1.toNatClampNeg a3, upd o_this.2.2.2.1 o_this.1.toNatClampNeg a4, upd o_this.2.2.2.2.1 o_this.1.toNatClampNeg 0, o_this.2.2.2.2.2)) H := hP
          have hD : va_D A (wT cI ad (o_this.1 + 1, upd o_this.2.1 o_this.1.toNatClampNeg a2, upd o_this.2.2.1 o_this.1.toNatClampNeg a3, upd o_this.2.2.2.1 o_this.1.toNatClampNeg a4, upd o_this.2.2.2.2.1 o_this.1.toNatClampNeg 0, o_this.2.2.2.2.2)) := hD
          refine lv_iload hx hb dX3_add_84 (lv_at hl 0 rfl) ?_
          cases hM
          exact rt_i hx hb hr hlk hP hD hS rfl dX3_add_86
        · replace hM := if_f c8 hM
          refine lv_aload_n hx hb dX3_add_31 rfl (lv_at hl 1 rfl) ?_
          refine va_get (D := D) (ci := 3) (v := .ref (ad 18)) (C := RX3) (T := TX3) (N := 8) hx hb hts layX3 hown hK hP 0 rfl rfl 3 (by decide) (hts _ (inA q366)) (fun _ h9 => h9) rfl dX3_add_32 ?_
          refine lv_iload_n hx hb dX3_add_35 rfl (lv_at hl 2 rfl) ?_
          refine lv_dup2_11 hx hb dX3_add_36 rfl rfl ?_
          obtain ⟨b13, hM⟩ := gd_use hM
          refine va_iald hx hb hK hP 4 0 rfl rfl b13 dX3_add_37 ?_
          refine lv_iconst (v := 1) hx hb dX3_add_38 (by decide) ?_
          refine lv_iadd hx hb dX3_add_39 ?_
          refine lv_topi (fun x15 ex15 => ?_)
          replace hM := nm_use ex15 hM
          obtain ⟨b14, hM⟩ := gd_use hM
          refine va_iast hx hb hK hP hD hS 4 0 rfl rfl b14 dX3_add_40 (fun H locs hP hD hS => ?_)
          have hP : va_P D vwCl (wT cI ad (o_this.1, o_this.2.1, o_this.2.2.1, o_this.2.2.2.1, upd o_this.2.2.2.2.1 a1.toNatClampNeg x15, o_this.2.2.2.2.2)) H := hP
          have hD : va_D A (wT cI ad (o_this.1, o_this.2.1, o_this.2.2.1, o_this.2.2.2.1, upd o_this.2.2.2.2.1 a1.toNatClampNeg x15, o_this.2.2.2.2.2)) := hD
          refine lv_aload_n hx hb dX3_add_41 rfl (lv_at hl 1 rfl) ?_
          refine va_get (D := D) (ci := 3) (v := .ref (ad 15)) (C := RX3) (T := TX3) (N := 8) hx hb hts layX3 hown hK hP 0 rfl rfl 0 (by decide) (hts _ (inA q363)) (fun _ h9 => h9) rfl dX3_add_42 ?_
          refine lv_iload hx hb dX3_add_45 (lv_at hl 0 rfl) ?_
          refine lv_iload_n hx hb dX3_add_47 rfl (lv_at hl 3 rfl) ?_
          obtain ⟨b16, hM⟩ := gd_use hM
          refine va_iast hx hb hK hP hD hS 1 0 rfl rfl b16 dX3_add_48 (fun H locs hP hD hS => ?_)
          have hP : va_P D vwCl (wT cI ad (o_this.1, upd o_this.2.1 o_this.1.toNatClampNeg a2, o_this.2.2.1, o_this.2.2.2.1, upd o_this.2.2.2.2.1 a1.toNatClampNeg x15, o_this.2.2.2.2.2)) H := hP
          have hD : va_D A (wT cI ad (o_this.1, upd o_this.2.1 o_this.1.toNatClampNeg a2, o_this.2.2.1, o_this.2.2.2.1, upd o_this.2.2.2.2.1 a1.toNatClampNeg x15, o_this.2.2.2.2.2)) := hD
          refine lv_aload_n hx hb dX3_add_49 rfl (lv_at hl 1 rfl) ?_
          refine va_get (D := D) (ci := 3) (v := .ref (ad 16)) (C := RX3) (T := TX3) (N := 8) hx hb hts layX3 hown hK hP 0 rfl rfl 1 (by decide) (hts _ (inA q364)) (fun _ h9 => h9) rfl dX3_add_50 ?_
          refine lv_iload hx hb dX3_add_53 (lv_at hl 0 rfl) ?_
          refine lv_iload_n hx hb dX3_add_55 rfl (lv_at hl 4 rfl) ?_
          obtain ⟨b17, hM⟩ := gd_use hM
          refine va_iast hx hb hK hP hD hS 2 0 rfl rfl b17 dX3_add_56 (fun H locs hP hD hS => ?_)
          have hP : va_P D vwCl (wT cI ad (o_this.1, upd o_this.2.1 o_this.1.toNatClampNeg a2, upd o_this.2.2.1 o_this.1.toNatClampNeg a3, o_this.2.2.2.1, upd o_this.2.2.2.2.1 a1.toNatClampNeg x15, o_this.2.2.2.2.2)) H := hP
          have hD : va_D A (wT cI ad (o_this.1, upd o_this.2.1 o_this.1.toNatClampNeg a2, upd o_this.2.2.1 o_this.1.toNatClampNeg a3, o_this.2.2.2.1, upd o_this.2.2.2.2.1 a1.toNatClampNeg x15, o_this.2.2.2.2.2)) := hD
          refine lv_aload_n hx hb dX3_add_57 rfl (lv_at hl 1 rfl) ?_
          refine va_get (D := D) (ci := 3) (v := .ref (ad 17)) (C := RX3) (T := TX3) (N := 8) hx hb hts layX3 hown hK hP 0 rfl rfl 2 (by decide) (hts _ (inA q365)) (fun _ h9 => h9) rfl dX3_add_58 ?_
          refine lv_iload hx hb dX3_add_61 (lv_at hl 0 rfl) ?_
          refine lv_iload hx hb dX3_add_63 (lv_at hl 5 rfl) ?_
          obtain ⟨b18, hM⟩ := gd_use hM
          refine va_iast hx hb hK hP hD hS 3 0 rfl rfl b18 dX3_add_65 (fun H locs hP hD hS => ?_)
          have hP : va_P D vwCl (wT cI ad (o_this.1, upd o_this.2.1 o_this.1.toNatClampNeg a2, upd o_this.2.2.1 o_this.1.toNatClampNeg a3, upd o_this.2.2.2.1 o_this.1.toNatClampNeg a4, upd o_this.2.2.2.2.1 a1.toNatClampNeg x15, o_this.2.2.2.2.2)) H := hP
          have hD : va_D A (wT cI ad (o_this.1, upd o_this.2.1 o_this.1.toNatClampNeg a2, upd o_this.2.2.1 o_this.1.toNatClampNeg a3, upd o_this.2.2.2.1 o_this.1.toNatClampNeg a4, upd o_this.2.2.2.2.1 a1.toNatClampNeg x15, o_this.2.2.2.2.2)) := hD
          refine lv_aload_n hx hb dX3_add_66 rfl (lv_at hl 1 rfl) ?_
          refine va_get (D := D) (ci := 3) (v := .ref (ad 18)) (C := RX3) (T := TX3) (N := 8) hx hb hts layX3 hown hK hP 0 rfl rfl 3 (by decide) (hts _ (inA q366)) (fun _ h9 => h9) rfl dX3_add_67 ?_
          refine lv_iload hx hb dX3_add_70 (lv_at hl 0 rfl) ?_
          refine lv_iconst (v := 0) hx hb dX3_add_72 (by decide) ?_
          obtain ⟨b19, hM⟩ := gd_use hM
          refine va_iast hx hb hK hP hD hS 4 0 rfl rfl b19 dX3_add_73 (fun H locs hP hD hS => ?_)
          have hP : va_P D vwCl (wT cI ad (o_this.1, upd o_this.2.1 o_this.1.toNatClampNeg a2, upd o_this.2.2.1 o_this.1.toNatClampNeg a3, upd o_this.2.2.2.1 o_this.1.toNatClampNeg a4, upd (upd o_this.2.2.2.2.1 a1.toNatClampNeg x15) o_this.1.toNatClampNeg 0, o_this.2.2.2.2.2)) H := hP
          have hD : va_D A (wT cI ad (o_this.1, upd o_this.2.1 o_this.1.toNatClampNeg a2, upd o_this.2.2.1 o_this.1.toNatClampNeg a3, upd o_this.2.2.2.1 o_this.1.toNatClampNeg a4, upd (upd o_this.2.2.2.2.1 a1.toNatClampNeg x15) o_this.1.toNatClampNeg 0, o_this.2.2.2.2.2)) := hD
          refine lv_aload_n hx hb dX3_add_74 rfl (lv_at hl 1 rfl) ?_
          refine lv_dup hx hb dX3_add_75 rfl ?_
          refine va_get (D := D) (ci := 3) (v := .int o_this.1) (C := RX3) (T := TX3) (N := 8) hx hb hts layX3 hown hK hP 0 rfl rfl 7 (by decide) (hts _ (inA q370)) (fun _ h9 => h9) rfl dX3_add_76 ?_
          refine lv_iconst (v := 1) hx hb dX3_add_79 (by decide) ?_
          refine lv_iadd hx hb dX3_add_80 ?_
          refine va_put (D := D) (ci := 3) (v := .int (o_this.1 + 1)) (ty := .int) (C := RX3) (T := TX3) (N := 8) hx hb hts layX3 tyX3 tyX3_ok nmX3 hown hK hP hD hS 0 rfl rfl 7 (by decide) (hts _ (inA q370)) (fun _ h9 => h9) rfl (by decide +kernel) rfl rfl (Nat.le_of_ble_eq_true rfl) dX3_add_81 (fun H locs hP hD hS => ?_)
          have hP : va_P D vwCl (wT cI ad (o_this.1 + 1, upd o_this.2.1 o_this.1.toNatClampNeg a2, upd o_this.2.2.1 o_this.1.toNatClampNeg a3, upd o_this.2.2.2.1 o_this.1.toNatClampNeg a4, upd (upd o_this.2.2.2.2.1 a1.toNatClampNeg x15) o_this.1.toNatClampNeg 0, o_this.2.2.2.2.2)) H := hP
          have hD : va_D A (wT cI ad (o_this.1 + 1, upd o_this.2.1 o_this.1.toNatClampNeg a2, upd o_this.2.2.1 o_this.1.toNatClampNeg a3, upd o_this.2.2.2.1 o_this.1.toNatClampNeg a4, upd (upd o_this.2.2.2.2.1 a1.toNatClampNeg x15) o_this.1.toNatClampNeg 0, o_this.2.2.2.2.2)) := hD
          refine lv_iload hx hb dX3_add_84 (lv_at hl 0 rfl) ?_
          cases hM
          exact rt_i hx hb hr hlk hP hD hS rfl dX3_add_86
    · replace hM := if_f c2 hM
      refine lv_iconst (v := (-1)) hx hb dX3_add_19 (by decide) ?_
      cases hM
      exact rt_i hx hb hr hlk hP hD hS rfl dX3_add_20

set_option maxHeartbeats 4000000 in
set_option maxRecDepth 100000 in
theorem c_Tree_has (l : Launch) (D : va_G) (cI : ClassId) (sd : Nat → Nat) (ad : Nat → Nat) (o_this : S_Tree) (a1 : Int32) (res : Int32) (hM : f_Tree_has o_this a1 = some res) : Ctr l D cI sd yX3_has (wsM yX3_has cX3_has 2 (Option.some Jvm.ClassFile.FieldType.boolean)) { frames := 0, cells := 0, slots := 0, locals := 0 } [.ref (ad 14), .int a1] (wT cI ad o_this) (wT cI ad o_this) (some (.int res)) := by
  refine Ctr.of (cc := cX3_has) (maxL := 2) (own := RX3) (by decide +kernel) rfl rfl (Nat.le_of_ble_eq_true rfl) ?_
  intro p e s m below meth c A ls hx hb hr hml hown hts hlk hK hE hA hP hD hS hl
  have hl : lv_has ls 2 [(0, .ref (ad 14)), (1, .int a1)] := hl
  unfold f_Tree_has at hM
  refine lv_iload_n hx hb dX3_has_0 rfl (lv_at hl 1 rfl) ?_
  refine lv_if_lt (tgt := 23) hx hb dX3_has_1 (by decide) (fun c1 => ?_) (fun c1 => ?_)
  · replace hM := if_t c1 hM
    refine lv_iconst (v := 0) hx hb dX3_has_23 (by decide) ?_
    cases hM
    exact rt_z hx hb hr hlk (by decide) hP hD hS rfl dX3_has_24
  · replace hM := if_f c1 hM
    refine lv_iload_n hx hb dX3_has_4 rfl (lv_at hl 1 rfl) ?_
    refine lv_aload_n hx hb dX3_has_5 rfl (lv_at hl 0 rfl) ?_
    refine va_get (D := D) (ci := 3) (v := .int o_this.1) (C := RX3) (T := TX3) (N := 8) hx hb hts layX3 hown hK hP 0 rfl rfl 7 (by decide) (hts _ (inA q370)) (fun _ h9 => h9) rfl dX3_has_6 ?_
    refine lv_icmp_ge (tgt := 23) hx hb dX3_has_9 (by decide) (fun c2 => ?_) (fun c2 => ?_)
    · replace hM := if_t c2 hM
      refine lv_iconst (v := 0) hx hb dX3_has_23 (by decide) ?_
      cases hM
      exact rt_z hx hb hr hlk (by decide) hP hD hS rfl dX3_has_24
    · replace hM := if_f c2 hM
      refine lv_iload_n hx hb dX3_has_12 rfl (lv_at hl 1 rfl) ?_
      refine lv_sipush (v := 16384) hx hb dX3_has_13 (by decide) ?_
      refine lv_icmp_ge (tgt := 23) hx hb dX3_has_16 (by decide) (fun c3 => ?_) (fun c3 => ?_)
      · replace hM := if_t c3 hM
        refine lv_iconst (v := 0) hx hb dX3_has_23 (by decide) ?_
        cases hM
        exact rt_z hx hb hr hlk (by decide) hP hD hS rfl dX3_has_24
      · replace hM := if_f c3 hM
        refine lv_iconst (v := 1) hx hb dX3_has_19 (by decide) ?_
        refine lv_goto (tgt := 24) hx hb dX3_has_20 (by decide) ?_
        cases hM
        exact rt_z hx hb hr hlk (by decide) hP hD hS rfl dX3_has_24

set_option maxHeartbeats 4000000 in
set_option maxRecDepth 100000 in
theorem c_Tree_wrap (l : Launch) (D : va_G) (cI : ClassId) (sd : Nat → Nat) (ad : Nat → Nat) (o_this : S_Tree) (a1 : Int32) (a2 : Int32) (a3 : Int32) (a4 : Int32) (res : S_Tree) (hM : f_Tree_wrap o_this a1 a2 a3 a4 = some res) : Ctr l D cI sd yX3_wrap (wsM yX3_wrap cX3_wrap 6 (Option.none : Option Jvm.ClassFile.FieldType)) { frames := 1, cells := 0, slots := 0, locals := 64 } [.ref (ad 14), .int a1, .int a2, .int a3, .int a4] (wT cI ad o_this) (wT cI ad res) none := by
  refine Ctr.of (cc := cX3_wrap) (maxL := 6) (own := RX3) (by decide +kernel) rfl rfl (Nat.le_of_ble_eq_true rfl) ?_
  intro p e s m below meth c A ls hx hb hr hml hown hts hlk hK hE hA hP hD hS hl
  have hl : lv_has ls 6 [(0, .ref (ad 14)), (1, .int a1), (2, .int a2), (3, .int a3), (4, .int a4)] := hl
  unfold f_Tree_wrap at hM
  refine lv_aload_n hx hb dX3_wrap_0 rfl (lv_at hl 0 rfl) ?_
  refine lv_iload_n hx hb dX3_wrap_1 rfl (lv_at hl 1 rfl) ?_
  obtain ⟨r1, hcr1, hM⟩ := ob_use hM
  refine cl_V (As := [.int a1]) (rest := []) (wT cI ad o_this) (.int r1 :: []) ⟨hx, hb, hml, hown, hts⟩ (c_Tree_has l D cI sd ad o_this a1 r1 hcr1) (cwV2 hts q759 mvX3_has rfl rfl ⟨(Nat.le_of_ble_eq_true rfl), (Nat.le_of_ble_eq_true rfl)⟩) hK hE hA hP hD hS 0 (T := TX3) (N := 8) (ci := 3) rfl rfl [0, 1, 2, 3, 4, 5, 6, 7] rfl (by decide) rfl rfl rfl rfl rfl rfl hl.1 (Nat.le_of_ble_eq_true rfl) dX3_wrap_2 ⟨Nat.zero_le _, Nat.zero_le _⟩ (fun H locs hP hD hS => ?_)
  refine lv_if_eq (tgt := 18) hx hb dX3_wrap_5 (by decide) (fun c2 => ?_) (fun c2 => ?_)
  · replace hM := if_t c2 hM
    cases hM
    exact rt_v hx hb hr hlk hP hD hS rfl dX3_wrap_18
  · replace hM := if_f c2 hM
    refine lv_aload_n hx hb dX3_wrap_8 rfl (lv_at hl 0 rfl) ?_
    refine va_get (D := D) (ci := 3) (v := .int o_this.1) (C := RX3) (T := TX3) (N := 8) hx hb hts layX3 hown hK hP 0 rfl rfl 7 (by decide) (hts _ (inA q370)) (fun _ h9 => h9) rfl dX3_wrap_9 ?_
    refine lv_sipush (v := 16384) hx hb dX3_wrap_12 (by decide) ?_
    refine lv_icmp_lt (tgt := 19) hx hb dX3_wrap_15 (by decide) (fun c3 => ?_) (fun c3 => ?_)
    · replace hM := if_t c3 hM
      refine lv_aload_n hx hb dX3_wrap_19 rfl (lv_at hl 0 rfl) ?_
      refine va_get (D := D) (ci := 3) (v := .int o_this.1) (C := RX3) (T := TX3) (N := 8) hx hb hts layX3 hown hK hP 0 rfl rfl 7 (by decide) (hts _ (inA q370)) (fun _ h9 => h9) rfl dX3_wrap_20 ?_
      refine lv_iload_n hx hb dX3_wrap_23 rfl (lv_at hl 1 rfl) ?_
      refine lv_isub hx hb dX3_wrap_24 ?_
      refine lv_istore (lv' := [(5, .int (o_this.1 - a1)), (0, .ref (ad 14)), (1, .int a1), (2, .int a2), (3, .int a3), (4, .int a4)]) hx hb dX3_wrap_25 hl (by decide) rfl (fun ls hl => ?_)
      refine lv_aload_n hx hb dX3_wrap_27 rfl (lv_at hl 1 rfl) ?_
      refine va_get (D := D) (ci := 3) (v := .ref (ad 15)) (C := RX3) (T := TX3) (N := 8) hx hb hts layX3 hown hK hP 0 rfl rfl 0 (by decide) (hts _ (inA q363)) (fun _ h9 => h9) rfl dX3_wrap_28 ?_
      refine lv_iload_n hx hb dX3_wrap_31 rfl (lv_at hl 2 rfl) ?_
      refine lv_aload_n hx hb dX3_wrap_32 rfl (lv_at hl 1 rfl) ?_
      refine va_get (D := D) (ci := 3) (v := .ref (ad 15)) (C := RX3) (T := TX3) (N := 8) hx hb hts layX3 hown hK hP 0 rfl rfl 0 (by decide) (hts _ (inA q363)) (fun _ h9 => h9) rfl dX3_wrap_33 ?_
      refine lv_iload_n hx hb dX3_wrap_36 rfl (lv_at hl 2 rfl) ?_
      refine lv_iconst (v := 1) hx hb dX3_wrap_37 (by decide) ?_
      refine lv_iadd hx hb dX3_wrap_38 ?_
      refine lv_iload hx hb dX3_wrap_39 (lv_at hl 0 rfl) ?_
      obtain ⟨b41, b42, b43, b44, b45, hM⟩ := ac_use hM
      refine va_copyi hx hb (hml.trans hl.1.symm) hown (hts _ (inA q763)) (hts _ (inA q765)) (hts _ (inA q764)) (hts _ (inA q187)) hK hP hD hS 1 1 0 0 rfl rfl rfl rfl rfl b41 b42 b43 b44 b45 (fun _ _ => rfl) (Nat.le_of_ble_eq_true rfl) (Nat.le_of_ble_eq_true rfl) dX3_wrap_41 (fun H locs hP hD hS => ?_)
      have hP : va_P D vwCl (wT cI ad (o_this.1, va_cpy o_this.2.1 o_this.2.1 a1.toNatClampNeg (a1 + 1).toNatClampNeg (o_this.1 - a1).toNatClampNeg, o_this.2.2)) H := hP
      have hD : va_D A (wT cI ad (o_this.1, va_cpy o_this.2.1 o_this.2.1 a1.toNatClampNeg (a1 + 1).toNatClampNeg (o_this.1 - a1).toNatClampNeg, o_this.2.2)) := hD
      refine lv_aload_n hx hb dX3_wrap_44 rfl (lv_at hl 1 rfl) ?_
      refine va_get (D := D) (ci := 3) (v := .ref (ad 16)) (C := RX3) (T := TX3) (N := 8) hx hb hts layX3 hown hK hP 0 rfl rfl 1 (by decide) (hts _ (inA q364)) (fun _ h9 => h9) rfl dX3_wrap_45 ?_
      refine lv_iload_n hx hb dX3_wrap_48 rfl (lv_at hl 2 rfl) ?_
      refine lv_aload_n hx hb dX3_wrap_49 rfl (lv_at hl 1 rfl) ?_
      refine va_get (D := D) (ci := 3) (v := .ref (ad 16)) (C := RX3) (T := TX3) (N := 8) hx hb hts layX3 hown hK hP 0 rfl rfl 1 (by decide) (hts _ (inA q364)) (fun _ h9 => h9) rfl dX3_wrap_50 ?_
      refine lv_iload_n hx hb dX3_wrap_53 rfl (lv_at hl 2 rfl) ?_
      refine lv_iconst (v := 1) hx hb dX3_wrap_54 (by decide) ?_
      refine lv_iadd hx hb dX3_wrap_55 ?_
      refine lv_iload hx hb dX3_wrap_56 (lv_at hl 0 rfl) ?_
      obtain ⟨b51, b52, b53, b54, b55, hM⟩ := ac_use hM
      refine va_copyi hx hb (hml.trans hl.1.symm) hown (hts _ (inA q763)) (hts _ (inA q765)) (hts _ (inA q764)) (hts _ (inA q187)) hK hP hD hS 2 2 0 0 rfl rfl rfl rfl rfl b51 b52 b53 b54 b55 (fun _ _ => rfl) (Nat.le_of_ble_eq_true rfl) (Nat.le_of_ble_eq_true rfl) dX3_wrap_58 (fun H locs hP hD hS => ?_)
      have hP : va_P D vwCl (wT cI ad (o_this.1, va_cpy o_this.2.1 o_this.2.1 a1.toNatClampNeg (a1 + 1).toNatClampNeg (o_this.1 - a1).toNatClampNeg, va_cpy o_this.2.2.1 o_this.2.2.1 a1.toNatClampNeg (a1 + 1).toNatClampNeg (o_this.1 - a1).toNatClampNeg, o_this.2.2.2)) H := hP
      have hD : va_D A (wT cI ad (o_this.1, va_cpy o_this.2.1 o_this.2.1 a1.toNatClampNeg (a1 + 1).toNatClampNeg (o_this.1 - a1).toNatClampNeg, va_cpy o_this.2.2.1 o_this.2.2.1 a1.toNatClampNeg (a1 + 1).toNatClampNeg (o_this.1 - a1).toNatClampNeg, o_this.2.2.2)) := hD
      refine lv_aload_n hx hb dX3_wrap_61 rfl (lv_at hl 1 rfl) ?_
      refine va_get (D := D) (ci := 3) (v := .ref (ad 17)) (C := RX3) (T := TX3) (N := 8) hx hb hts layX3 hown hK hP 0 rfl rfl 2 (by decide) (hts _ (inA q365)) (fun _ h9 => h9) rfl dX3_wrap_62 ?_
      refine lv_iload_n hx hb dX3_wrap_65 rfl (lv_at hl 2 rfl) ?_
      refine lv_aload_n hx hb dX3_wrap_66 rfl (lv_at hl 1 rfl) ?_
      refine va_get (D := D) (ci := 3) (v := .ref (ad 17)) (C := RX3) (T := TX3) (N := 8) hx hb hts layX3 hown hK hP 0 rfl rfl 2 (by decide) (hts _ (inA q365)) (fun _ h9 => h9) rfl dX3_wrap_67 ?_
      refine lv_iload_n hx hb dX3_wrap_70 rfl (lv_at hl 2 rfl) ?_
      refine lv_iconst (v := 1) hx hb dX3_wrap_71 (by decide) ?_
      refine lv_iadd hx hb dX3_wrap_72 ?_
      refine lv_iload hx hb dX3_wrap_73 (lv_at hl 0 rfl) ?_
      obtain ⟨b61, b62, b63, b64, b65, hM⟩ := ac_use hM
      refine va_copyi hx hb (hml.trans hl.1.symm) hown (hts _ (inA q763)) (hts _ (inA q765)) (hts _ (inA q764)) (hts _ (inA q187)) hK hP hD hS 3 3 0 0 rfl rfl rfl rfl rfl b61 b62 b63 b64 b65 (fun _ _ => rfl) (Nat.le_of_ble_eq_true rfl) (Nat.le_of_ble_eq_true rfl) dX3_wrap_75 (fun H locs hP hD hS => ?_)
      have hP : va_P D vwCl (wT cI ad (o_this.1, va_cpy o_this.2.1 o_this.2.1 a1.toNatClampNeg (a1 + 1).toNatClampNeg (o_this.1 - a1).toNatClampNeg, va_cpy o_this.2.2.1 o_this.2.2.1 a1.toNatClampNeg (a1 + 1).toNatClampNeg (o_this.1 - a1).toNatClampNeg, va_cpy o_this.2.2.2.1 o_this.2.2.2.1 a1.toNatClampNeg (a1 + 1).toNatClampNeg (o_this.1 - a1).toNatClampNeg, o_this.2.2.2.2)) H := hP
      have hD : va_D A (wT cI ad (o_this.1, va_cpy o_this.2.1 o_this.2.1 a1.toNatClampNeg (a1 + 1).toNatClampNeg (o_this.1 - a1).toNatClampNeg, va_cpy o_this.2.2.1 o_this.2.2.1 a1.toNatClampNeg (a1 + 1).toNatClampNeg (o_this.1 - a1).toNatClampNeg, va_cpy o_this.2.2.2.1 o_this.2.2.2.1 a1.toNatClampNeg (a1 + 1).toNatClampNeg (o_this.1 - a1).toNatClampNeg, o_this.2.2.2.2)) := hD
      refine lv_aload_n hx hb dX3_wrap_78 rfl (lv_at hl 1 rfl) ?_
      refine va_get (D := D) (ci := 3) (v := .ref (ad 18)) (C := RX3) (T := TX3) (N := 8) hx hb hts layX3 hown hK hP 0 rfl rfl 3 (by decide) (hts _ (inA q366)) (fun _ h9 => h9) rfl dX3_wrap_79 ?_
      refine lv_iload_n hx hb dX3_wrap_82 rfl (lv_at hl 2 rfl) ?_
      refine lv_aload_n hx hb dX3_wrap_83 rfl (lv_at hl 1 rfl) ?_
      refine va_get (D := D) (ci := 3) (v := .ref (ad 18)) (C := RX3) (T := TX3) (N := 8) hx hb hts layX3 hown hK hP 0 rfl rfl 3 (by decide) (hts _ (inA q366)) (fun _ h9 => h9) rfl dX3_wrap_84 ?_
      refine lv_iload_n hx hb dX3_wrap_87 rfl (lv_at hl 2 rfl) ?_
      refine lv_iconst (v := 1) hx hb dX3_wrap_88 (by decide) ?_
      refine lv_iadd hx hb dX3_wrap_89 ?_
      refine lv_iload hx hb dX3_wrap_90 (lv_at hl 0 rfl) ?_
      obtain ⟨b71, b72, b73, b74, b75, hM⟩ := ac_use hM
      refine va_copyi hx hb (hml.trans hl.1.symm) hown (hts _ (inA q763)) (hts _ (inA q765)) (hts _ (inA q764)) (hts _ (inA q187)) hK hP hD hS 4 4 0 0 rfl rfl rfl rfl rfl b71 b72 b73 b74 b75 (fun _ _ => rfl) (Nat.le_of_ble_eq_true rfl) (Nat.le_of_ble_eq_true rfl) dX3_wrap_92 (fun H locs hP hD hS => ?_)
      have hP : va_P D vwCl (wT cI ad (o_this.1, va_cpy o_this.2.1 o_this.2.1 a1.toNatClampNeg (a1 + 1).toNatClampNeg (o_this.1 - a1).toNatClampNeg, va_cpy o_this.2.2.1 o_this.2.2.1 a1.toNatClampNeg (a1 + 1).toNatClampNeg (o_this.1 - a1).toNatClampNeg, va_cpy o_this.2.2.2.1 o_this.2.2.2.1 a1.toNatClampNeg (a1 + 1).toNatClampNeg (o_this.1 - a1).toNatClampNeg, va_cpy o_this.2.2.2.2.1 o_this.2.2.2.2.1 a1.toNatClampNeg (a1 + 1).toNatClampNeg (o_this.1 - a1).toNatClampNeg, o_this.2.2.2.2.2)) H := hP
      have hD : va_D A (wT cI ad (o_this.1, va_cpy o_this.2.1 o_this.2.1 a1.toNatClampNeg (a1 + 1).toNatClampNeg (o_this.1 - a1).toNatClampNeg, va_cpy o_this.2.2.1 o_this.2.2.1 a1.toNatClampNeg (a1 + 1).toNatClampNeg (o_this.1 - a1).toNatClampNeg, va_cpy o_this.2.2.2.1 o_this.2.2.2.1 a1.toNatClampNeg (a1 + 1).toNatClampNeg (o_this.1 - a1).toNatClampNeg, va_cpy o_this.2.2.2.2.1 o_this.2.2.2.2.1 a1.toNatClampNeg (a1 + 1).toNatClampNeg (o_this.1 - a1).toNatClampNeg, o_this.2.2.2.2.2)) := hD
      refine lv_aload_n hx hb dX3_wrap_95 rfl (lv_at hl 1 rfl) ?_
      refine va_get (D := D) (ci := 3) (v := .ref (ad 15)) (C := RX3) (T := TX3) (N := 8) hx hb hts layX3 hown hK hP 0 rfl rfl 0 (by decide) (hts _ (inA q363)) (fun _ h9 => h9) rfl dX3_wrap_96 ?_
      refine lv_iload_n hx hb dX3_wrap_99 rfl (lv_at hl 2 rfl) ?_
      refine lv_iload_n hx hb dX3_wrap_100 rfl (lv_at hl 3 rfl) ?_
      obtain ⟨b8, hM⟩ := gd_use hM
      refine va_iast hx hb hK hP hD hS 1 0 rfl rfl b8 dX3_wrap_101 (fun H locs hP hD hS => ?_)
      have hP : va_P D vwCl (wT cI ad (o_this.1, upd (va_cpy o_this.2.1 o_this.2.1 a1.toNatClampNeg (a1 + 1).toNatClampNeg (o_this.1 - a1).toNatClampNeg) a1.toNatClampNeg a2, va_cpy o_this.2.2.1 o_this.2.2.1 a1.toNatClampNeg (a1 + 1).toNatClampNeg (o_this.1 - a1).toNatClampNeg, va_cpy o_this.2.2.2.1 o_this.2.2.2.1 a1.toNatClampNeg (a1 + 1).toNatClampNeg (o_this.1 - a1).toNatClampNeg, va_cpy o_this.2.2.2.2.1 o_this.2.2.2.2.1 a1.toNatClampNeg (a1 + 1).toNatClampNeg (o_this.1 - a1).toNatClampNeg, o_this.2.2.2.2.2)) H := hP
      have hD : va_D A (wT cI ad (o_this.1, upd (va_cpy o_this.2.1 o_this.2.1 a1.toNatClampNeg (a1 + 1).toNatClampNeg (o_this.1 - a1).toNatClampNeg) a1.toNatClampNeg a2, va_cpy o_this.2.2.1 o_this.2.2.1 a1.toNatClampNeg (a1 + 1).toNatClampNeg (o_this.1 - a1).toNatClampNeg, va_cpy o_this.2.2.2.1 o_this.2.2.2.1 a1.toNatClampNeg (a1 + 1).toNatClampNeg (o_this.1 - a1).toNatClampNeg, va_cpy o_this.2.2.2.2.1 o_this.2.2.2.2.1 a1.toNatClampNeg (a1 + 1).toNatClampNeg (o_this.1 - a1).toNatClampNeg, o_this.2.2.2.2.2)) := hD
      refine lv_aload_n hx hb dX3_wrap_102 rfl (lv_at hl 1 rfl) ?_
      refine va_get (D := D) (ci := 3) (v := .ref (ad 16)) (C := RX3) (T := TX3) (N := 8) hx hb hts layX3 hown hK hP 0 rfl rfl 1 (by decide) (hts _ (inA q364)) (fun _ h9 => h9) rfl dX3_wrap_103 ?_
      refine lv_iload_n hx hb dX3_wrap_106 rfl (lv_at hl 2 rfl) ?_
      refine lv_iload_n hx hb dX3_wrap_107 rfl (lv_at hl 4 rfl) ?_
      obtain ⟨b9, hM⟩ := gd_use hM
      refine va_iast hx hb hK hP hD hS 2 0 rfl rfl b9 dX3_wrap_108 (fun H locs hP hD hS => ?_)
      have hP : va_P D vwCl (wT cI ad (o_this.1, upd (va_cpy o_this.2.1 o_this.2.1 a1.toNatClampNeg (a1 + 1).toNatClampNeg (o_this.1 - a1).toNatClampNeg) a1.toNatClampNeg a2, upd (va_cpy o_this.2.2.1 o_this.2.2.1 a1.toNatClampNeg (a1 + 1).toNatClampNeg (o_this.1 - a1).toNatClampNeg) a1.toNatClampNeg a3, va_cpy o_this.2.2.2.1 o_this.2.2.2.1 a1.toNatClampNeg (a1 + 1).toNatClampNeg (o_this.1 - a1).toNatClampNeg, va_cpy o_this.2.2.2.2.1 o_this.2.2.2.2.1 a1.toNatClampNeg (a1 + 1).toNatClampNeg (o_this.1 - a1).toNatClampNeg, o_this.2.2.2.2.2)) H := hP
      have hD : va_D A (wT cI ad (o_this.1, upd (va_cpy o_this.2.1 o_this.2.1 a1.toNatClampNeg (a1 + 1).toNatClampNeg (o_this.1 - a1).toNatClampNeg) a1.toNatClampNeg a2, upd (va_cpy o_this.2.2.1 o_this.2.2.1 a1.toNatClampNeg (a1 + 1).toNatClampNeg (o_this.1 - a1).toNatClampNeg) a1.toNatClampNeg a3, va_cpy o_this.2.2.2.1 o_this.2.2.2.1 a1.toNatClampNeg (a1 + 1).toNatClampNeg (o_this.1 - a1).toNatClampNeg, va_cpy o_this.2.2.2.2.1 o_this.2.2.2.2.1 a1.toNatClampNeg (a1 + 1).toNatClampNeg (o_this.1 - a1).toNatClampNeg, o_this.2.2.2.2.2)) := hD
      refine lv_aload_n hx hb dX3_wrap_109 rfl (lv_at hl 1 rfl) ?_
      refine va_get (D := D) (ci := 3) (v := .ref (ad 17)) (C := RX3) (T := TX3) (N := 8) hx hb hts layX3 hown hK hP 0 rfl rfl 2 (by decide) (hts _ (inA q365)) (fun _ h9 => h9) rfl dX3_wrap_110 ?_
      refine lv_iload_n hx hb dX3_wrap_113 rfl (lv_at hl 2 rfl) ?_
      refine lv_iload hx hb dX3_wrap_114 (lv_at hl 5 rfl) ?_
      obtain ⟨b10, hM⟩ := gd_use hM
      refine va_iast hx hb hK hP hD hS 3 0 rfl rfl b10 dX3_wrap_116 (fun H locs hP hD hS => ?_)
      have hP : va_P D vwCl (wT cI ad (o_this.1, upd (va_cpy o_this.2.1 o_this.2.1 a1.toNatClampNeg (a1 + 1).toNatClampNeg (o_this.1 - a1).toNatClampNeg) a1.toNatClampNeg a2, upd (va_cpy o_this.2.2.1 o_this.2.2.1 a1.toNatClampNeg (a1 + 1).toNatClampNeg (o_this.1 - a1).toNatClampNeg) a1.toNatClampNeg a3, upd (va_cpy o_this.2.2.2.1 o_this.2.2.2.1 a1.toNatClampNeg (a1 + 1).toNatClampNeg (o_this.1 - a1).toNatClampNeg) a1.toNatClampNeg a4, va_cpy o_this.2.2.2.2.1 o_this.2.2.2.2.1 a1.toNatClampNeg (a1 + 1).toNatClampNeg (o_this.1 - a1).toNatClampNeg, o_this.2.2.2.2.2)) H := hP
      have hD : va_D A (wT cI ad (o_this.1, upd (va_cpy o_this.2.1 o_this.2.1 a1.toNatClampNeg (a1 + 1).toNatClampNeg (o_this.1 - a1).toNatClampNeg) a1.toNatClampNeg a2, upd (va_cpy o_this.2.2.1 o_this.2.2.1 a1.toNatClampNeg (a1 + 1).toNatClampNeg (o_this.1 - a1).toNatClampNeg) a1.toNatClampNeg a3, upd (va_cpy o_this.2.2.2.1 o_this.2.2.2.1 a1.toNatClampNeg (a1 + 1).toNatClampNeg (o_this.1 - a1).toNatClampNeg) a1.toNatClampNeg a4, va_cpy o_this.2.2.2.2.1 o_this.2.2.2.2.1 a1.toNatClampNeg (a1 + 1).toNatClampNeg (o_this.1 - a1).toNatClampNeg, o_this.2.2.2.2.2)) := hD
      refine lv_aload_n hx hb dX3_wrap_117 rfl (lv_at hl 1 rfl) ?_
      refine va_get (D := D) (ci := 3) (v := .ref (ad 18)) (C := RX3) (T := TX3) (N := 8) hx hb hts layX3 hown hK hP 0 rfl rfl 3 (by decide) (hts _ (inA q366)) (fun _ h9 => h9) rfl dX3_wrap_118 ?_
      refine lv_iload_n hx hb dX3_wrap_121 rfl (lv_at hl 2 rfl) ?_
      refine lv_iconst (v := 1) hx hb dX3_wrap_122 (by decide) ?_
      obtain ⟨b11, hM⟩ := gd_use hM
      refine va_iast hx hb hK hP hD hS 4 0 rfl rfl b11 dX3_wrap_123 (fun H locs hP hD hS => ?_)
      have hP : va_P D vwCl (wT cI ad (o_this.1, upd (va_cpy o_this.2.1 o_this.2.1 a1.toNatClampNeg (a1 + 1).toNatClampNeg (o_this.1 - a1).toNatClampNeg) a1.toNatClampNeg a2, upd (va_cpy o_this.2.2.1 o_this.2.2.1 a1.toNatClampNeg (a1 + 1).toNatClampNeg (o_this.1 - a1).toNatClampNeg) a1.toNatClampNeg a3, upd (va_cpy o_this.2.2.2.1 o_this.2.2.2.1 a1.toNatClampNeg (a1 + 1).toNatClampNeg (o_this.1 - a1).toNatClampNeg) a1.toNatClampNeg a4, upd (va_cpy o_this.2.2.2.2.1 o_this.2.2.2.2.1 a1.toNatClampNeg (a1 + 1).toNatClampNeg (o_this.1 - a1).toNatClampNeg) a1.toNatClampNeg 1, o_this.2.2.2.2.2)) H := hP
      have hD : va_D A (wT cI ad (o_this.1, upd (va_cpy o_this.2.1 o_this.2.1 a1.toNatClampNeg (a1 + 1).toNatClampNeg (o_this.1 - a1).toNatClampNeg) a1.toNatClampNeg a2, upd (va_cpy o_this.2.2.1 o_this.2.2.1 a1.toNatClampNeg (a1 + 1).toNatClampNeg (o_this.1 - a1).toNatClampNeg) a1.toNatClampNeg a3, upd (va_cpy o_this.2.2.2.1 o_this.2.2.2.1 a1.toNatClampNeg (a1 + 1).toNatClampNeg (o_this.1 - a1).toNatClampNeg) a1.toNatClampNeg a4, upd (va_cpy o_this.2.2.2.2.1 o_this.2.2.2.2.1 a1.toNatClampNeg (a1 + 1).toNatClampNeg (o_this.1 - a1).toNatClampNeg) a1.toNatClampNeg 1, o_this.2.2.2.2.2)) := hD
      refine lv_aload_n hx hb dX3_wrap_124 rfl (lv_at hl 1 rfl) ?_
      refine lv_dup hx hb dX3_wrap_125 rfl ?_
      refine va_get (D := D) (ci := 3) (v := .int o_this.1) (C := RX3) (T := TX3) (N := 8) hx hb hts layX3 hown hK hP 0 rfl rfl 7 (by decide) (hts _ (inA q370)) (fun _ h9 => h9) rfl dX3_wrap_126 ?_
      refine lv_iconst (v := 1) hx hb dX3_wrap_129 (by decide) ?_
      refine lv_iadd hx hb dX3_wrap_130 ?_
      refine va_put (D := D) (ci := 3) (v := .int (o_this.1 + 1)) (ty := .int) (C := RX3) (T := TX3) (N := 8) hx hb hts layX3 tyX3 tyX3_ok nmX3 hown hK hP hD hS 0 rfl rfl 7 (by decide) (hts _ (inA q370)) (fun _ h9 => h9) rfl (by decide +kernel) rfl rfl (Nat.le_of_ble_eq_true rfl) dX3_wrap_131 (fun H locs hP hD hS => ?_)
      have hP : va_P D vwCl (wT cI ad (o_this.1 + 1, upd (va_cpy o_this.2.1 o_this.2.1 a1.toNatClampNeg (a1 + 1).toNatClampNeg (o_this.1 - a1).toNatClampNeg) a1.toNatClampNeg a2, upd (va_cpy o_this.2.2.1 o_this.2.2.1 a1.toNatClampNeg (a1 + 1).toNatClampNeg (o_this.1 - a1).toNatClampNeg) a1.toNatClampNeg a3, upd (va_cpy o_this.2.2.2.1 o_this.2.2.2.1 a1.toNatClampNeg (a1 + 1).toNatClampNeg (o_this.1 - a1).toNatClampNeg) a1.toNatClampNeg a4, upd (va_cpy o_this.2.2.2.2.1 o_this.2.2.2.2.1 a1.toNatClampNeg (a1 + 1).toNatClampNeg (o_this.1 - a1).toNatClampNeg) a1.toNatClampNeg 1, o_this.2.2.2.2.2)) H := hP
      have hD : va_D A (wT cI ad (o_this.1 + 1, upd (va_cpy o_this.2.1 o_this.2.1 a1.toNatClampNeg (a1 + 1).toNatClampNeg (o_this.1 - a1).toNatClampNeg) a1.toNatClampNeg a2, upd (va_cpy o_this.2.2.1 o_this.2.2.1 a1.toNatClampNeg (a1 + 1).toNatClampNeg (o_this.1 - a1).toNatClampNeg) a1.toNatClampNeg a3, upd (va_cpy o_this.2.2.2.1 o_this.2.2.2.1 a1.toNatClampNeg (a1 + 1).toNatClampNeg (o_this.1 - a1).toNatClampNeg) a1.toNatClampNeg a4, upd (va_cpy o_this.2.2.2.2.1 o_this.2.2.2.2.1 a1.toNatClampNeg (a1 + 1).toNatClampNeg (o_this.1 - a1).toNatClampNeg) a1.toNatClampNeg 1, o_this.2.2.2.2.2)) := hD
      cases hM
      exact rt_v hx hb hr hlk hP hD hS rfl dX3_wrap_134
    · replace hM := if_f c3 hM
      cases hM
      exact rt_v hx hb hr hlk hP hD hS rfl dX3_wrap_18

set_option maxHeartbeats 4000000 in
set_option maxRecDepth 100000 in
theorem c_Tree_forget (l : Launch) (D : va_G) (cI : ClassId) (sd : Nat → Nat) (ad : Nat → Nat) (o_this : S_Tree) (res : S_Tree) (hM : f_Tree_forget o_this = some res) : Ctr l D cI sd yX3_forget (wsM yX3_forget cX3_forget 1 (Option.none : Option Jvm.ClassFile.FieldType)) { frames := 0, cells := 0, slots := 0, locals := 0 } [.ref (ad 14)] (wT cI ad o_this) (wT cI ad res) none := by
  refine Ctr.of (cc := cX3_forget) (maxL := 1) (own := RX3) (by decide +kernel) rfl rfl (Nat.le_of_ble_eq_true rfl) ?_
  intro p e s m below meth c A ls hx hb hr hml hown hts hlk hK hE hA hP hD hS hl
  have hl : lv_has ls 1 [(0, .ref (ad 14))] := hl
  unfold f_Tree_forget at hM
  refine lv_aload_n hx hb dX3_forget_0 rfl (lv_at hl 0 rfl) ?_
  refine lv_iconst (v := 0) hx hb dX3_forget_1 (by decide) ?_
  refine va_put (D := D) (ci := 3) (v := .int 0) (ty := .int) (C := RX3) (T := TX3) (N := 8) hx hb hts layX3 tyX3 tyX3_ok nmX3 hown hK hP hD hS 0 rfl rfl 7 (by decide) (hts _ (inA q370)) (fun _ h9 => h9) rfl (by decide +kernel) rfl rfl (Nat.le_of_ble_eq_true rfl) dX3_forget_2 (fun H locs hP hD hS => ?_)
  have hP : va_P D vwCl (wT cI ad (0, o_this.2)) H := hP
  have hD : va_D A (wT cI ad (0, o_this.2)) := hD
  cases hM
  exact rt_v hx hb hr hlk hP hD hS rfl dX3_forget_5

set_option maxHeartbeats 4000000 in
set_option maxRecDepth 100000 in
theorem c_Tree_firstUnfilled (l : Launch) (D : va_G) (cI : ClassId) (sd : Nat → Nat) (ad : Nat → Nat) (o_this : S_Tree) (a1 : Int32) (res : Int32) (hM : f_Tree_firstUnfilled o_this a1 = some res) : Ctr l D cI sd yX3_firstUnfilled (wsM yX3_firstUnfilled cX3_firstUnfilled 4 (Option.some Jvm.ClassFile.FieldType.int)) { frames := 1, cells := 0, slots := 0, locals := 21 } [.ref (ad 14), .int a1] (wT cI ad o_this) (wT cI ad o_this) (some (.int res)) := by
  refine Ctr.of (cc := cX3_firstUnfilled) (maxL := 4) (own := RX3) (by decide +kernel) rfl rfl (Nat.le_of_ble_eq_true rfl) ?_
  intro p e s m below meth c A ls hx hb hr hml hown hts hlk hK hE hA hP hD hS hl
  have hl : lv_has ls 4 [(0, .ref (ad 14)), (1, .int a1)] := hl
  unfold f_Tree_firstUnfilled at hM
  refine lv_iload_n hx hb dX3_firstUnfilled_0 rfl (lv_at hl 1 rfl) ?_
  refine lv_istore_n (lv' := [(2, .int a1), (0, .ref (ad 14)), (1, .int a1)]) hx hb dX3_firstUnfilled_1 rfl hl (by decide) rfl (fun ls hl => ?_)
  refine lv_iconst (v := 0) hx hb dX3_firstUnfilled_2 (by decide) ?_
  refine lv_istore_n (lv' := [(3, .int 0), (2, .int a1), (0, .ref (ad 14)), (1, .int a1)]) hx hb dX3_firstUnfilled_3 rfl hl (by decide) rfl (fun ls hl => ?_)
  have lp_L4 : ∀ (n : Nat) (v3_L4 : Int32) (v2_L4 : Int32) (out_L4 : Int32) (H : Heap) (locs : List Loc) (ls : Array Slot), f_Tree_firstUnfilled_L4 o_this n v3_L4 v2_L4 = some out_L4 → va_P D vwCl (wT cI ad o_this) H → va_D A (wT cI ad o_this) → va_S A s.heap H locs → lv_has ls 4 [(3, .int v3_L4), (2, .int v2_L4), (0, .ref (ad 14))] → (∀ (H : Heap) (locs : List Loc) (ls : Array Slot), va_P D vwCl (wT cI ad o_this) H → va_D A (wT cI ad o_this) → va_S A s.heap H locs → lv_has ls 4 [(2, .int out_L4), (0, .ref (ad 14))] → W p l e { frames := 1, cells := 0, slots := 0, locals := 21 } s m [.ref (ad 14), .int a1].toArray below meth c H locs 0 0 (MQ below (CQ D A (wT cI ad o_this) (some (.int res))) [.ref (ad 14), .int a1].toArray s 0 0 A) (F0 m 48 ls [])) → W p l e { frames := 1, cells := 0, slots := 0, locals := 21 } s m [.ref (ad 14), .int a1].toArray below meth c H locs 0 0 (MQ below (CQ D A (wT cI ad o_this) (some (.int res))) [.ref (ad 14), .int a1].toArray s 0 0 A) (F0 m 4 ls []) := by
    intro n
    induction n with
    | zero => intro v3_L4 v2_L4 out_L4 H locs ls hM; exact absurd (show none = some _ from hM) (by simp)
    | succ n ih_L4 =>
      intro v3_L4 v2_L4 out_L4 H locs ls hM hP hD hS hl kx_L4
      rw [f_Tree_firstUnfilled_L4] at hM
      refine lv_iload_n hx hb dX3_firstUnfilled_4 rfl (lv_at hl 0 rfl) ?_
      refine lv_aload_n hx hb dX3_firstUnfilled_5 rfl (lv_at hl 2 rfl) ?_
      refine va_get (D := D) (ci := 3) (v := .int o_this.1) (C := RX3) (T := TX3) (N := 8) hx hb hts layX3 hown hK hP 0 rfl rfl 7 (by decide) (hts _ (inA q370)) (fun _ h9 => h9) rfl dX3_firstUnfilled_6 ?_
      refine lv_icmp_ge (tgt := 48) hx hb dX3_firstUnfilled_9 (by decide) (fun c1 => ?_) (fun c1 => ?_)
      · replace hM := if_t c1 hM
        cases hM
        exact kx_L4 _ _ _ hP hD hS (lv_sub hl [1, 2] rfl)
      · replace hM := if_f c1 hM
        refine lv_aload_n hx hb dX3_firstUnfilled_12 rfl (lv_at hl 2 rfl) ?_
        refine lv_iload_n hx hb dX3_firstUnfilled_13 rfl (lv_at hl 1 rfl) ?_
        obtain ⟨r2, hcr2, hM⟩ := ob_use hM
        refine cl_V (As := [.int v2_L4]) (rest := []) (wT cI ad o_this) (.int r2 :: []) ⟨hx, hb, hml, hown, hts⟩ (c_Tree_has l D cI sd ad o_this v2_L4 r2 hcr2) (cwV2 hts q759 mvX3_has rfl rfl ⟨(Nat.le_of_ble_eq_true rfl), (Nat.le_of_ble_eq_true rfl)⟩) hK hE hA hP hD hS 0 (T := TX3) (N := 8) (ci := 3) rfl rfl [0, 1, 2, 3, 4, 5, 6, 7] rfl (by decide) rfl rfl rfl rfl rfl rfl hl.1 (Nat.le_of_ble_eq_true rfl) dX3_firstUnfilled_14 ⟨Nat.zero_le _, Nat.zero_le _⟩ (fun H locs hP hD hS => ?_)
        refine lv_if_eq (tgt := 48) hx hb dX3_firstUnfilled_17 (by decide) (fun c3 => ?_) (fun c3 => ?_)
        · replace hM := if_t c3 hM
          cases hM
          exact kx_L4 _ _ _ hP hD hS (lv_sub hl [1, 2] rfl)
        · replace hM := if_f c3 hM
          refine lv_aload_n hx hb dX3_firstUnfilled_20 rfl (lv_at hl 2 rfl) ?_
          refine va_get (D := D) (ci := 3) (v := .ref (ad 21)) (C := RX3) (T := TX3) (N := 8) hx hb hts layX3 hown hK hP 0 rfl rfl 6 (by decide) (hts _ (inA q369)) (fun _ h9 => h9) rfl dX3_firstUnfilled_21 ?_
          refine lv_iload_n hx hb dX3_firstUnfilled_24 rfl (lv_at hl 1 rfl) ?_
          obtain ⟨b4, hM⟩ := gd_use hM
          refine va_iald hx hb hK hP 7 0 rfl rfl b4 dX3_firstUnfilled_25 ?_
          refine lv_aload_n hx hb dX3_firstUnfilled_26 rfl (lv_at hl 2 rfl) ?_
          refine va_get (D := D) (ci := 3) (v := .ref (ad 18)) (C := RX3) (T := TX3) (N := 8) hx hb hts layX3 hown hK hP 0 rfl rfl 3 (by decide) (hts _ (inA q366)) (fun _ h9 => h9) rfl dX3_firstUnfilled_27 ?_
          refine lv_iload_n hx hb dX3_firstUnfilled_30 rfl (lv_at hl 1 rfl) ?_
          obtain ⟨b5, hM⟩ := gd_use hM
          refine va_iald hx hb hK hP 4 0 rfl rfl b5 dX3_firstUnfilled_31 ?_
          refine lv_icmp_lt (tgt := 48) hx hb dX3_firstUnfilled_32 (by decide) (fun c6 => ?_) (fun c6 => ?_)
          · replace hM := if_t c6 hM
            cases hM
            exact kx_L4 _ _ _ hP hD hS (lv_sub hl [1, 2] rfl)
          · replace hM := if_f c6 hM
            refine lv_aload_n hx hb dX3_firstUnfilled_35 rfl (lv_at hl 2 rfl) ?_
            refine va_get (D := D) (ci := 3) (v := .ref (ad 19)) (C := RX3) (T := TX3) (N := 8) hx hb hts layX3 hown hK hP 0 rfl rfl 4 (by decide) (hts _ (inA q367)) (fun _ h9 => h9) rfl dX3_firstUnfilled_36 ?_
            refine lv_iload_n hx hb dX3_firstUnfilled_39 rfl (lv_at hl 1 rfl) ?_
            obtain ⟨b7, hM⟩ := gd_use hM
            refine va_iald hx hb hK hP 5 0 rfl rfl b7 dX3_firstUnfilled_40 ?_
            refine lv_topi (fun x8 ex8 => ?_)
            replace hM := nm_use ex8 hM
            refine lv_istore_n (lv' := [(2, .int x8), (3, .int v3_L4), (0, .ref (ad 14))]) hx hb dX3_firstUnfilled_41 rfl hl (by decide) rfl (fun ls hl => ?_)
            obtain ⟨x9, ex9⟩ : ∃ y : Int32, y = v3_L4 + 1 := ⟨_, rfl⟩
            replace hM := nm_use ex9 hM
            refine lv_iinc (v := x9) (lv' := [(3, .int x9), (2, .int x8), (0, .ref (ad 14))]) hx hb dX3_firstUnfilled_42 hl (k := 1) rfl (by rw [ex9]; rfl) (by decide) rfl (fun ls hl => ?_)
            refine lv_goto (tgt := 4) hx hb dX3_firstUnfilled_45 (by decide) ?_
            exact ih_L4 x9 x8 out_L4 _ _ _ hM hP hD hS (lv_sub hl [0, 1, 2] rfl) kx_L4
  obtain ⟨r10, hcr10, hM⟩ := ob_use hM
  refine lp_L4 FU 0 a1 r10 _ _ _ hcr10 hP hD hS (lv_sub hl [0, 1, 2] rfl) (fun H locs ls hP hD hS hl => ?_)
  refine lv_iload_n hx hb dX3_firstUnfilled_48 rfl (lv_at hl 0 rfl) ?_
  cases hM
  exact rt_i hx hb hr hlk hP hD hS rfl dX3_firstUnfilled_49

set_option maxHeartbeats 4000000 in
set_option maxRecDepth 100000 in
theorem c_Tree_link (l : Launch) (D : va_G) (cI : ClassId) (sd : Nat → Nat) (ad : Nat → Nat) (o_this : S_Tree) (res : S_Tree) (hM : f_Tree_link o_this = some res) : Ctr l D cI sd yX3_link (wsM yX3_link cX3_link 3 (Option.none : Option Jvm.ClassFile.FieldType)) { frames := 2, cells := 0, slots := 0, locals := 44 } [.ref (ad 14)] (wT cI ad o_this) (wT cI ad res) none := by
  refine Ctr.of (cc := cX3_link) (maxL := 3) (own := RX3) (by decide +kernel) rfl rfl (Nat.le_of_ble_eq_true rfl) ?_
  intro p e s m below meth c A ls hx hb hr hml hown hts hlk hK hE hA hP hD hS hl
  have hl : lv_has ls 3 [(0, .ref (ad 14))] := hl
  unfold f_Tree_link at hM
  refine lv_iconst (v := (-1)) hx hb dX3_link_0 (by decide) ?_
  refine lv_istore_n (lv' := [(1, .int (-1)), (0, .ref (ad 14))]) hx hb dX3_link_1 rfl hl (by decide) rfl (fun ls hl => ?_)
  refine lv_iconst (v := 0) hx hb dX3_link_2 (by decide) ?_
  refine lv_istore_n (lv' := [(2, .int 0), (1, .int (-1)), (0, .ref (ad 14))]) hx hb dX3_link_3 rfl hl (by decide) rfl (fun ls hl => ?_)
  have lp_L4 : ∀ (n : Nat) (v2_L4 : Int32) (v1_L4 : Int32) (o_this_L4 : S_Tree) (out_L4 : S_Tree) (H : Heap) (locs : List Loc) (ls : Array Slot), f_Tree_link_L4 n v2_L4 v1_L4 o_this_L4 = some out_L4 → va_P D vwCl (wT cI ad o_this_L4) H → va_D A (wT cI ad o_this_L4) → va_S A s.heap H locs → lv_has ls 3 [(2, .int v2_L4), (1, .int v1_L4), (0, .ref (ad 14))] → (∀ (H : Heap) (locs : List Loc) (ls : Array Slot), va_P D vwCl (wT cI ad out_L4) H → va_D A (wT cI ad out_L4) → va_S A s.heap H locs → lv_has ls 3 [(0, .ref (ad 14))] → W p l e { frames := 2, cells := 0, slots := 0, locals := 44 } s m [.ref (ad 14)].toArray below meth c H locs 0 0 (MQ below (CQ D A (wT cI ad res) none) [.ref (ad 14)].toArray s 0 0 A) (F0 m 76 ls [])) → W p l e { frames := 2, cells := 0, slots := 0, locals := 44 } s m [.ref (ad 14)].toArray below meth c H locs 0 0 (MQ below (CQ D A (wT cI ad res) none) [.ref (ad 14)].toArray s 0 0 A) (F0 m 4 ls []) := by
    intro n
    induction n with
    | zero => intro v2_L4 v1_L4 o_this_L4 out_L4 H locs ls hM; exact absurd (show none = some _ from hM) (by simp)
    | succ n ih_L4 =>
      intro v2_L4 v1_L4 o_this_L4 out_L4 H locs ls hM hP hD hS hl kx_L4
      rw [f_Tree_link_L4] at hM
      refine lv_iload_n hx hb dX3_link_4 rfl (lv_at hl 0 rfl) ?_
      refine lv_aload_n hx hb dX3_link_5 rfl (lv_at hl 2 rfl) ?_
      refine va_get (D := D) (ci := 3) (v := .int o_this_L4.1) (C := RX3) (T := TX3) (N := 8) hx hb hts layX3 hown hK hP 0 rfl rfl 7 (by decide) (hts _ (inA q370)) (fun _ h9 => h9) rfl dX3_link_6 ?_
      refine lv_icmp_ge (tgt := 76) hx hb dX3_link_9 (by decide) (fun c1 => ?_) (fun c1 => ?_)
      · replace hM := if_t c1 hM
        cases hM
        exact kx_L4 _ _ _ hP hD hS (lv_sub hl [2] rfl)
      · replace hM := if_f c1 hM
        refine lv_iload_n hx hb dX3_link_12 rfl (lv_at hl 0 rfl) ?_
        refine lv_sipush (v := 16384) hx hb dX3_link_13 (by decide) ?_
        refine lv_icmp_ge (tgt := 76) hx hb dX3_link_16 (by decide) (fun c2 => ?_) (fun c2 => ?_)
        · replace hM := if_t c2 hM
          cases hM
          exact kx_L4 _ _ _ hP hD hS (lv_sub hl [2] rfl)
        · replace hM := if_f c2 hM
          refine lv_aload_n hx hb dX3_link_19 rfl (lv_at hl 2 rfl) ?_
          refine lv_iload_n hx hb dX3_link_20 rfl (lv_at hl 1 rfl) ?_
          obtain ⟨r3, hcr3, hM⟩ := ob_use hM
          refine cl_V (As := [.int v1_L4]) (rest := []) (wT cI ad o_this_L4) (.int r3 :: []) ⟨hx, hb, hml, hown, hts⟩ (c_Tree_firstUnfilled l D cI sd ad o_this_L4 v1_L4 r3 hcr3) (cwV2 hts q810 mvX3_firstUnfilled rfl rfl ⟨(Nat.le_of_ble_eq_true rfl), (Nat.le_of_ble_eq_true rfl)⟩) hK hE hA hP hD hS 0 (T := TX3) (N := 8) (ci := 3) rfl rfl [0, 1, 2, 3, 4, 5, 6, 7] rfl (by decide) rfl rfl rfl rfl rfl rfl hl.1 (Nat.le_of_ble_eq_true rfl) dX3_link_21 ⟨Nat.zero_le _, Nat.zero_le _⟩ (fun H locs hP hD hS => ?_)
          refine lv_istore_n (lv' := [(1, .int r3), (2, .int v2_L4), (0, .ref (ad 14))]) hx hb dX3_link_24 rfl hl (by decide) rfl (fun ls hl => ?_)
          refine lv_aload_n hx hb dX3_link_25 rfl (lv_at hl 2 rfl) ?_
          refine va_get (D := D) (ci := 3) (v := .ref (ad 19)) (C := RX3) (T := TX3) (N := 8) hx hb hts layX3 hown hK hP 0 rfl rfl 4 (by decide) (hts _ (inA q367)) (fun _ h9 => h9) rfl dX3_link_26 ?_
          refine lv_iload_n hx hb dX3_link_29 rfl (lv_at hl 1 rfl) ?_
          refine lv_iload_n hx hb dX3_link_30 rfl (lv_at hl 0 rfl) ?_
          obtain ⟨b4, hM⟩ := gd_use hM
          refine va_iast hx hb hK hP hD hS 5 0 rfl rfl b4 dX3_link_31 (fun H locs hP hD hS => ?_)
          have hP : va_P D vwCl (wT cI ad (o_this_L4.1, o_this_L4.2.1, o_this_L4.2.2.1, o_this_L4.2.2.2.1, o_this_L4.2.2.2.2.1, upd o_this_L4.2.2.2.2.2.1 v2_L4.toNatClampNeg r3, o_this_L4.2.2.2.2.2.2)) H := hP
          have hD : va_D A (wT cI ad (o_this_L4.1, o_this_L4.2.1, o_this_L4.2.2.1, o_this_L4.2.2.2.1, o_this_L4.2.2.2.2.1, upd o_this_L4.2.2.2.2.2.1 v2_L4.toNatClampNeg r3, o_this_L4.2.2.2.2.2.2)) := hD
          refine lv_aload_n hx hb dX3_link_32 rfl (lv_at hl 2 rfl) ?_
          refine va_get (D := D) (ci := 3) (v := .ref (ad 20)) (C := RX3) (T := TX3) (N := 8) hx hb hts layX3 hown hK hP 0 rfl rfl 5 (by decide) (hts _ (inA q368)) (fun _ h9 => h9) rfl dX3_link_33 ?_
          refine lv_iload_n hx hb dX3_link_36 rfl (lv_at hl 1 rfl) ?_
          refine lv_aload_n hx hb dX3_link_37 rfl (lv_at hl 2 rfl) ?_
          refine lv_iload_n hx hb dX3_link_38 rfl (lv_at hl 0 rfl) ?_
          obtain ⟨r5, hcr5, hM⟩ := ob_use hM
          refine cl_V (As := [.int r3]) (rest := [.int v2_L4, .ref (ad 20)]) (wT cI ad (o_this_L4.1, o_this_L4.2.1, o_this_L4.2.2.1, o_this_L4.2.2.2.1, o_this_L4.2.2.2.2.1, upd o_this_L4.2.2.2.2.2.1 v2_L4.toNatClampNeg r3, o_this_L4.2.2.2.2.2.2)) (.int r5 :: [.int v2_L4, .ref (ad 20)]) ⟨hx, hb, hml, hown, hts⟩ (c_Tree_has l D cI sd ad (o_this_L4.1, o_this_L4.2.1, o_this_L4.2.2.1, o_this_L4.2.2.2.1, o_this_L4.2.2.2.2.1, upd o_this_L4.2.2.2.2.2.1 v2_L4.toNatClampNeg r3, o_this_L4.2.2.2.2.2.2) r3 r5 hcr5) (cwV2 hts q759 mvX3_has rfl rfl ⟨(Nat.le_of_ble_eq_true rfl), (Nat.le_of_ble_eq_true rfl)⟩) hK hE hA hP hD hS 0 (T := TX3) (N := 8) (ci := 3) rfl rfl [0, 1, 2, 3, 4, 5, 6, 7] rfl (by decide) rfl rfl rfl rfl rfl rfl hl.1 (Nat.le_of_ble_eq_true rfl) dX3_link_39 ⟨Nat.zero_le _, Nat.zero_le _⟩ (fun H locs hP hD hS => ?_)
          refine lv_if_eq (tgt := 59) hx hb dX3_link_42 (by decide) (fun c6 => ?_) (fun c6 => ?_)
          · replace hM := if_t c6 hM
            refine lv_iconst (v := 0) hx hb dX3_link_59 (by decide) ?_
            obtain ⟨b7, hM⟩ := gd_use hM
            refine va_iast hx hb hK hP hD hS 6 0 rfl rfl b7 dX3_link_60 (fun H locs hP hD hS => ?_)
            have hP : va_P D vwCl (wT cI ad (o_this_L4.1, o_this_L4.2.1, o_this_L4.2.2.1, o_this_L4.2.2.2.1, o_this_L4.2.2.2.2.1, upd o_this_L4.2.2.2.2.2.1 v2_L4.toNatClampNeg r3, upd o_this_L4.2.2.2.2.2.2.1 v2_L4.toNatClampNeg 0, o_this_L4.2.2.2.2.2.2.2)) H := hP
            have hD : va_D A (wT cI ad (o_this_L4.1, o_this_L4.2.1, o_this_L4.2.2.1, o_this_L4.2.2.2.1, o_this_L4.2.2.2.2.1, upd o_this_L4.2.2.2.2.2.1 v2_L4.toNatClampNeg r3, upd o_this_L4.2.2.2.2.2.2.1 v2_L4.toNatClampNeg 0, o_this_L4.2.2.2.2.2.2.2)) := hD
            refine lv_aload_n hx hb dX3_link_61 rfl (lv_at hl 2 rfl) ?_
            refine va_get (D := D) (ci := 3) (v := .ref (ad 21)) (C := RX3) (T := TX3) (N := 8) hx hb hts layX3 hown hK hP 0 rfl rfl 6 (by decide) (hts _ (inA q369)) (fun _ h9 => h9) rfl dX3_link_62 ?_
            refine lv_iload_n hx hb dX3_link_65 rfl (lv_at hl 1 rfl) ?_
            refine lv_iconst (v := 0) hx hb dX3_link_66 (by decide) ?_
            obtain ⟨b8, hM⟩ := gd_use hM
            refine va_iast hx hb hK hP hD hS 7 0 rfl rfl b8 dX3_link_67 (fun H locs hP hD hS => ?_)
            have hP : va_P D vwCl (wT cI ad (o_this_L4.1, o_this_L4.2.1, o_this_L4.2.2.1, o_this_L4.2.2.2.1, o_this_L4.2.2.2.2.1, upd o_this_L4.2.2.2.2.2.1 v2_L4.toNatClampNeg r3, upd o_this_L4.2.2.2.2.2.2.1 v2_L4.toNatClampNeg 0, upd o_this_L4.2.2.2.2.2.2.2 v2_L4.toNatClampNeg 0)) H := hP
            have hD : va_D A (wT cI ad (o_this_L4.1, o_this_L4.2.1, o_this_L4.2.2.1, o_this_L4.2.2.2.1, o_this_L4.2.2.2.2.1, upd o_this_L4.2.2.2.2.2.1 v2_L4.toNatClampNeg r3, upd o_this_L4.2.2.2.2.2.2.1 v2_L4.toNatClampNeg 0, upd o_this_L4.2.2.2.2.2.2.2 v2_L4.toNatClampNeg 0)) := hD
            refine lv_iload_n hx hb dX3_link_68 rfl (lv_at hl 1 rfl) ?_
            refine lv_istore_n (lv' := [(1, .int v2_L4), (2, .int v2_L4), (0, .ref (ad 14))]) hx hb dX3_link_69 rfl hl (by decide) rfl (fun ls hl => ?_)
            obtain ⟨x9, ex9⟩ : ∃ y : Int32, y = v2_L4 + 1 := ⟨_, rfl⟩
            replace hM := nm_use ex9 hM
            refine lv_iinc (v := x9) (lv' := [(2, .int x9), (1, .int v2_L4), (0, .ref (ad 14))]) hx hb dX3_link_70 hl (k := 1) rfl (by rw [ex9]; rfl) (by decide) rfl (fun ls hl => ?_)
            refine lv_goto (tgt := 4) hx hb dX3_link_73 (by decide) ?_
            exact ih_L4 x9 v2_L4 (o_this_L4.1, o_this_L4.2.1, o_this_L4.2.2.1, o_this_L4.2.2.2.1, o_this_L4.2.2.2.2.1, upd o_this_L4.2.2.2.2.2.1 v2_L4.toNatClampNeg r3, upd o_this_L4.2.2.2.2.2.2.1 v2_L4.toNatClampNeg 0, upd o_this_L4.2.2.2.2.2.2.2 v2_L4.toNatClampNeg 0) out_L4 _ _ _ hM hP hD hS (lv_sub hl [0, 1, 2] rfl) kx_L4
          · replace hM := if_f c6 hM
            refine lv_aload_n hx hb dX3_link_45 rfl (lv_at hl 2 rfl) ?_
            refine va_get (D := D) (ci := 3) (v := .ref (ad 21)) (C := RX3) (T := TX3) (N := 8) hx hb hts layX3 hown hK hP 0 rfl rfl 6 (by decide) (hts _ (inA q369)) (fun _ h9 => h9) rfl dX3_link_46 ?_
            refine lv_iload_n hx hb dX3_link_49 rfl (lv_at hl 0 rfl) ?_
            refine lv_dup2_11 hx hb dX3_link_50 rfl rfl ?_
            obtain ⟨b10, hM⟩ := gd_use hM
            refine va_iald hx hb hK hP 7 0 rfl rfl b10 dX3_link_51 ?_
            refine lv_dup_x2 hx hb dX3_link_52 rfl rfl rfl ?_
            refine lv_iconst (v := 1) hx hb dX3_link_53 (by decide) ?_
            refine lv_iadd hx hb dX3_link_54 ?_
            refine lv_topi (fun x12 ex12 => ?_)
            replace hM := nm_use ex12 hM
            obtain ⟨b11, hM⟩ := gd_use hM
            refine va_iast hx hb hK hP hD hS 7 0 rfl rfl b11 dX3_link_55 (fun H locs hP hD hS => ?_)
            have hP : va_P D vwCl (wT cI ad (o_this_L4.1, o_this_L4.2.1, o_this_L4.2.2.1, o_this_L4.2.2.2.1, o_this_L4.2.2.2.2.1, upd o_this_L4.2.2.2.2.2.1 v2_L4.toNatClampNeg r3, o_this_L4.2.2.2.2.2.2.1, upd o_this_L4.2.2.2.2.2.2.2 r3.toNatClampNeg x12)) H := hP
            have hD : va_D A (wT cI ad (o_this_L4.1, o_this_L4.2.1, o_this_L4.2.2.1, o_this_L4.2.2.2.1, o_this_L4.2.2.2.2.1, upd o_this_L4.2.2.2.2.2.1 v2_L4.toNatClampNeg r3, o_this_L4.2.2.2.2.2.2.1, upd o_this_L4.2.2.2.2.2.2.2 r3.toNatClampNeg x12)) := hD
            refine lv_goto (tgt := 60) hx hb dX3_link_56 (by decide) ?_
            refine lv_topi (fun x14 ex14 => ?_)
            replace hM := nm_use ex14 hM
            obtain ⟨b13, hM⟩ := gd_use hM
            refine va_iast hx hb hK hP hD hS 6 0 rfl rfl b13 dX3_link_60 (fun H locs hP hD hS => ?_)
            have hP : va_P D vwCl (wT cI ad (o_this_L4.1, o_this_L4.2.1, o_this_L4.2.2.1, o_this_L4.2.2.2.1, o_this_L4.2.2.2.2.1, upd o_this_L4.2.2.2.2.2.1 v2_L4.toNatClampNeg r3, upd o_this_L4.2.2.2.2.2.2.1 v2_L4.toNatClampNeg x14, upd o_this_L4.2.2.2.2.2.2.2 r3.toNatClampNeg x12)) H := hP
            have hD : va_D A (wT cI ad (o_this_L4.1, o_this_L4.2.1, o_this_L4.2.2.1, o_this_L4.2.2.2.1, o_this_L4.2.2.2.2.1, upd o_this_L4.2.2.2.2.2.1 v2_L4.toNatClampNeg r3, upd o_this_L4.2.2.2.2.2.2.1 v2_L4.toNatClampNeg x14, upd o_this_L4.2.2.2.2.2.2.2 r3.toNatClampNeg x12)) := hD
            refine lv_aload_n hx hb dX3_link_61 rfl (lv_at hl 2 rfl) ?_
            refine va_get (D := D) (ci := 3) (v := .ref (ad 21)) (C := RX3) (T := TX3) (N := 8) hx hb hts layX3 hown hK hP 0 rfl rfl 6 (by decide) (hts _ (inA q369)) (fun _ h9 => h9) rfl dX3_link_62 ?_
            refine lv_iload_n hx hb dX3_link_65 rfl (lv_at hl 1 rfl) ?_
            refine lv_iconst (v := 0) hx hb dX3_link_66 (by decide) ?_
            obtain ⟨b15, hM⟩ := gd_use hM
            refine va_iast hx hb hK hP hD hS 7 0 rfl rfl b15 dX3_link_67 (fun H locs hP hD hS => ?_)
            have hP : va_P D vwCl (wT cI ad (o_this_L4.1, o_this_L4.2.1, o_this_L4.2.2.1, o_this_L4.2.2.2.1, o_this_L4.2.2.2.2.1, upd o_this_L4.2.2.2.2.2.1 v2_L4.toNatClampNeg r3, upd o_this_L4.2.2.2.2.2.2.1 v2_L4.toNatClampNeg x14, upd (upd o_this_L4.2.2.2.2.2.2.2 r3.toNatClampNeg x12) v2_L4.toNatClampNeg 0)) H := hP
            have hD : va_D A (wT cI ad (o_this_L4.1, o_this_L4.2.1, o_this_L4.2.2.1, o_this_L4.2.2.2.1, o_this_L4.2.2.2.2.1, upd o_this_L4.2.2.2.2.2.1 v2_L4.toNatClampNeg r3, upd o_this_L4.2.2.2.2.2.2.1 v2_L4.toNatClampNeg x14, upd (upd o_this_L4.2.2.2.2.2.2.2 r3.toNatClampNeg x12) v2_L4.toNatClampNeg 0)) := hD
            refine lv_iload_n hx hb dX3_link_68 rfl (lv_at hl 1 rfl) ?_
            refine lv_istore_n (lv' := [(1, .int v2_L4), (2, .int v2_L4), (0, .ref (ad 14))]) hx hb dX3_link_69 rfl hl (by decide) rfl (fun ls hl => ?_)
            obtain ⟨x16, ex16⟩ : ∃ y : Int32, y = v2_L4 + 1 := ⟨_, rfl⟩
            replace hM := nm_use ex16 hM
            refine lv_iinc (v := x16) (lv' := [(2, .int x16), (1, .int v2_L4), (0, .ref (ad 14))]) hx hb dX3_link_70 hl (k := 1) rfl (by rw [ex16]; rfl) (by decide) rfl (fun ls hl => ?_)
            refine lv_goto (tgt := 4) hx hb dX3_link_73 (by decide) ?_
            exact ih_L4 x16 v2_L4 (o_this_L4.1, o_this_L4.2.1, o_this_L4.2.2.1, o_this_L4.2.2.2.1, o_this_L4.2.2.2.2.1, upd o_this_L4.2.2.2.2.2.1 v2_L4.toNatClampNeg r3, upd o_this_L4.2.2.2.2.2.2.1 v2_L4.toNatClampNeg x14, upd (upd o_this_L4.2.2.2.2.2.2.2 r3.toNatClampNeg x12) v2_L4.toNatClampNeg 0) out_L4 _ _ _ hM hP hD hS (lv_sub hl [0, 1, 2] rfl) kx_L4
  obtain ⟨r17, hcr17, hM⟩ := ob_use hM
  refine lp_L4 FU 0 (-1) o_this r17 _ _ _ hcr17 hP hD hS (lv_sub hl [0, 1, 2] rfl) (fun H locs ls hP hD hS hl => ?_)
  cases hM
  exact rt_v hx hb hr hlk hP hD hS rfl dX3_link_76

set_option maxHeartbeats 4000000 in
set_option maxRecDepth 100000 in
theorem c_Tree_children (l : Launch) (D : va_G) (cI : ClassId) (sd : Nat → Nat) (ad : Nat → Nat) (o_this : S_Tree) (a1 : Int32) (res : Int32) (hM : f_Tree_children o_this a1 = some res) : Ctr l D cI sd yX3_children (wsM yX3_children cX3_children 2 (Option.some Jvm.ClassFile.FieldType.int)) { frames := 1, cells := 0, slots := 0, locals := 21 } [.ref (ad 14), .int a1] (wT cI ad o_this) (wT cI ad o_this) (some (.int res)) := by
  refine Ctr.of (cc := cX3_children) (maxL := 2) (own := RX3) (by decide +kernel) rfl rfl (Nat.le_of_ble_eq_true rfl) ?_
  intro p e s m below meth c A ls hx hb hr hml hown hts hlk hK hE hA hP hD hS hl
  have hl : lv_has ls 2 [(0, .ref (ad 14)), (1, .int a1)] := hl
  unfold f_Tree_children at hM
  refine lv_aload_n hx hb dX3_children_0 rfl (lv_at hl 0 rfl) ?_
  refine lv_iload_n hx hb dX3_children_1 rfl (lv_at hl 1 rfl) ?_
  obtain ⟨r1, hcr1, hM⟩ := ob_use hM
  refine cl_V (As := [.int a1]) (rest := []) (wT cI ad o_this) (.int r1 :: []) ⟨hx, hb, hml, hown, hts⟩ (c_Tree_has l D cI sd ad o_this a1 r1 hcr1) (cwV2 hts q759 mvX3_has rfl rfl ⟨(Nat.le_of_ble_eq_true rfl), (Nat.le_of_ble_eq_true rfl)⟩) hK hE hA hP hD hS 0 (T := TX3) (N := 8) (ci := 3) rfl rfl [0, 1, 2, 3, 4, 5, 6, 7] rfl (by decide) rfl rfl rfl rfl rfl rfl hl.1 (Nat.le_of_ble_eq_true rfl) dX3_children_2 ⟨Nat.zero_le _, Nat.zero_le _⟩ (fun H locs hP hD hS => ?_)
  refine lv_if_eq (tgt := 17) hx hb dX3_children_5 (by decide) (fun c2 => ?_) (fun c2 => ?_)
  · replace hM := if_t c2 hM
    refine lv_iconst (v := (-1)) hx hb dX3_children_17 (by decide) ?_
    cases hM
    exact rt_i hx hb hr hlk hP hD hS rfl dX3_children_18
  · replace hM := if_f c2 hM
    refine lv_aload_n hx hb dX3_children_8 rfl (lv_at hl 0 rfl) ?_
    refine va_get (D := D) (ci := 3) (v := .ref (ad 18)) (C := RX3) (T := TX3) (N := 8) hx hb hts layX3 hown hK hP 0 rfl rfl 3 (by decide) (hts _ (inA q366)) (fun _ h9 => h9) rfl dX3_children_9 ?_
    refine lv_iload_n hx hb dX3_children_12 rfl (lv_at hl 1 rfl) ?_
    obtain ⟨b3, hM⟩ := gd_use hM
    refine va_iald hx hb hK hP 4 0 rfl rfl b3 dX3_children_13 ?_
    refine lv_goto (tgt := 18) hx hb dX3_children_14 (by decide) ?_
    cases hM
    exact rt_i hx hb hr hlk hP hD hS rfl dX3_children_18

set_option maxHeartbeats 4000000 in
set_option maxRecDepth 100000 in
theorem c_Tree_kind (l : Launch) (D : va_G) (cI : ClassId) (sd : Nat → Nat) (ad : Nat → Nat) (o_this : S_Tree) (a1 : Int32) (res : Int32) (hM : f_Tree_kind o_this a1 = some res) : Ctr l D cI sd yX3_kind (wsM yX3_kind cX3_kind 2 (Option.some Jvm.ClassFile.FieldType.int)) { frames := 1, cells := 0, slots := 0, locals := 21 } [.ref (ad 14), .int a1] (wT cI ad o_this) (wT cI ad o_this) (some (.int res)) := by
  refine Ctr.of (cc := cX3_kind) (maxL := 2) (own := RX3) (by decide +kernel) rfl rfl (Nat.le_of_ble_eq_true rfl) ?_
  intro p e s m below meth c A ls hx hb hr hml hown hts hlk hK hE hA hP hD hS hl
  have hl : lv_has ls 2 [(0, .ref (ad 14)), (1, .int a1)] := hl
  unfold f_Tree_kind at hM
  refine lv_aload_n hx hb dX3_kind_0 rfl (lv_at hl 0 rfl) ?_
  refine lv_iload_n hx hb dX3_kind_1 rfl (lv_at hl 1 rfl) ?_
  obtain ⟨r1, hcr1, hM⟩ := ob_use hM
  refine cl_V (As := [.int a1]) (rest := []) (wT cI ad o_this) (.int r1 :: []) ⟨hx, hb, hml, hown, hts⟩ (c_Tree_has l D cI sd ad o_this a1 r1 hcr1) (cwV2 hts q759 mvX3_has rfl rfl ⟨(Nat.le_of_ble_eq_true rfl), (Nat.le_of_ble_eq_true rfl)⟩) hK hE hA hP hD hS 0 (T := TX3) (N := 8) (ci := 3) rfl rfl [0, 1, 2, 3, 4, 5, 6, 7] rfl (by decide) rfl rfl rfl rfl rfl rfl hl.1 (Nat.le_of_ble_eq_true rfl) dX3_kind_2 ⟨Nat.zero_le _, Nat.zero_le _⟩ (fun H locs hP hD hS => ?_)
  refine lv_if_eq (tgt := 17) hx hb dX3_kind_5 (by decide) (fun c2 => ?_) (fun c2 => ?_)
  · replace hM := if_t c2 hM
    refine lv_iconst (v := (-1)) hx hb dX3_kind_17 (by decide) ?_
    cases hM
    exact rt_i hx hb hr hlk hP hD hS rfl dX3_kind_18
  · replace hM := if_f c2 hM
    refine lv_aload_n hx hb dX3_kind_8 rfl (lv_at hl 0 rfl) ?_
    refine va_get (D := D) (ci := 3) (v := .ref (ad 15)) (C := RX3) (T := TX3) (N := 8) hx hb hts layX3 hown hK hP 0 rfl rfl 0 (by decide) (hts _ (inA q363)) (fun _ h9 => h9) rfl dX3_kind_9 ?_
    refine lv_iload_n hx hb dX3_kind_12 rfl (lv_at hl 1 rfl) ?_
    obtain ⟨b3, hM⟩ := gd_use hM
    refine va_iald hx hb hK hP 1 0 rfl rfl b3 dX3_kind_13 ?_
    refine lv_goto (tgt := 18) hx hb dX3_kind_14 (by decide) ?_
    cases hM
    exact rt_i hx hb hr hlk hP hD hS rfl dX3_kind_18

set_option maxHeartbeats 4000000 in
set_option maxRecDepth 100000 in
theorem c_Tree_parent (l : Launch) (D : va_G) (cI : ClassId) (sd : Nat → Nat) (ad : Nat → Nat) (o_this : S_Tree) (a1 : Int32) (res : Int32) (hM : f_Tree_parent o_this a1 = some res) : Ctr l D cI sd yX3_parent (wsM yX3_parent cX3_parent 2 (Option.some Jvm.ClassFile.FieldType.int)) { frames := 1, cells := 0, slots := 0, locals := 21 } [.ref (ad 14), .int a1] (wT cI ad o_this) (wT cI ad o_this) (some (.int res)) := by
  refine Ctr.of (cc := cX3_parent) (maxL := 2) (own := RX3) (by decide +kernel) rfl rfl (Nat.le_of_ble_eq_true rfl) ?_
  intro p e s m below meth c A ls hx hb hr hml hown hts hlk hK hE hA hP hD hS hl
  have hl : lv_has ls 2 [(0, .ref (ad 14)), (1, .int a1)] := hl
  unfold f_Tree_parent at hM
  refine lv_aload_n hx hb dX3_parent_0 rfl (lv_at hl 0 rfl) ?_
  refine lv_iload_n hx hb dX3_parent_1 rfl (lv_at hl 1 rfl) ?_
  obtain ⟨r1, hcr1, hM⟩ := ob_use hM
  refine cl_V (As := [.int a1]) (rest := []) (wT cI ad o_this) (.int r1 :: []) ⟨hx, hb, hml, hown, hts⟩ (c_Tree_has l D cI sd ad o_this a1 r1 hcr1) (cwV2 hts q759 mvX3_has rfl rfl ⟨(Nat.le_of_ble_eq_true rfl), (Nat.le_of_ble_eq_true rfl)⟩) hK hE hA hP hD hS 0 (T := TX3) (N := 8) (ci := 3) rfl rfl [0, 1, 2, 3, 4, 5, 6, 7] rfl (by decide) rfl rfl rfl rfl rfl rfl hl.1 (Nat.le_of_ble_eq_true rfl) dX3_parent_2 ⟨Nat.zero_le _, Nat.zero_le _⟩ (fun H locs hP hD hS => ?_)
  refine lv_if_eq (tgt := 17) hx hb dX3_parent_5 (by decide) (fun c2 => ?_) (fun c2 => ?_)
  · replace hM := if_t c2 hM
    refine lv_iconst (v := (-1)) hx hb dX3_parent_17 (by decide) ?_
    cases hM
    exact rt_i hx hb hr hlk hP hD hS rfl dX3_parent_18
  · replace hM := if_f c2 hM
    refine lv_aload_n hx hb dX3_parent_8 rfl (lv_at hl 0 rfl) ?_
    refine va_get (D := D) (ci := 3) (v := .ref (ad 19)) (C := RX3) (T := TX3) (N := 8) hx hb hts layX3 hown hK hP 0 rfl rfl 4 (by decide) (hts _ (inA q367)) (fun _ h9 => h9) rfl dX3_parent_9 ?_
    refine lv_iload_n hx hb dX3_parent_12 rfl (lv_at hl 1 rfl) ?_
    obtain ⟨b3, hM⟩ := gd_use hM
    refine va_iald hx hb hK hP 5 0 rfl rfl b3 dX3_parent_13 ?_
    refine lv_goto (tgt := 18) hx hb dX3_parent_14 (by decide) ?_
    cases hM
    exact rt_i hx hb hr hlk hP hD hS rfl dX3_parent_18

set_option maxHeartbeats 4000000 in
set_option maxRecDepth 100000 in
theorem c_Tree_place (l : Launch) (D : va_G) (cI : ClassId) (sd : Nat → Nat) (ad : Nat → Nat) (o_this : S_Tree) (a1 : Int32) (res : Int32) (hM : f_Tree_place o_this a1 = some res) : Ctr l D cI sd yX3_place (wsM yX3_place cX3_place 2 (Option.some Jvm.ClassFile.FieldType.int)) { frames := 1, cells := 0, slots := 0, locals := 21 } [.ref (ad 14), .int a1] (wT cI ad o_this) (wT cI ad o_this) (some (.int res)) := by
  refine Ctr.of (cc := cX3_place) (maxL := 2) (own := RX3) (by decide +kernel) rfl rfl (Nat.le_of_ble_eq_true rfl) ?_
  intro p e s m below meth c A ls hx hb hr hml hown hts hlk hK hE hA hP hD hS hl
  have hl : lv_has ls 2 [(0, .ref (ad 14)), (1, .int a1)] := hl
  unfold f_Tree_place at hM
  refine lv_aload_n hx hb dX3_place_0 rfl (lv_at hl 0 rfl) ?_
  refine lv_iload_n hx hb dX3_place_1 rfl (lv_at hl 1 rfl) ?_
  obtain ⟨r1, hcr1, hM⟩ := ob_use hM
  refine cl_V (As := [.int a1]) (rest := []) (wT cI ad o_this) (.int r1 :: []) ⟨hx, hb, hml, hown, hts⟩ (c_Tree_has l D cI sd ad o_this a1 r1 hcr1) (cwV2 hts q759 mvX3_has rfl rfl ⟨(Nat.le_of_ble_eq_true rfl), (Nat.le_of_ble_eq_true rfl)⟩) hK hE hA hP hD hS 0 (T := TX3) (N := 8) (ci := 3) rfl rfl [0, 1, 2, 3, 4, 5, 6, 7] rfl (by decide) rfl rfl rfl rfl rfl rfl hl.1 (Nat.le_of_ble_eq_true rfl) dX3_place_2 ⟨Nat.zero_le _, Nat.zero_le _⟩ (fun H locs hP hD hS => ?_)
  refine lv_if_eq (tgt := 17) hx hb dX3_place_5 (by decide) (fun c2 => ?_) (fun c2 => ?_)
  · replace hM := if_t c2 hM
    refine lv_iconst (v := (-1)) hx hb dX3_place_17 (by decide) ?_
    cases hM
    exact rt_i hx hb hr hlk hP hD hS rfl dX3_place_18
  · replace hM := if_f c2 hM
    refine lv_aload_n hx hb dX3_place_8 rfl (lv_at hl 0 rfl) ?_
    refine va_get (D := D) (ci := 3) (v := .ref (ad 16)) (C := RX3) (T := TX3) (N := 8) hx hb hts layX3 hown hK hP 0 rfl rfl 1 (by decide) (hts _ (inA q364)) (fun _ h9 => h9) rfl dX3_place_9 ?_
    refine lv_iload_n hx hb dX3_place_12 rfl (lv_at hl 1 rfl) ?_
    obtain ⟨b3, hM⟩ := gd_use hM
    refine va_iald hx hb hK hP 2 0 rfl rfl b3 dX3_place_13 ?_
    refine lv_goto (tgt := 18) hx hb dX3_place_14 (by decide) ?_
    cases hM
    exact rt_i hx hb hr hlk hP hD hS rfl dX3_place_18

set_option maxHeartbeats 4000000 in
set_option maxRecDepth 100000 in
theorem c_Tree_value (l : Launch) (D : va_G) (cI : ClassId) (sd : Nat → Nat) (ad : Nat → Nat) (o_this : S_Tree) (a1 : Int32) (res : Int32) (hM : f_Tree_value o_this a1 = some res) : Ctr l D cI sd yX3_value (wsM yX3_value cX3_value 2 (Option.some Jvm.ClassFile.FieldType.int)) { frames := 1, cells := 0, slots := 0, locals := 21 } [.ref (ad 14), .int a1] (wT cI ad o_this) (wT cI ad o_this) (some (.int res)) := by
  refine Ctr.of (cc := cX3_value) (maxL := 2) (own := RX3) (by decide +kernel) rfl rfl (Nat.le_of_ble_eq_true rfl) ?_
  intro p e s m below meth c A ls hx hb hr hml hown hts hlk hK hE hA hP hD hS hl
  have hl : lv_has ls 2 [(0, .ref (ad 14)), (1, .int a1)] := hl
  unfold f_Tree_value at hM
  refine lv_aload_n hx hb dX3_value_0 rfl (lv_at hl 0 rfl) ?_
  refine lv_iload_n hx hb dX3_value_1 rfl (lv_at hl 1 rfl) ?_
  obtain ⟨r1, hcr1, hM⟩ := ob_use hM
  refine cl_V (As := [.int a1]) (rest := []) (wT cI ad o_this) (.int r1 :: []) ⟨hx, hb, hml, hown, hts⟩ (c_Tree_has l D cI sd ad o_this a1 r1 hcr1) (cwV2 hts q759 mvX3_has rfl rfl ⟨(Nat.le_of_ble_eq_true rfl), (Nat.le_of_ble_eq_true rfl)⟩) hK hE hA hP hD hS 0 (T := TX3) (N := 8) (ci := 3) rfl rfl [0, 1, 2, 3, 4, 5, 6, 7] rfl (by decide) rfl rfl rfl rfl rfl rfl hl.1 (Nat.le_of_ble_eq_true rfl) dX3_value_2 ⟨Nat.zero_le _, Nat.zero_le _⟩ (fun H locs hP hD hS => ?_)
  refine lv_if_eq (tgt := 17) hx hb dX3_value_5 (by decide) (fun c2 => ?_) (fun c2 => ?_)
  · replace hM := if_t c2 hM
    refine lv_iconst (v := (-1)) hx hb dX3_value_17 (by decide) ?_
    cases hM
    exact rt_i hx hb hr hlk hP hD hS rfl dX3_value_18
  · replace hM := if_f c2 hM
    refine lv_aload_n hx hb dX3_value_8 rfl (lv_at hl 0 rfl) ?_
    refine va_get (D := D) (ci := 3) (v := .ref (ad 17)) (C := RX3) (T := TX3) (N := 8) hx hb hts layX3 hown hK hP 0 rfl rfl 2 (by decide) (hts _ (inA q365)) (fun _ h9 => h9) rfl dX3_value_9 ?_
    refine lv_iload_n hx hb dX3_value_12 rfl (lv_at hl 1 rfl) ?_
    obtain ⟨b3, hM⟩ := gd_use hM
    refine va_iald hx hb hK hP 3 0 rfl rfl b3 dX3_value_13 ?_
    refine lv_goto (tgt := 18) hx hb dX3_value_14 (by decide) ?_
    cases hM
    exact rt_i hx hb hr hlk hP hD hS rfl dX3_value_18

set_option maxHeartbeats 4000000 in
set_option maxRecDepth 100000 in
theorem c_Tree_rank (l : Launch) (D : va_G) (cI : ClassId) (sd : Nat → Nat) (ad : Nat → Nat) (o_this : S_Tree) (a1 : Int32) (res : Int32) (hM : f_Tree_rank o_this a1 = some res) : Ctr l D cI sd yX3_rank (wsM yX3_rank cX3_rank 2 (Option.some Jvm.ClassFile.FieldType.int)) { frames := 1, cells := 0, slots := 0, locals := 21 } [.ref (ad 14), .int a1] (wT cI ad o_this) (wT cI ad o_this) (some (.int res)) := by
  refine Ctr.of (cc := cX3_rank) (maxL := 2) (own := RX3) (by decide +kernel) rfl rfl (Nat.le_of_ble_eq_true rfl) ?_
  intro p e s m below meth c A ls hx hb hr hml hown hts hlk hK hE hA hP hD hS hl
  have hl : lv_has ls 2 [(0, .ref (ad 14)), (1, .int a1)] := hl
  unfold f_Tree_rank at hM
  refine lv_aload_n hx hb dX3_rank_0 rfl (lv_at hl 0 rfl) ?_
  refine lv_iload_n hx hb dX3_rank_1 rfl (lv_at hl 1 rfl) ?_
  obtain ⟨r1, hcr1, hM⟩ := ob_use hM
  refine cl_V (As := [.int a1]) (rest := []) (wT cI ad o_this) (.int r1 :: []) ⟨hx, hb, hml, hown, hts⟩ (c_Tree_has l D cI sd ad o_this a1 r1 hcr1) (cwV2 hts q759 mvX3_has rfl rfl ⟨(Nat.le_of_ble_eq_true rfl), (Nat.le_of_ble_eq_true rfl)⟩) hK hE hA hP hD hS 0 (T := TX3) (N := 8) (ci := 3) rfl rfl [0, 1, 2, 3, 4, 5, 6, 7] rfl (by decide) rfl rfl rfl rfl rfl rfl hl.1 (Nat.le_of_ble_eq_true rfl) dX3_rank_2 ⟨Nat.zero_le _, Nat.zero_le _⟩ (fun H locs hP hD hS => ?_)
  refine lv_if_eq (tgt := 17) hx hb dX3_rank_5 (by decide) (fun c2 => ?_) (fun c2 => ?_)
  · replace hM := if_t c2 hM
    refine lv_iconst (v := (-1)) hx hb dX3_rank_17 (by decide) ?_
    cases hM
    exact rt_i hx hb hr hlk hP hD hS rfl dX3_rank_18
  · replace hM := if_f c2 hM
    refine lv_aload_n hx hb dX3_rank_8 rfl (lv_at hl 0 rfl) ?_
    refine va_get (D := D) (ci := 3) (v := .ref (ad 20)) (C := RX3) (T := TX3) (N := 8) hx hb hts layX3 hown hK hP 0 rfl rfl 5 (by decide) (hts _ (inA q368)) (fun _ h9 => h9) rfl dX3_rank_9 ?_
    refine lv_iload_n hx hb dX3_rank_12 rfl (lv_at hl 1 rfl) ?_
    obtain ⟨b3, hM⟩ := gd_use hM
    refine va_iald hx hb hK hP 6 0 rfl rfl b3 dX3_rank_13 ?_
    refine lv_goto (tgt := 18) hx hb dX3_rank_14 (by decide) ?_
    cases hM
    exact rt_i hx hb hr hlk hP hD hS rfl dX3_rank_18
end
section
theorem dX2_kind_0 : decode cX2_kind 0 = .ok (.iload_n 1, 1) := by decide +kernel
theorem dX2_kind_1 : decode cX2_kind 1 = .ok (.ifCond .lt 27, 3) := by decide +kernel
theorem dX2_kind_4 : decode cX2_kind 4 = .ok (.iload_n 1, 1) := by decide +kernel
theorem dX2_kind_5 : decode cX2_kind 5 = .ok (.aload_n 0, 1) := by decide +kernel
theorem dX2_kind_6 : decode cX2_kind 6 = .ok (.getfield 29, 3) := by decide +kernel
theorem dX2_kind_9 : decode cX2_kind 9 = .ok (.if_icmp .ge 19, 3) := by decide +kernel
theorem dX2_kind_12 : decode cX2_kind 12 = .ok (.iload_n 1, 1) := by decide +kernel
theorem dX2_kind_13 : decode cX2_kind 13 = .ok (.sipush 8193, 3) := by decide +kernel
theorem dX2_kind_16 : decode cX2_kind 16 = .ok (.if_icmp .ge 12, 3) := by decide +kernel
theorem dX2_kind_19 : decode cX2_kind 19 = .ok (.aload_n 0, 1) := by decide +kernel
theorem dX2_kind_20 : decode cX2_kind 20 = .ok (.getfield 11, 3) := by decide +kernel
theorem dX2_kind_23 : decode cX2_kind 23 = .ok (.iload_n 1, 1) := by decide +kernel
theorem dX2_kind_24 : decode cX2_kind 24 = .ok (.iaload, 1) := by decide +kernel
theorem dX2_kind_25 : decode cX2_kind 25 = .ok (.goto 5, 3) := by decide +kernel
theorem dX2_kind_28 : decode cX2_kind 28 = .ok (.bipush 6, 2) := by decide +kernel
theorem dX2_kind_30 : decode cX2_kind 30 = .ok (.ireturn, 1) := by decide +kernel

theorem dX2_place_0 : decode cX2_place 0 = .ok (.iload_n 1, 1) := by decide +kernel
theorem dX2_place_1 : decode cX2_place 1 = .ok (.ifCond .lt 27, 3) := by decide +kernel
theorem dX2_place_4 : decode cX2_place 4 = .ok (.iload_n 1, 1) := by decide +kernel
theorem dX2_place_5 : decode cX2_place 5 = .ok (.aload_n 0, 1) := by decide +kernel
theorem dX2_place_6 : decode cX2_place 6 = .ok (.getfield 29, 3) := by decide +kernel
theorem dX2_place_9 : decode cX2_place 9 = .ok (.if_icmp .ge 19, 3) := by decide +kernel
theorem dX2_place_12 : decode cX2_place 12 = .ok (.iload_n 1, 1) := by decide +kernel
theorem dX2_place_13 : decode cX2_place 13 = .ok (.sipush 8193, 3) := by decide +kernel
theorem dX2_place_16 : decode cX2_place 16 = .ok (.if_icmp .ge 12, 3) := by decide +kernel
theorem dX2_place_19 : decode cX2_place 19 = .ok (.aload_n 0, 1) := by decide +kernel
theorem dX2_place_20 : decode cX2_place 20 = .ok (.getfield 15, 3) := by decide +kernel
theorem dX2_place_23 : decode cX2_place 23 = .ok (.iload_n 1, 1) := by decide +kernel
theorem dX2_place_24 : decode cX2_place 24 = .ok (.iaload, 1) := by decide +kernel
theorem dX2_place_25 : decode cX2_place 25 = .ok (.goto 4, 3) := by decide +kernel
theorem dX2_place_28 : decode cX2_place 28 = .ok (.iconst (-1), 1) := by decide +kernel
theorem dX2_place_29 : decode cX2_place 29 = .ok (.ireturn, 1) := by decide +kernel

theorem dX2_value_0 : decode cX2_value 0 = .ok (.iload_n 1, 1) := by decide +kernel
theorem dX2_value_1 : decode cX2_value 1 = .ok (.ifCond .lt 27, 3) := by decide +kernel
theorem dX2_value_4 : decode cX2_value 4 = .ok (.iload_n 1, 1) := by decide +kernel
theorem dX2_value_5 : decode cX2_value 5 = .ok (.aload_n 0, 1) := by decide +kernel
theorem dX2_value_6 : decode cX2_value 6 = .ok (.getfield 29, 3) := by decide +kernel
theorem dX2_value_9 : decode cX2_value 9 = .ok (.if_icmp .ge 19, 3) := by decide +kernel
theorem dX2_value_12 : decode cX2_value 12 = .ok (.iload_n 1, 1) := by decide +kernel
theorem dX2_value_13 : decode cX2_value 13 = .ok (.sipush 8193, 3) := by decide +kernel
theorem dX2_value_16 : decode cX2_value 16 = .ok (.if_icmp .ge 12, 3) := by decide +kernel
theorem dX2_value_19 : decode cX2_value 19 = .ok (.aload_n 0, 1) := by decide +kernel
theorem dX2_value_20 : decode cX2_value 20 = .ok (.getfield 18, 3) := by decide +kernel
theorem dX2_value_23 : decode cX2_value 23 = .ok (.iload_n 1, 1) := by decide +kernel
theorem dX2_value_24 : decode cX2_value 24 = .ok (.iaload, 1) := by decide +kernel
theorem dX2_value_25 : decode cX2_value 25 = .ok (.goto 4, 3) := by decide +kernel
theorem dX2_value_28 : decode cX2_value 28 = .ok (.iconst 0, 1) := by decide +kernel
theorem dX2_value_29 : decode cX2_value 29 = .ok (.ireturn, 1) := by decide +kernel

theorem dX2_add_0 : decode cX2_add 0 = .ok (.aload_n 0, 1) := by decide +kernel
theorem dX2_add_1 : decode cX2_add 1 = .ok (.getfield 29, 3) := by decide +kernel
theorem dX2_add_4 : decode cX2_add 4 = .ok (.ifCond .lt 53, 3) := by decide +kernel
theorem dX2_add_7 : decode cX2_add 7 = .ok (.aload_n 0, 1) := by decide +kernel
theorem dX2_add_8 : decode cX2_add 8 = .ok (.getfield 29, 3) := by decide +kernel
theorem dX2_add_11 : decode cX2_add 11 = .ok (.sipush 8193, 3) := by decide +kernel
theorem dX2_add_14 : decode cX2_add 14 = .ok (.if_icmp .ge 43, 3) := by decide +kernel
theorem dX2_add_17 : decode cX2_add 17 = .ok (.aload_n 0, 1) := by decide +kernel
theorem dX2_add_18 : decode cX2_add 18 = .ok (.getfield 11, 3) := by decide +kernel
theorem dX2_add_21 : decode cX2_add 21 = .ok (.aload_n 0, 1) := by decide +kernel
theorem dX2_add_22 : decode cX2_add 22 = .ok (.getfield 29, 3) := by decide +kernel
theorem dX2_add_25 : decode cX2_add 25 = .ok (.iload_n 1, 1) := by decide +kernel
theorem dX2_add_26 : decode cX2_add 26 = .ok (.iastore, 1) := by decide +kernel
theorem dX2_add_27 : decode cX2_add 27 = .ok (.aload_n 0, 1) := by decide +kernel
theorem dX2_add_28 : decode cX2_add 28 = .ok (.getfield 15, 3) := by decide +kernel
theorem dX2_add_31 : decode cX2_add 31 = .ok (.aload_n 0, 1) := by decide +kernel
theorem dX2_add_32 : decode cX2_add 32 = .ok (.getfield 29, 3) := by decide +kernel
theorem dX2_add_35 : decode cX2_add 35 = .ok (.iload_n 2, 1) := by decide +kernel
theorem dX2_add_36 : decode cX2_add 36 = .ok (.iastore, 1) := by decide +kernel
theorem dX2_add_37 : decode cX2_add 37 = .ok (.aload_n 0, 1) := by decide +kernel
theorem dX2_add_38 : decode cX2_add 38 = .ok (.getfield 18, 3) := by decide +kernel
theorem dX2_add_41 : decode cX2_add 41 = .ok (.aload_n 0, 1) := by decide +kernel
theorem dX2_add_42 : decode cX2_add 42 = .ok (.getfield 29, 3) := by decide +kernel
theorem dX2_add_45 : decode cX2_add 45 = .ok (.iload_n 3, 1) := by decide +kernel
theorem dX2_add_46 : decode cX2_add 46 = .ok (.iastore, 1) := by decide +kernel
theorem dX2_add_47 : decode cX2_add 47 = .ok (.aload_n 0, 1) := by decide +kernel
theorem dX2_add_48 : decode cX2_add 48 = .ok (.dup, 1) := by decide +kernel
theorem dX2_add_49 : decode cX2_add 49 = .ok (.getfield 29, 3) := by decide +kernel
theorem dX2_add_52 : decode cX2_add 52 = .ok (.iconst 1, 1) := by decide +kernel
theorem dX2_add_53 : decode cX2_add 53 = .ok (.iadd, 1) := by decide +kernel
theorem dX2_add_54 : decode cX2_add 54 = .ok (.putfield 29, 3) := by decide +kernel
theorem dX2_add_57 : decode cX2_add 57 = .ok (.return_, 1) := by decide +kernel

theorem dX2_scanName_0 : decode cX2_scanName 0 = .ok (.aload_n 0, 1) := by decide +kernel
theorem dX2_scanName_1 : decode cX2_scanName 1 = .ok (.getfield 38, 3) := by decide +kernel
theorem dX2_scanName_4 : decode cX2_scanName 4 = .ok (.istore_n 1, 1) := by decide +kernel
theorem dX2_scanName_5 : decode cX2_scanName 5 = .ok (.iconst 0, 1) := by decide +kernel
theorem dX2_scanName_6 : decode cX2_scanName 6 = .ok (.istore_n 2, 1) := by decide +kernel
theorem dX2_scanName_7 : decode cX2_scanName 7 = .ok (.iload_n 2, 1) := by decide +kernel
theorem dX2_scanName_8 : decode cX2_scanName 8 = .ok (.sipush 8192, 3) := by decide +kernel
theorem dX2_scanName_11 : decode cX2_scanName 11 = .ok (.if_icmp .ge 36, 3) := by decide +kernel
theorem dX2_scanName_14 : decode cX2_scanName 14 = .ok (.aload_n 0, 1) := by decide +kernel
theorem dX2_scanName_15 : decode cX2_scanName 15 = .ok (.getfield 21, 3) := by decide +kernel
theorem dX2_scanName_18 : decode cX2_scanName 18 = .ok (.aload_n 0, 1) := by decide +kernel
theorem dX2_scanName_19 : decode cX2_scanName 19 = .ok (.getfield 38, 3) := by decide +kernel
theorem dX2_scanName_22 : decode cX2_scanName 22 = .ok (.invokevirtual 52, 3) := by decide +kernel
theorem dX2_scanName_25 : decode cX2_scanName 25 = .ok (.invokestatic 74, 3) := by decide +kernel
theorem dX2_scanName_28 : decode cX2_scanName 28 = .ok (.ifCond .eq 19, 3) := by decide +kernel
theorem dX2_scanName_31 : decode cX2_scanName 31 = .ok (.aload_n 0, 1) := by decide +kernel
theorem dX2_scanName_32 : decode cX2_scanName 32 = .ok (.dup, 1) := by decide +kernel
theorem dX2_scanName_33 : decode cX2_scanName 33 = .ok (.getfield 38, 3) := by decide +kernel
theorem dX2_scanName_36 : decode cX2_scanName 36 = .ok (.iconst 1, 1) := by decide +kernel
theorem dX2_scanName_37 : decode cX2_scanName 37 = .ok (.iadd, 1) := by decide +kernel
theorem dX2_scanName_38 : decode cX2_scanName 38 = .ok (.putfield 38, 3) := by decide +kernel
theorem dX2_scanName_41 : decode cX2_scanName 41 = .ok (.iinc 2 1, 3) := by decide +kernel
theorem dX2_scanName_44 : decode cX2_scanName 44 = .ok (.goto (-37), 3) := by decide +kernel
theorem dX2_scanName_47 : decode cX2_scanName 47 = .ok (.aload_n 0, 1) := by decide +kernel
theorem dX2_scanName_48 : decode cX2_scanName 48 = .ok (.getfield 38, 3) := by decide +kernel
theorem dX2_scanName_51 : decode cX2_scanName 51 = .ok (.iload_n 1, 1) := by decide +kernel
theorem dX2_scanName_52 : decode cX2_scanName 52 = .ok (.isub, 1) := by decide +kernel
theorem dX2_scanName_53 : decode cX2_scanName 53 = .ok (.bipush 32, 2) := by decide +kernel
theorem dX2_scanName_55 : decode cX2_scanName 55 = .ok (.if_icmp .le 11, 3) := by decide +kernel
theorem dX2_scanName_58 : decode cX2_scanName 58 = .ok (.aload_n 0, 1) := by decide +kernel
theorem dX2_scanName_59 : decode cX2_scanName 59 = .ok (.iconst 5, 1) := by decide +kernel
theorem dX2_scanName_60 : decode cX2_scanName 60 = .ok (.iload_n 1, 1) := by decide +kernel
theorem dX2_scanName_61 : decode cX2_scanName 61 = .ok (.iconst 3, 1) := by decide +kernel
theorem dX2_scanName_62 : decode cX2_scanName 62 = .ok (.invokevirtual 57, 3) := by decide +kernel
theorem dX2_scanName_65 : decode cX2_scanName 65 = .ok (.return_, 1) := by decide +kernel
theorem dX2_scanName_66 : decode cX2_scanName 66 = .ok (.iload_n 1, 1) := by decide +kernel
theorem dX2_scanName_67 : decode cX2_scanName 67 = .ok (.istore_n 2, 1) := by decide +kernel
theorem dX2_scanName_68 : decode cX2_scanName 68 = .ok (.iload_n 2, 1) := by decide +kernel
theorem dX2_scanName_69 : decode cX2_scanName 69 = .ok (.aload_n 0, 1) := by decide +kernel
theorem dX2_scanName_70 : decode cX2_scanName 70 = .ok (.getfield 38, 3) := by decide +kernel
theorem dX2_scanName_73 : decode cX2_scanName 73 = .ok (.if_icmp .ge 24, 3) := by decide +kernel
theorem dX2_scanName_76 : decode cX2_scanName 76 = .ok (.aload_n 0, 1) := by decide +kernel
theorem dX2_scanName_77 : decode cX2_scanName 77 = .ok (.getfield 25, 3) := by decide +kernel
theorem dX2_scanName_80 : decode cX2_scanName 80 = .ok (.aload_n 0, 1) := by decide +kernel
theorem dX2_scanName_81 : decode cX2_scanName 81 = .ok (.getfield 21, 3) := by decide +kernel
theorem dX2_scanName_84 : decode cX2_scanName 84 = .ok (.iload_n 2, 1) := by decide +kernel
theorem dX2_scanName_85 : decode cX2_scanName 85 = .ok (.invokevirtual 52, 3) := by decide +kernel
theorem dX2_scanName_88 : decode cX2_scanName 88 = .ok (.invokevirtual 90, 3) := by decide +kernel
theorem dX2_scanName_91 : decode cX2_scanName 91 = .ok (.iinc 2 1, 3) := by decide +kernel
theorem dX2_scanName_94 : decode cX2_scanName 94 = .ok (.goto (-26), 3) := by decide +kernel
theorem dX2_scanName_97 : decode cX2_scanName 97 = .ok (.aload_n 0, 1) := by decide +kernel
theorem dX2_scanName_98 : decode cX2_scanName 98 = .ok (.getfield 25, 3) := by decide +kernel
theorem dX2_scanName_101 : decode cX2_scanName 101 = .ok (.invokevirtual 94, 3) := by decide +kernel
theorem dX2_scanName_104 : decode cX2_scanName 104 = .ok (.istore_n 2, 1) := by decide +kernel
theorem dX2_scanName_105 : decode cX2_scanName 105 = .ok (.iload_n 2, 1) := by decide +kernel
theorem dX2_scanName_106 : decode cX2_scanName 106 = .ok (.bipush 41, 2) := by decide +kernel
theorem dX2_scanName_108 : decode cX2_scanName 108 = .ok (.if_icmp .ge 17, 3) := by decide +kernel
theorem dX2_scanName_111 : decode cX2_scanName 111 = .ok (.aload_n 0, 1) := by decide +kernel
theorem dX2_scanName_112 : decode cX2_scanName 112 = .ok (.sipush 256, 3) := by decide +kernel
theorem dX2_scanName_115 : decode cX2_scanName 115 = .ok (.iload_n 2, 1) := by decide +kernel
theorem dX2_scanName_116 : decode cX2_scanName 116 = .ok (.iadd, 1) := by decide +kernel
theorem dX2_scanName_117 : decode cX2_scanName 117 = .ok (.iload_n 1, 1) := by decide +kernel
theorem dX2_scanName_118 : decode cX2_scanName 118 = .ok (.iconst 0, 1) := by decide +kernel
theorem dX2_scanName_119 : decode cX2_scanName 119 = .ok (.invokevirtual 57, 3) := by decide +kernel
theorem dX2_scanName_122 : decode cX2_scanName 122 = .ok (.goto 13, 3) := by decide +kernel
theorem dX2_scanName_125 : decode cX2_scanName 125 = .ok (.aload_n 0, 1) := by decide +kernel
theorem dX2_scanName_126 : decode cX2_scanName 126 = .ok (.iconst 1, 1) := by decide +kernel
theorem dX2_scanName_127 : decode cX2_scanName 127 = .ok (.iload_n 1, 1) := by decide +kernel
theorem dX2_scanName_128 : decode cX2_scanName 128 = .ok (.iload_n 2, 1) := by decide +kernel
theorem dX2_scanName_129 : decode cX2_scanName 129 = .ok (.bipush 41, 2) := by decide +kernel
theorem dX2_scanName_131 : decode cX2_scanName 131 = .ok (.isub, 1) := by decide +kernel
theorem dX2_scanName_132 : decode cX2_scanName 132 = .ok (.invokevirtual 57, 3) := by decide +kernel
theorem dX2_scanName_135 : decode cX2_scanName 135 = .ok (.return_, 1) := by decide +kernel

theorem dX2_addNumber_0 : decode cX2_addNumber 0 = .ok (.lload_n 2, 1) := by decide +kernel
theorem dX2_addNumber_1 : decode cX2_addNumber 1 = .ok (.lconst 0, 1) := by decide +kernel
theorem dX2_addNumber_2 : decode cX2_addNumber 2 = .ok (.lcmp, 1) := by decide +kernel
theorem dX2_addNumber_3 : decode cX2_addNumber 3 = .ok (.ifCond .lt 28, 3) := by decide +kernel
theorem dX2_addNumber_6 : decode cX2_addNumber 6 = .ok (.lload_n 2, 1) := by decide +kernel
theorem dX2_addNumber_7 : decode cX2_addNumber 7 = .ok (.ldc2_w 118, 3) := by decide +kernel
theorem dX2_addNumber_10 : decode cX2_addNumber 10 = .ok (.lcmp, 1) := by decide +kernel
theorem dX2_addNumber_11 : decode cX2_addNumber 11 = .ok (.ifCond .gt 20, 3) := by decide +kernel
theorem dX2_addNumber_14 : decode cX2_addNumber 14 = .ok (.aload_n 0, 1) := by decide +kernel
theorem dX2_addNumber_15 : decode cX2_addNumber 15 = .ok (.getfield 21, 3) := by decide +kernel
theorem dX2_addNumber_18 : decode cX2_addNumber 18 = .ok (.aload_n 0, 1) := by decide +kernel
theorem dX2_addNumber_19 : decode cX2_addNumber 19 = .ok (.getfield 38, 3) := by decide +kernel
theorem dX2_addNumber_22 : decode cX2_addNumber 22 = .ok (.invokevirtual 52, 3) := by decide +kernel
theorem dX2_addNumber_25 : decode cX2_addNumber 25 = .ok (.invokestatic 74, 3) := by decide +kernel
theorem dX2_addNumber_28 : decode cX2_addNumber 28 = .ok (.ifCond .eq 13, 3) := by decide +kernel
theorem dX2_addNumber_31 : decode cX2_addNumber 31 = .ok (.aload_n 0, 1) := by decide +kernel
theorem dX2_addNumber_32 : decode cX2_addNumber 32 = .ok (.iconst 5, 1) := by decide +kernel
theorem dX2_addNumber_33 : decode cX2_addNumber 33 = .ok (.iload_n 1, 1) := by decide +kernel
theorem dX2_addNumber_34 : decode cX2_addNumber 34 = .ok (.iconst 4, 1) := by decide +kernel
theorem dX2_addNumber_35 : decode cX2_addNumber 35 = .ok (.invokevirtual 57, 3) := by decide +kernel
theorem dX2_addNumber_38 : decode cX2_addNumber 38 = .ok (.goto 11, 3) := by decide +kernel
theorem dX2_addNumber_41 : decode cX2_addNumber 41 = .ok (.aload_n 0, 1) := by decide +kernel
theorem dX2_addNumber_42 : decode cX2_addNumber 42 = .ok (.iconst 2, 1) := by decide +kernel
theorem dX2_addNumber_43 : decode cX2_addNumber 43 = .ok (.iload_n 1, 1) := by decide +kernel
theorem dX2_addNumber_44 : decode cX2_addNumber 44 = .ok (.lload_n 2, 1) := by decide +kernel
theorem dX2_addNumber_45 : decode cX2_addNumber 45 = .ok (.l2i, 1) := by decide +kernel
theorem dX2_addNumber_46 : decode cX2_addNumber 46 = .ok (.invokevirtual 57, 3) := by decide +kernel
theorem dX2_addNumber_49 : decode cX2_addNumber 49 = .ok (.return_, 1) := by decide +kernel

theorem dX2_digit_0 : decode cX2_digit 0 = .ok (.iload_n 0, 1) := by decide +kernel
theorem dX2_digit_1 : decode cX2_digit 1 = .ok (.invokestatic 61, 3) := by decide +kernel
theorem dX2_digit_4 : decode cX2_digit 4 = .ok (.istore_n 1, 1) := by decide +kernel
theorem dX2_digit_5 : decode cX2_digit 5 = .ok (.iload_n 1, 1) := by decide +kernel
theorem dX2_digit_6 : decode cX2_digit 6 = .ok (.bipush 65, 2) := by decide +kernel
theorem dX2_digit_8 : decode cX2_digit 8 = .ok (.if_icmp .lt 17, 3) := by decide +kernel
theorem dX2_digit_11 : decode cX2_digit 11 = .ok (.iload_n 1, 1) := by decide +kernel
theorem dX2_digit_12 : decode cX2_digit 12 = .ok (.bipush 70, 2) := by decide +kernel
theorem dX2_digit_14 : decode cX2_digit 14 = .ok (.if_icmp .gt 11, 3) := by decide +kernel
theorem dX2_digit_17 : decode cX2_digit 17 = .ok (.iload_n 1, 1) := by decide +kernel
theorem dX2_digit_18 : decode cX2_digit 18 = .ok (.bipush 65, 2) := by decide +kernel
theorem dX2_digit_20 : decode cX2_digit 20 = .ok (.isub, 1) := by decide +kernel
theorem dX2_digit_21 : decode cX2_digit 21 = .ok (.bipush 10, 2) := by decide +kernel
theorem dX2_digit_23 : decode cX2_digit 23 = .ok (.iadd, 1) := by decide +kernel
theorem dX2_digit_24 : decode cX2_digit 24 = .ok (.ireturn, 1) := by decide +kernel
theorem dX2_digit_25 : decode cX2_digit 25 = .ok (.iload_n 0, 1) := by decide +kernel
theorem dX2_digit_26 : decode cX2_digit 26 = .ok (.invokestatic 67, 3) := by decide +kernel
theorem dX2_digit_29 : decode cX2_digit 29 = .ok (.ifCond .eq 10, 3) := by decide +kernel
theorem dX2_digit_32 : decode cX2_digit 32 = .ok (.iload_n 0, 1) := by decide +kernel
theorem dX2_digit_33 : decode cX2_digit 33 = .ok (.bipush 48, 2) := by decide +kernel
theorem dX2_digit_35 : decode cX2_digit 35 = .ok (.isub, 1) := by decide +kernel
theorem dX2_digit_36 : decode cX2_digit 36 = .ok (.goto 4, 3) := by decide +kernel
theorem dX2_digit_39 : decode cX2_digit 39 = .ok (.iconst (-1), 1) := by decide +kernel
theorem dX2_digit_40 : decode cX2_digit 40 = .ok (.ireturn, 1) := by decide +kernel

theorem dX2_digits_0 : decode cX2_digits 0 = .ok (.lconst 0, 1) := by decide +kernel
theorem dX2_digits_1 : decode cX2_digits 1 = .ok (.lstore_n 2, 1) := by decide +kernel
theorem dX2_digits_2 : decode cX2_digits 2 = .ok (.aload_n 0, 1) := by decide +kernel
theorem dX2_digits_3 : decode cX2_digits 3 = .ok (.getfield 38, 3) := by decide +kernel
theorem dX2_digits_6 : decode cX2_digits 6 = .ok (.istore 4, 2) := by decide +kernel
theorem dX2_digits_8 : decode cX2_digits 8 = .ok (.iconst 0, 1) := by decide +kernel
theorem dX2_digits_9 : decode cX2_digits 9 = .ok (.istore 5, 2) := by decide +kernel
theorem dX2_digits_11 : decode cX2_digits 11 = .ok (.iload 5, 2) := by decide +kernel
theorem dX2_digits_13 : decode cX2_digits 13 = .ok (.sipush 8192, 3) := by decide +kernel
theorem dX2_digits_16 : decode cX2_digits 16 = .ok (.if_icmp .ge 65, 3) := by decide +kernel
theorem dX2_digits_19 : decode cX2_digits 19 = .ok (.aload_n 0, 1) := by decide +kernel
theorem dX2_digits_20 : decode cX2_digits 20 = .ok (.getfield 21, 3) := by decide +kernel
theorem dX2_digits_23 : decode cX2_digits 23 = .ok (.aload_n 0, 1) := by decide +kernel
theorem dX2_digits_24 : decode cX2_digits 24 = .ok (.getfield 38, 3) := by decide +kernel
theorem dX2_digits_27 : decode cX2_digits 27 = .ok (.invokevirtual 52, 3) := by decide +kernel
theorem dX2_digits_30 : decode cX2_digits 30 = .ok (.invokestatic 120, 3) := by decide +kernel
theorem dX2_digits_33 : decode cX2_digits 33 = .ok (.istore 6, 2) := by decide +kernel
theorem dX2_digits_35 : decode cX2_digits 35 = .ok (.iload 6, 2) := by decide +kernel
theorem dX2_digits_37 : decode cX2_digits 37 = .ok (.iconst (-1), 1) := by decide +kernel
theorem dX2_digits_38 : decode cX2_digits 38 = .ok (.if_icmp .eq 43, 3) := by decide +kernel
theorem dX2_digits_41 : decode cX2_digits 41 = .ok (.iload 6, 2) := by decide +kernel
theorem dX2_digits_43 : decode cX2_digits 43 = .ok (.iload_n 1, 1) := by decide +kernel
theorem dX2_digits_44 : decode cX2_digits 44 = .ok (.if_icmp .lt 6, 3) := by decide +kernel
theorem dX2_digits_47 : decode cX2_digits 47 = .ok (.goto 34, 3) := by decide +kernel
theorem dX2_digits_50 : decode cX2_digits 50 = .ok (.ldc2_w 123, 3) := by decide +kernel
theorem dX2_digits_53 : decode cX2_digits 53 = .ok (.lload_n 2, 1) := by decide +kernel
theorem dX2_digits_54 : decode cX2_digits 54 = .ok (.iload_n 1, 1) := by decide +kernel
theorem dX2_digits_55 : decode cX2_digits 55 = .ok (.i2l, 1) := by decide +kernel
theorem dX2_digits_56 : decode cX2_digits 56 = .ok (.lmul, 1) := by decide +kernel
theorem dX2_digits_57 : decode cX2_digits 57 = .ok (.iload 6, 2) := by decide +kernel
theorem dX2_digits_59 : decode cX2_digits 59 = .ok (.i2l, 1) := by decide +kernel
theorem dX2_digits_60 : decode cX2_digits 60 = .ok (.ladd, 1) := by decide +kernel
theorem dX2_digits_61 : decode cX2_digits 61 = .ok (.invokestatic 125, 3) := by decide +kernel
theorem dX2_digits_64 : decode cX2_digits 64 = .ok (.lstore_n 2, 1) := by decide +kernel
theorem dX2_digits_65 : decode cX2_digits 65 = .ok (.aload_n 0, 1) := by decide +kernel
theorem dX2_digits_66 : decode cX2_digits 66 = .ok (.dup, 1) := by decide +kernel
theorem dX2_digits_67 : decode cX2_digits 67 = .ok (.getfield 38, 3) := by decide +kernel
theorem dX2_digits_70 : decode cX2_digits 70 = .ok (.iconst 1, 1) := by decide +kernel
theorem dX2_digits_71 : decode cX2_digits 71 = .ok (.iadd, 1) := by decide +kernel
theorem dX2_digits_72 : decode cX2_digits 72 = .ok (.putfield 38, 3) := by decide +kernel
theorem dX2_digits_75 : decode cX2_digits 75 = .ok (.iinc 5 1, 3) := by decide +kernel
theorem dX2_digits_78 : decode cX2_digits 78 = .ok (.goto (-67), 3) := by decide +kernel
theorem dX2_digits_81 : decode cX2_digits 81 = .ok (.aload_n 0, 1) := by decide +kernel
theorem dX2_digits_82 : decode cX2_digits 82 = .ok (.getfield 38, 3) := by decide +kernel
theorem dX2_digits_85 : decode cX2_digits 85 = .ok (.iload 4, 2) := by decide +kernel
theorem dX2_digits_87 : decode cX2_digits 87 = .ok (.if_icmp .ne 9, 3) := by decide +kernel
theorem dX2_digits_90 : decode cX2_digits 90 = .ok (.ldc2_w 108, 3) := by decide +kernel
theorem dX2_digits_93 : decode cX2_digits 93 = .ok (.goto 4, 3) := by decide +kernel
theorem dX2_digits_96 : decode cX2_digits 96 = .ok (.lload_n 2, 1) := by decide +kernel
theorem dX2_digits_97 : decode cX2_digits 97 = .ok (.lreturn, 1) := by decide +kernel

theorem dX2_scanNumber_0 : decode cX2_scanNumber 0 = .ok (.aload_n 0, 1) := by decide +kernel
theorem dX2_scanNumber_1 : decode cX2_scanNumber 1 = .ok (.getfield 38, 3) := by decide +kernel
theorem dX2_scanNumber_4 : decode cX2_scanNumber 4 = .ok (.istore_n 1, 1) := by decide +kernel
theorem dX2_scanNumber_5 : decode cX2_scanNumber 5 = .ok (.aload_n 0, 1) := by decide +kernel
theorem dX2_scanNumber_6 : decode cX2_scanNumber 6 = .ok (.bipush 10, 2) := by decide +kernel
theorem dX2_scanNumber_8 : decode cX2_scanNumber 8 = .ok (.invokevirtual 100, 3) := by decide +kernel
theorem dX2_scanNumber_11 : decode cX2_scanNumber 11 = .ok (.lstore_n 2, 1) := by decide +kernel
theorem dX2_scanNumber_12 : decode cX2_scanNumber 12 = .ok (.aload_n 0, 1) := by decide +kernel
theorem dX2_scanNumber_13 : decode cX2_scanNumber 13 = .ok (.getfield 21, 3) := by decide +kernel
theorem dX2_scanNumber_16 : decode cX2_scanNumber 16 = .ok (.aload_n 0, 1) := by decide +kernel
theorem dX2_scanNumber_17 : decode cX2_scanNumber 17 = .ok (.getfield 38, 3) := by decide +kernel
theorem dX2_scanNumber_20 : decode cX2_scanNumber 20 = .ok (.invokevirtual 52, 3) := by decide +kernel
theorem dX2_scanNumber_23 : decode cX2_scanNumber 23 = .ok (.bipush 35, 2) := by decide +kernel
theorem dX2_scanNumber_25 : decode cX2_scanNumber 25 = .ok (.if_icmp .ne 42, 3) := by decide +kernel
theorem dX2_scanNumber_28 : decode cX2_scanNumber 28 = .ok (.aload_n 0, 1) := by decide +kernel
theorem dX2_scanNumber_29 : decode cX2_scanNumber 29 = .ok (.dup, 1) := by decide +kernel
theorem dX2_scanNumber_30 : decode cX2_scanNumber 30 = .ok (.getfield 38, 3) := by decide +kernel
theorem dX2_scanNumber_33 : decode cX2_scanNumber 33 = .ok (.iconst 1, 1) := by decide +kernel
theorem dX2_scanNumber_34 : decode cX2_scanNumber 34 = .ok (.iadd, 1) := by decide +kernel
theorem dX2_scanNumber_35 : decode cX2_scanNumber 35 = .ok (.putfield 38, 3) := by decide +kernel
theorem dX2_scanNumber_38 : decode cX2_scanNumber 38 = .ok (.lload_n 2, 1) := by decide +kernel
theorem dX2_scanNumber_39 : decode cX2_scanNumber 39 = .ok (.ldc2_w 104, 3) := by decide +kernel
theorem dX2_scanNumber_42 : decode cX2_scanNumber 42 = .ok (.lcmp, 1) := by decide +kernel
theorem dX2_scanNumber_43 : decode cX2_scanNumber 43 = .ok (.ifCond .eq 11, 3) := by decide +kernel
theorem dX2_scanNumber_46 : decode cX2_scanNumber 46 = .ok (.lload_n 2, 1) := by decide +kernel
theorem dX2_scanNumber_47 : decode cX2_scanNumber 47 = .ok (.ldc2_w 106, 3) := by decide +kernel
theorem dX2_scanNumber_50 : decode cX2_scanNumber 50 = .ok (.lcmp, 1) := by decide +kernel
theorem dX2_scanNumber_51 : decode cX2_scanNumber 51 = .ok (.ifCond .ne 12, 3) := by decide +kernel
theorem dX2_scanNumber_54 : decode cX2_scanNumber 54 = .ok (.aload_n 0, 1) := by decide +kernel
theorem dX2_scanNumber_55 : decode cX2_scanNumber 55 = .ok (.lload_n 2, 1) := by decide +kernel
theorem dX2_scanNumber_56 : decode cX2_scanNumber 56 = .ok (.l2i, 1) := by decide +kernel
theorem dX2_scanNumber_57 : decode cX2_scanNumber 57 = .ok (.invokevirtual 100, 3) := by decide +kernel
theorem dX2_scanNumber_60 : decode cX2_scanNumber 60 = .ok (.goto 6, 3) := by decide +kernel
theorem dX2_scanNumber_63 : decode cX2_scanNumber 63 = .ok (.ldc2_w 108, 3) := by decide +kernel
theorem dX2_scanNumber_66 : decode cX2_scanNumber 66 = .ok (.lstore_n 2, 1) := by decide +kernel
theorem dX2_scanNumber_67 : decode cX2_scanNumber 67 = .ok (.aload_n 0, 1) := by decide +kernel
theorem dX2_scanNumber_68 : decode cX2_scanNumber 68 = .ok (.iload_n 1, 1) := by decide +kernel
theorem dX2_scanNumber_69 : decode cX2_scanNumber 69 = .ok (.lload_n 2, 1) := by decide +kernel
theorem dX2_scanNumber_70 : decode cX2_scanNumber 70 = .ok (.invokevirtual 110, 3) := by decide +kernel
theorem dX2_scanNumber_73 : decode cX2_scanNumber 73 = .ok (.return_, 1) := by decide +kernel

theorem dX2_placeRow_0 : decode cX2_placeRow 0 = .ok (.iload_n 0, 1) := by decide +kernel
theorem dX2_placeRow_1 : decode cX2_placeRow 1 = .ok (.bipush 73, 2) := by decide +kernel
theorem dX2_placeRow_3 : decode cX2_placeRow 3 = .ok (.if_icmp .ne 7, 3) := by decide +kernel
theorem dX2_placeRow_6 : decode cX2_placeRow 6 = .ok (.iconst 0, 1) := by decide +kernel
theorem dX2_placeRow_7 : decode cX2_placeRow 7 = .ok (.goto 24, 3) := by decide +kernel
theorem dX2_placeRow_10 : decode cX2_placeRow 10 = .ok (.iload_n 0, 1) := by decide +kernel
theorem dX2_placeRow_11 : decode cX2_placeRow 11 = .ok (.bipush 81, 2) := by decide +kernel
theorem dX2_placeRow_13 : decode cX2_placeRow 13 = .ok (.if_icmp .ne 7, 3) := by decide +kernel
theorem dX2_placeRow_16 : decode cX2_placeRow 16 = .ok (.iconst 1, 1) := by decide +kernel
theorem dX2_placeRow_17 : decode cX2_placeRow 17 = .ok (.goto 14, 3) := by decide +kernel
theorem dX2_placeRow_20 : decode cX2_placeRow 20 = .ok (.iload_n 0, 1) := by decide +kernel
theorem dX2_placeRow_21 : decode cX2_placeRow 21 = .ok (.bipush 77, 2) := by decide +kernel
theorem dX2_placeRow_23 : decode cX2_placeRow 23 = .ok (.if_icmp .ne 7, 3) := by decide +kernel
theorem dX2_placeRow_26 : decode cX2_placeRow 26 = .ok (.iconst 2, 1) := by decide +kernel
theorem dX2_placeRow_27 : decode cX2_placeRow 27 = .ok (.goto 4, 3) := by decide +kernel
theorem dX2_placeRow_30 : decode cX2_placeRow 30 = .ok (.iconst (-1), 1) := by decide +kernel
theorem dX2_placeRow_31 : decode cX2_placeRow 31 = .ok (.istore_n 2, 1) := by decide +kernel
theorem dX2_placeRow_32 : decode cX2_placeRow 32 = .ok (.iload_n 2, 1) := by decide +kernel
theorem dX2_placeRow_33 : decode cX2_placeRow 33 = .ok (.iconst (-1), 1) := by decide +kernel
theorem dX2_placeRow_34 : decode cX2_placeRow 34 = .ok (.if_icmp .eq 15, 3) := by decide +kernel
theorem dX2_placeRow_37 : decode cX2_placeRow 37 = .ok (.iload_n 1, 1) := by decide +kernel
theorem dX2_placeRow_38 : decode cX2_placeRow 38 = .ok (.bipush 88, 2) := by decide +kernel
theorem dX2_placeRow_40 : decode cX2_placeRow 40 = .ok (.if_icmp .eq 11, 3) := by decide +kernel
theorem dX2_placeRow_43 : decode cX2_placeRow 43 = .ok (.iload_n 1, 1) := by decide +kernel
theorem dX2_placeRow_44 : decode cX2_placeRow 44 = .ok (.bipush 87, 2) := by decide +kernel
theorem dX2_placeRow_46 : decode cX2_placeRow 46 = .ok (.if_icmp .eq 5, 3) := by decide +kernel
theorem dX2_placeRow_49 : decode cX2_placeRow 49 = .ok (.iconst (-1), 1) := by decide +kernel
theorem dX2_placeRow_50 : decode cX2_placeRow 50 = .ok (.ireturn, 1) := by decide +kernel
theorem dX2_placeRow_51 : decode cX2_placeRow 51 = .ok (.iload_n 1, 1) := by decide +kernel
theorem dX2_placeRow_52 : decode cX2_placeRow 52 = .ok (.bipush 88, 2) := by decide +kernel
theorem dX2_placeRow_54 : decode cX2_placeRow 54 = .ok (.if_icmp .ne 7, 3) := by decide +kernel
theorem dX2_placeRow_57 : decode cX2_placeRow 57 = .ok (.iload_n 2, 1) := by decide +kernel
theorem dX2_placeRow_58 : decode cX2_placeRow 58 = .ok (.goto 6, 3) := by decide +kernel
theorem dX2_placeRow_61 : decode cX2_placeRow 61 = .ok (.iconst 3, 1) := by decide +kernel
theorem dX2_placeRow_62 : decode cX2_placeRow 62 = .ok (.iload_n 2, 1) := by decide +kernel
theorem dX2_placeRow_63 : decode cX2_placeRow 63 = .ok (.iadd, 1) := by decide +kernel
theorem dX2_placeRow_64 : decode cX2_placeRow 64 = .ok (.ireturn, 1) := by decide +kernel

theorem dX2_scanPlace_0 : decode cX2_scanPlace 0 = .ok (.aload_n 0, 1) := by decide +kernel
theorem dX2_scanPlace_1 : decode cX2_scanPlace 1 = .ok (.getfield 38, 3) := by decide +kernel
theorem dX2_scanPlace_4 : decode cX2_scanPlace 4 = .ok (.istore_n 1, 1) := by decide +kernel
theorem dX2_scanPlace_5 : decode cX2_scanPlace 5 = .ok (.aload_n 0, 1) := by decide +kernel
theorem dX2_scanPlace_6 : decode cX2_scanPlace 6 = .ok (.getfield 21, 3) := by decide +kernel
theorem dX2_scanPlace_9 : decode cX2_scanPlace 9 = .ok (.aload_n 0, 1) := by decide +kernel
theorem dX2_scanPlace_10 : decode cX2_scanPlace 10 = .ok (.getfield 38, 3) := by decide +kernel
theorem dX2_scanPlace_13 : decode cX2_scanPlace 13 = .ok (.iconst 1, 1) := by decide +kernel
theorem dX2_scanPlace_14 : decode cX2_scanPlace 14 = .ok (.iadd, 1) := by decide +kernel
theorem dX2_scanPlace_15 : decode cX2_scanPlace 15 = .ok (.invokevirtual 52, 3) := by decide +kernel
theorem dX2_scanPlace_18 : decode cX2_scanPlace 18 = .ok (.invokestatic 61, 3) := by decide +kernel
theorem dX2_scanPlace_21 : decode cX2_scanPlace 21 = .ok (.aload_n 0, 1) := by decide +kernel
theorem dX2_scanPlace_22 : decode cX2_scanPlace 22 = .ok (.getfield 21, 3) := by decide +kernel
theorem dX2_scanPlace_25 : decode cX2_scanPlace 25 = .ok (.aload_n 0, 1) := by decide +kernel
theorem dX2_scanPlace_26 : decode cX2_scanPlace 26 = .ok (.getfield 38, 3) := by decide +kernel
theorem dX2_scanPlace_29 : decode cX2_scanPlace 29 = .ok (.iconst 2, 1) := by decide +kernel
theorem dX2_scanPlace_30 : decode cX2_scanPlace 30 = .ok (.iadd, 1) := by decide +kernel
theorem dX2_scanPlace_31 : decode cX2_scanPlace 31 = .ok (.invokevirtual 52, 3) := by decide +kernel
theorem dX2_scanPlace_34 : decode cX2_scanPlace 34 = .ok (.invokestatic 61, 3) := by decide +kernel
theorem dX2_scanPlace_37 : decode cX2_scanPlace 37 = .ok (.invokestatic 137, 3) := by decide +kernel
theorem dX2_scanPlace_40 : decode cX2_scanPlace 40 = .ok (.istore_n 2, 1) := by decide +kernel
theorem dX2_scanPlace_41 : decode cX2_scanPlace 41 = .ok (.aload_n 0, 1) := by decide +kernel
theorem dX2_scanPlace_42 : decode cX2_scanPlace 42 = .ok (.dup, 1) := by decide +kernel
theorem dX2_scanPlace_43 : decode cX2_scanPlace 43 = .ok (.getfield 38, 3) := by decide +kernel
theorem dX2_scanPlace_46 : decode cX2_scanPlace 46 = .ok (.iconst 3, 1) := by decide +kernel
theorem dX2_scanPlace_47 : decode cX2_scanPlace 47 = .ok (.iadd, 1) := by decide +kernel
theorem dX2_scanPlace_48 : decode cX2_scanPlace 48 = .ok (.putfield 38, 3) := by decide +kernel
theorem dX2_scanPlace_51 : decode cX2_scanPlace 51 = .ok (.aload_n 0, 1) := by decide +kernel
theorem dX2_scanPlace_52 : decode cX2_scanPlace 52 = .ok (.bipush 10, 2) := by decide +kernel
theorem dX2_scanPlace_54 : decode cX2_scanPlace 54 = .ok (.invokevirtual 100, 3) := by decide +kernel
theorem dX2_scanPlace_57 : decode cX2_scanPlace 57 = .ok (.lstore_n 3, 1) := by decide +kernel
theorem dX2_scanPlace_58 : decode cX2_scanPlace 58 = .ok (.iload_n 2, 1) := by decide +kernel
theorem dX2_scanPlace_59 : decode cX2_scanPlace 59 = .ok (.iconst 3, 1) := by decide +kernel
theorem dX2_scanPlace_60 : decode cX2_scanPlace 60 = .ok (.if_icmp .ge 9, 3) := by decide +kernel
theorem dX2_scanPlace_63 : decode cX2_scanPlace 63 = .ok (.sipush 255, 3) := by decide +kernel
theorem dX2_scanPlace_66 : decode cX2_scanPlace 66 = .ok (.goto 5, 3) := by decide +kernel
theorem dX2_scanPlace_69 : decode cX2_scanPlace 69 = .ok (.bipush 63, 2) := by decide +kernel
theorem dX2_scanPlace_71 : decode cX2_scanPlace 71 = .ok (.istore 5, 2) := by decide +kernel
theorem dX2_scanPlace_73 : decode cX2_scanPlace 73 = .ok (.iload_n 2, 1) := by decide +kernel
theorem dX2_scanPlace_74 : decode cX2_scanPlace 74 = .ok (.iconst (-1), 1) := by decide +kernel
theorem dX2_scanPlace_75 : decode cX2_scanPlace 75 = .ok (.if_icmp .eq 36, 3) := by decide +kernel
theorem dX2_scanPlace_78 : decode cX2_scanPlace 78 = .ok (.lload_n 3, 1) := by decide +kernel
theorem dX2_scanPlace_79 : decode cX2_scanPlace 79 = .ok (.ldc2_w 108, 3) := by decide +kernel
theorem dX2_scanPlace_82 : decode cX2_scanPlace 82 = .ok (.lcmp, 1) := by decide +kernel
theorem dX2_scanPlace_83 : decode cX2_scanPlace 83 = .ok (.ifCond .eq 28, 3) := by decide +kernel
theorem dX2_scanPlace_86 : decode cX2_scanPlace 86 = .ok (.lload_n 3, 1) := by decide +kernel
theorem dX2_scanPlace_87 : decode cX2_scanPlace 87 = .ok (.iload 5, 2) := by decide +kernel
theorem dX2_scanPlace_89 : decode cX2_scanPlace 89 = .ok (.i2l, 1) := by decide +kernel
theorem dX2_scanPlace_90 : decode cX2_scanPlace 90 = .ok (.lcmp, 1) := by decide +kernel
theorem dX2_scanPlace_91 : decode cX2_scanPlace 91 = .ok (.ifCond .gt 20, 3) := by decide +kernel
theorem dX2_scanPlace_94 : decode cX2_scanPlace 94 = .ok (.aload_n 0, 1) := by decide +kernel
theorem dX2_scanPlace_95 : decode cX2_scanPlace 95 = .ok (.getfield 21, 3) := by decide +kernel
theorem dX2_scanPlace_98 : decode cX2_scanPlace 98 = .ok (.aload_n 0, 1) := by decide +kernel
theorem dX2_scanPlace_99 : decode cX2_scanPlace 99 = .ok (.getfield 38, 3) := by decide +kernel
theorem dX2_scanPlace_102 : decode cX2_scanPlace 102 = .ok (.invokevirtual 52, 3) := by decide +kernel
theorem dX2_scanPlace_105 : decode cX2_scanPlace 105 = .ok (.invokestatic 74, 3) := by decide +kernel
theorem dX2_scanPlace_108 : decode cX2_scanPlace 108 = .ok (.ifCond .eq 13, 3) := by decide +kernel
theorem dX2_scanPlace_111 : decode cX2_scanPlace 111 = .ok (.aload_n 0, 1) := by decide +kernel
theorem dX2_scanPlace_112 : decode cX2_scanPlace 112 = .ok (.iconst 5, 1) := by decide +kernel
theorem dX2_scanPlace_113 : decode cX2_scanPlace 113 = .ok (.iload_n 1, 1) := by decide +kernel
theorem dX2_scanPlace_114 : decode cX2_scanPlace 114 = .ok (.iconst 5, 1) := by decide +kernel
theorem dX2_scanPlace_115 : decode cX2_scanPlace 115 = .ok (.invokevirtual 57, 3) := by decide +kernel
theorem dX2_scanPlace_118 : decode cX2_scanPlace 118 = .ok (.goto 17, 3) := by decide +kernel
theorem dX2_scanPlace_121 : decode cX2_scanPlace 121 = .ok (.aload_n 0, 1) := by decide +kernel
theorem dX2_scanPlace_122 : decode cX2_scanPlace 122 = .ok (.iconst 3, 1) := by decide +kernel
theorem dX2_scanPlace_123 : decode cX2_scanPlace 123 = .ok (.iload_n 1, 1) := by decide +kernel
theorem dX2_scanPlace_124 : decode cX2_scanPlace 124 = .ok (.sipush 256, 3) := by decide +kernel
theorem dX2_scanPlace_127 : decode cX2_scanPlace 127 = .ok (.iload_n 2, 1) := by decide +kernel
theorem dX2_scanPlace_128 : decode cX2_scanPlace 128 = .ok (.imul, 1) := by decide +kernel
theorem dX2_scanPlace_129 : decode cX2_scanPlace 129 = .ok (.lload_n 3, 1) := by decide +kernel
theorem dX2_scanPlace_130 : decode cX2_scanPlace 130 = .ok (.l2i, 1) := by decide +kernel
theorem dX2_scanPlace_131 : decode cX2_scanPlace 131 = .ok (.iadd, 1) := by decide +kernel
theorem dX2_scanPlace_132 : decode cX2_scanPlace 132 = .ok (.invokevirtual 57, 3) := by decide +kernel
theorem dX2_scanPlace_135 : decode cX2_scanPlace 135 = .ok (.return_, 1) := by decide +kernel

theorem dX2_isSignOfOne_0 : decode cX2_isSignOfOne 0 = .ok (.iload_n 0, 1) := by decide +kernel
theorem dX2_isSignOfOne_1 : decode cX2_isSignOfOne 1 = .ok (.lookupswitch 149 #[(38, 147), (40, 147), (41, 147), (42, 147), (43, 147), (44, 147), (45, 147), (46, 147), (47, 147), (58, 147), (59, 147), (60, 147), (61, 147), (62, 147), (91, 147), (93, 147), (124, 147)], 147) := by decide +kernel
theorem dX2_isSignOfOne_148 : decode cX2_isSignOfOne 148 = .ok (.iconst 1, 1) := by decide +kernel
theorem dX2_isSignOfOne_149 : decode cX2_isSignOfOne 149 = .ok (.ireturn, 1) := by decide +kernel
theorem dX2_isSignOfOne_150 : decode cX2_isSignOfOne 150 = .ok (.iconst 0, 1) := by decide +kernel
theorem dX2_isSignOfOne_151 : decode cX2_isSignOfOne 151 = .ok (.ireturn, 1) := by decide +kernel

theorem dX2_isSignOfTwo_0 : decode cX2_isSignOfTwo 0 = .ok (.iload_n 0, 1) := by decide +kernel
theorem dX2_isSignOfTwo_1 : decode cX2_isSignOfTwo 1 = .ok (.sipush 14909, 3) := by decide +kernel
theorem dX2_isSignOfTwo_4 : decode cX2_isSignOfTwo 4 = .ok (.if_icmp .eq 31, 3) := by decide +kernel
theorem dX2_isSignOfTwo_7 : decode cX2_isSignOfTwo 7 = .ok (.iload_n 0, 1) := by decide +kernel
theorem dX2_isSignOfTwo_8 : decode cX2_isSignOfTwo 8 = .ok (.sipush 11822, 3) := by decide +kernel
theorem dX2_isSignOfTwo_11 : decode cX2_isSignOfTwo 11 = .ok (.if_icmp .eq 24, 3) := by decide +kernel
theorem dX2_isSignOfTwo_14 : decode cX2_isSignOfTwo 14 = .ok (.iload_n 0, 1) := by decide +kernel
theorem dX2_isSignOfTwo_15 : decode cX2_isSignOfTwo 15 = .ok (.sipush 15421, 3) := by decide +kernel
theorem dX2_isSignOfTwo_18 : decode cX2_isSignOfTwo 18 = .ok (.if_icmp .eq 17, 3) := by decide +kernel
theorem dX2_isSignOfTwo_21 : decode cX2_isSignOfTwo 21 = .ok (.iload_n 0, 1) := by decide +kernel
theorem dX2_isSignOfTwo_22 : decode cX2_isSignOfTwo 22 = .ok (.sipush 15933, 3) := by decide +kernel
theorem dX2_isSignOfTwo_25 : decode cX2_isSignOfTwo 25 = .ok (.if_icmp .eq 10, 3) := by decide +kernel
theorem dX2_isSignOfTwo_28 : decode cX2_isSignOfTwo 28 = .ok (.iload_n 0, 1) := by decide +kernel
theorem dX2_isSignOfTwo_29 : decode cX2_isSignOfTwo 29 = .ok (.sipush 15422, 3) := by decide +kernel
theorem dX2_isSignOfTwo_32 : decode cX2_isSignOfTwo 32 = .ok (.if_icmp .ne 7, 3) := by decide +kernel
theorem dX2_isSignOfTwo_35 : decode cX2_isSignOfTwo 35 = .ok (.iconst 1, 1) := by decide +kernel
theorem dX2_isSignOfTwo_36 : decode cX2_isSignOfTwo 36 = .ok (.goto 4, 3) := by decide +kernel
theorem dX2_isSignOfTwo_39 : decode cX2_isSignOfTwo 39 = .ok (.iconst 0, 1) := by decide +kernel
theorem dX2_isSignOfTwo_40 : decode cX2_isSignOfTwo 40 = .ok (.ireturn, 1) := by decide +kernel

theorem dX2_scanSign_0 : decode cX2_scanSign 0 = .ok (.aload_n 0, 1) := by decide +kernel
theorem dX2_scanSign_1 : decode cX2_scanSign 1 = .ok (.getfield 38, 3) := by decide +kernel
theorem dX2_scanSign_4 : decode cX2_scanSign 4 = .ok (.istore_n 1, 1) := by decide +kernel
theorem dX2_scanSign_5 : decode cX2_scanSign 5 = .ok (.aload_n 0, 1) := by decide +kernel
theorem dX2_scanSign_6 : decode cX2_scanSign 6 = .ok (.getfield 21, 3) := by decide +kernel
theorem dX2_scanSign_9 : decode cX2_scanSign 9 = .ok (.aload_n 0, 1) := by decide +kernel
theorem dX2_scanSign_10 : decode cX2_scanSign 10 = .ok (.getfield 38, 3) := by decide +kernel
theorem dX2_scanSign_13 : decode cX2_scanSign 13 = .ok (.invokevirtual 52, 3) := by decide +kernel
theorem dX2_scanSign_16 : decode cX2_scanSign 16 = .ok (.istore_n 2, 1) := by decide +kernel
theorem dX2_scanSign_17 : decode cX2_scanSign 17 = .ok (.iload_n 2, 1) := by decide +kernel
theorem dX2_scanSign_18 : decode cX2_scanSign 18 = .ok (.bipush 8, 2) := by decide +kernel
theorem dX2_scanSign_20 : decode cX2_scanSign 20 = .ok (.ishl, 1) := by decide +kernel
theorem dX2_scanSign_21 : decode cX2_scanSign 21 = .ok (.iconst 0, 1) := by decide +kernel
theorem dX2_scanSign_22 : decode cX2_scanSign 22 = .ok (.aload_n 0, 1) := by decide +kernel
theorem dX2_scanSign_23 : decode cX2_scanSign 23 = .ok (.getfield 21, 3) := by decide +kernel
theorem dX2_scanSign_26 : decode cX2_scanSign 26 = .ok (.aload_n 0, 1) := by decide +kernel
theorem dX2_scanSign_27 : decode cX2_scanSign 27 = .ok (.getfield 38, 3) := by decide +kernel
theorem dX2_scanSign_30 : decode cX2_scanSign 30 = .ok (.iconst 1, 1) := by decide +kernel
theorem dX2_scanSign_31 : decode cX2_scanSign 31 = .ok (.iadd, 1) := by decide +kernel
theorem dX2_scanSign_32 : decode cX2_scanSign 32 = .ok (.invokevirtual 52, 3) := by decide +kernel
theorem dX2_scanSign_35 : decode cX2_scanSign 35 = .ok (.invokestatic 141, 3) := by decide +kernel
theorem dX2_scanSign_38 : decode cX2_scanSign 38 = .ok (.ior, 1) := by decide +kernel
theorem dX2_scanSign_39 : decode cX2_scanSign 39 = .ok (.istore_n 3, 1) := by decide +kernel
theorem dX2_scanSign_40 : decode cX2_scanSign 40 = .ok (.iload_n 3, 1) := by decide +kernel
theorem dX2_scanSign_41 : decode cX2_scanSign 41 = .ok (.invokestatic 144, 3) := by decide +kernel
theorem dX2_scanSign_44 : decode cX2_scanSign 44 = .ok (.ifCond .eq 23, 3) := by decide +kernel
theorem dX2_scanSign_47 : decode cX2_scanSign 47 = .ok (.aload_n 0, 1) := by decide +kernel
theorem dX2_scanSign_48 : decode cX2_scanSign 48 = .ok (.dup, 1) := by decide +kernel
theorem dX2_scanSign_49 : decode cX2_scanSign 49 = .ok (.getfield 38, 3) := by decide +kernel
theorem dX2_scanSign_52 : decode cX2_scanSign 52 = .ok (.iconst 2, 1) := by decide +kernel
theorem dX2_scanSign_53 : decode cX2_scanSign 53 = .ok (.iadd, 1) := by decide +kernel
theorem dX2_scanSign_54 : decode cX2_scanSign 54 = .ok (.putfield 38, 3) := by decide +kernel
theorem dX2_scanSign_57 : decode cX2_scanSign 57 = .ok (.aload_n 0, 1) := by decide +kernel
theorem dX2_scanSign_58 : decode cX2_scanSign 58 = .ok (.iload_n 3, 1) := by decide +kernel
theorem dX2_scanSign_59 : decode cX2_scanSign 59 = .ok (.iload_n 1, 1) := by decide +kernel
theorem dX2_scanSign_60 : decode cX2_scanSign 60 = .ok (.iconst 0, 1) := by decide +kernel
theorem dX2_scanSign_61 : decode cX2_scanSign 61 = .ok (.invokevirtual 57, 3) := by decide +kernel
theorem dX2_scanSign_64 : decode cX2_scanSign 64 = .ok (.goto 37, 3) := by decide +kernel
theorem dX2_scanSign_67 : decode cX2_scanSign 67 = .ok (.iload_n 2, 1) := by decide +kernel
theorem dX2_scanSign_68 : decode cX2_scanSign 68 = .ok (.invokestatic 147, 3) := by decide +kernel
theorem dX2_scanSign_71 : decode cX2_scanSign 71 = .ok (.ifCond .eq 23, 3) := by decide +kernel
theorem dX2_scanSign_74 : decode cX2_scanSign 74 = .ok (.aload_n 0, 1) := by decide +kernel
theorem dX2_scanSign_75 : decode cX2_scanSign 75 = .ok (.dup, 1) := by decide +kernel
theorem dX2_scanSign_76 : decode cX2_scanSign 76 = .ok (.getfield 38, 3) := by decide +kernel
theorem dX2_scanSign_79 : decode cX2_scanSign 79 = .ok (.iconst 1, 1) := by decide +kernel
theorem dX2_scanSign_80 : decode cX2_scanSign 80 = .ok (.iadd, 1) := by decide +kernel
theorem dX2_scanSign_81 : decode cX2_scanSign 81 = .ok (.putfield 38, 3) := by decide +kernel
theorem dX2_scanSign_84 : decode cX2_scanSign 84 = .ok (.aload_n 0, 1) := by decide +kernel
theorem dX2_scanSign_85 : decode cX2_scanSign 85 = .ok (.iload_n 2, 1) := by decide +kernel
theorem dX2_scanSign_86 : decode cX2_scanSign 86 = .ok (.iload_n 1, 1) := by decide +kernel
theorem dX2_scanSign_87 : decode cX2_scanSign 87 = .ok (.iconst 0, 1) := by decide +kernel
theorem dX2_scanSign_88 : decode cX2_scanSign 88 = .ok (.invokevirtual 57, 3) := by decide +kernel
theorem dX2_scanSign_91 : decode cX2_scanSign 91 = .ok (.goto 10, 3) := by decide +kernel
theorem dX2_scanSign_94 : decode cX2_scanSign 94 = .ok (.aload_n 0, 1) := by decide +kernel
theorem dX2_scanSign_95 : decode cX2_scanSign 95 = .ok (.iconst 5, 1) := by decide +kernel
theorem dX2_scanSign_96 : decode cX2_scanSign 96 = .ok (.iload_n 1, 1) := by decide +kernel
theorem dX2_scanSign_97 : decode cX2_scanSign 97 = .ok (.iconst 1, 1) := by decide +kernel
theorem dX2_scanSign_98 : decode cX2_scanSign 98 = .ok (.invokevirtual 57, 3) := by decide +kernel
theorem dX2_scanSign_101 : decode cX2_scanSign 101 = .ok (.return_, 1) := by decide +kernel

theorem dX2_unit_0 : decode cX2_unit 0 = .ok (.aload_n 0, 1) := by decide +kernel
theorem dX2_unit_1 : decode cX2_unit 1 = .ok (.getfield 21, 3) := by decide +kernel
theorem dX2_unit_4 : decode cX2_unit 4 = .ok (.aload_n 0, 1) := by decide +kernel
theorem dX2_unit_5 : decode cX2_unit 5 = .ok (.getfield 38, 3) := by decide +kernel
theorem dX2_unit_8 : decode cX2_unit 8 = .ok (.invokevirtual 52, 3) := by decide +kernel
theorem dX2_unit_11 : decode cX2_unit 11 = .ok (.invokestatic 61, 3) := by decide +kernel
theorem dX2_unit_14 : decode cX2_unit 14 = .ok (.istore_n 1, 1) := by decide +kernel
theorem dX2_unit_15 : decode cX2_unit 15 = .ok (.iload_n 1, 1) := by decide +kernel
theorem dX2_unit_16 : decode cX2_unit 16 = .ok (.bipush 77, 2) := by decide +kernel
theorem dX2_unit_18 : decode cX2_unit 18 = .ok (.if_icmp .ne 36, 3) := by decide +kernel
theorem dX2_unit_21 : decode cX2_unit 21 = .ok (.aload_n 0, 1) := by decide +kernel
theorem dX2_unit_22 : decode cX2_unit 22 = .ok (.getfield 21, 3) := by decide +kernel
theorem dX2_unit_25 : decode cX2_unit 25 = .ok (.aload_n 0, 1) := by decide +kernel
theorem dX2_unit_26 : decode cX2_unit 26 = .ok (.getfield 38, 3) := by decide +kernel
theorem dX2_unit_29 : decode cX2_unit 29 = .ok (.iconst 1, 1) := by decide +kernel
theorem dX2_unit_30 : decode cX2_unit 30 = .ok (.iadd, 1) := by decide +kernel
theorem dX2_unit_31 : decode cX2_unit 31 = .ok (.invokevirtual 52, 3) := by decide +kernel
theorem dX2_unit_34 : decode cX2_unit 34 = .ok (.invokestatic 61, 3) := by decide +kernel
theorem dX2_unit_37 : decode cX2_unit 37 = .ok (.bipush 83, 2) := by decide +kernel
theorem dX2_unit_39 : decode cX2_unit 39 = .ok (.if_icmp .ne 15, 3) := by decide +kernel
theorem dX2_unit_42 : decode cX2_unit 42 = .ok (.aload_n 0, 1) := by decide +kernel
theorem dX2_unit_43 : decode cX2_unit 43 = .ok (.dup, 1) := by decide +kernel
theorem dX2_unit_44 : decode cX2_unit 44 = .ok (.getfield 38, 3) := by decide +kernel
theorem dX2_unit_47 : decode cX2_unit 47 = .ok (.iconst 2, 1) := by decide +kernel
theorem dX2_unit_48 : decode cX2_unit 48 = .ok (.iadd, 1) := by decide +kernel
theorem dX2_unit_49 : decode cX2_unit 49 = .ok (.putfield 38, 3) := by decide +kernel
theorem dX2_unit_52 : decode cX2_unit 52 = .ok (.lconst 1, 1) := by decide +kernel
theorem dX2_unit_53 : decode cX2_unit 53 = .ok (.lreturn, 1) := by decide +kernel
theorem dX2_unit_54 : decode cX2_unit 54 = .ok (.aload_n 0, 1) := by decide +kernel
theorem dX2_unit_55 : decode cX2_unit 55 = .ok (.dup, 1) := by decide +kernel
theorem dX2_unit_56 : decode cX2_unit 56 = .ok (.getfield 38, 3) := by decide +kernel
theorem dX2_unit_59 : decode cX2_unit 59 = .ok (.iconst 1, 1) := by decide +kernel
theorem dX2_unit_60 : decode cX2_unit 60 = .ok (.iadd, 1) := by decide +kernel
theorem dX2_unit_61 : decode cX2_unit 61 = .ok (.putfield 38, 3) := by decide +kernel
theorem dX2_unit_64 : decode cX2_unit 64 = .ok (.iload_n 1, 1) := by decide +kernel
theorem dX2_unit_65 : decode cX2_unit 65 = .ok (.lookupswitch 47 #[(72, 43), (77, 39), (83, 35)], 35) := by decide +kernel
theorem dX2_unit_100 : decode cX2_unit 100 = .ok (.ldc2_w 131, 3) := by decide +kernel
theorem dX2_unit_103 : decode cX2_unit 103 = .ok (.lreturn, 1) := by decide +kernel
theorem dX2_unit_104 : decode cX2_unit 104 = .ok (.ldc2_w 133, 3) := by decide +kernel
theorem dX2_unit_107 : decode cX2_unit 107 = .ok (.lreturn, 1) := by decide +kernel
theorem dX2_unit_108 : decode cX2_unit 108 = .ok (.ldc2_w 135, 3) := by decide +kernel
theorem dX2_unit_111 : decode cX2_unit 111 = .ok (.lreturn, 1) := by decide +kernel
theorem dX2_unit_112 : decode cX2_unit 112 = .ok (.ldc2_w 108, 3) := by decide +kernel
theorem dX2_unit_115 : decode cX2_unit 115 = .ok (.lreturn, 1) := by decide +kernel

theorem dX2_scanTime_0 : decode cX2_scanTime 0 = .ok (.aload_n 0, 1) := by decide +kernel
theorem dX2_scanTime_1 : decode cX2_scanTime 1 = .ok (.getfield 38, 3) := by decide +kernel
theorem dX2_scanTime_4 : decode cX2_scanTime 4 = .ok (.istore_n 1, 1) := by decide +kernel
theorem dX2_scanTime_5 : decode cX2_scanTime 5 = .ok (.aload_n 0, 1) := by decide +kernel
theorem dX2_scanTime_6 : decode cX2_scanTime 6 = .ok (.dup, 1) := by decide +kernel
theorem dX2_scanTime_7 : decode cX2_scanTime 7 = .ok (.getfield 38, 3) := by decide +kernel
theorem dX2_scanTime_10 : decode cX2_scanTime 10 = .ok (.iconst 2, 1) := by decide +kernel
theorem dX2_scanTime_11 : decode cX2_scanTime 11 = .ok (.iadd, 1) := by decide +kernel
theorem dX2_scanTime_12 : decode cX2_scanTime 12 = .ok (.putfield 38, 3) := by decide +kernel
theorem dX2_scanTime_15 : decode cX2_scanTime 15 = .ok (.aload_n 0, 1) := by decide +kernel
theorem dX2_scanTime_16 : decode cX2_scanTime 16 = .ok (.bipush 10, 2) := by decide +kernel
theorem dX2_scanTime_18 : decode cX2_scanTime 18 = .ok (.invokevirtual 100, 3) := by decide +kernel
theorem dX2_scanTime_21 : decode cX2_scanTime 21 = .ok (.lstore_n 2, 1) := by decide +kernel
theorem dX2_scanTime_22 : decode cX2_scanTime 22 = .ok (.aload_n 0, 1) := by decide +kernel
theorem dX2_scanTime_23 : decode cX2_scanTime 23 = .ok (.invokevirtual 114, 3) := by decide +kernel
theorem dX2_scanTime_26 : decode cX2_scanTime 26 = .ok (.lstore 4, 2) := by decide +kernel
theorem dX2_scanTime_28 : decode cX2_scanTime 28 = .ok (.aload_n 0, 1) := by decide +kernel
theorem dX2_scanTime_29 : decode cX2_scanTime 29 = .ok (.iload_n 1, 1) := by decide +kernel
theorem dX2_scanTime_30 : decode cX2_scanTime 30 = .ok (.lload_n 2, 1) := by decide +kernel
theorem dX2_scanTime_31 : decode cX2_scanTime 31 = .ok (.ldc2_w 108, 3) := by decide +kernel
theorem dX2_scanTime_34 : decode cX2_scanTime 34 = .ok (.lcmp, 1) := by decide +kernel
theorem dX2_scanTime_35 : decode cX2_scanTime 35 = .ok (.ifCond .eq 12, 3) := by decide +kernel
theorem dX2_scanTime_38 : decode cX2_scanTime 38 = .ok (.lload 4, 2) := by decide +kernel
theorem dX2_scanTime_40 : decode cX2_scanTime 40 = .ok (.ldc2_w 108, 3) := by decide +kernel
theorem dX2_scanTime_43 : decode cX2_scanTime 43 = .ok (.lcmp, 1) := by decide +kernel
theorem dX2_scanTime_44 : decode cX2_scanTime 44 = .ok (.ifCond .ne 9, 3) := by decide +kernel
theorem dX2_scanTime_47 : decode cX2_scanTime 47 = .ok (.ldc2_w 108, 3) := by decide +kernel
theorem dX2_scanTime_50 : decode cX2_scanTime 50 = .ok (.goto 7, 3) := by decide +kernel
theorem dX2_scanTime_53 : decode cX2_scanTime 53 = .ok (.lload_n 2, 1) := by decide +kernel
theorem dX2_scanTime_54 : decode cX2_scanTime 54 = .ok (.lload 4, 2) := by decide +kernel
theorem dX2_scanTime_56 : decode cX2_scanTime 56 = .ok (.lmul, 1) := by decide +kernel
theorem dX2_scanTime_57 : decode cX2_scanTime 57 = .ok (.invokevirtual 110, 3) := by decide +kernel
theorem dX2_scanTime_60 : decode cX2_scanTime 60 = .ok (.return_, 1) := by decide +kernel

theorem dX2_endOfComment_0 : decode cX2_endOfComment 0 = .ok (.iload_n 1, 1) := by decide +kernel
theorem dX2_endOfComment_1 : decode cX2_endOfComment 1 = .ok (.istore_n 2, 1) := by decide +kernel
theorem dX2_endOfComment_2 : decode cX2_endOfComment 2 = .ok (.iload_n 2, 1) := by decide +kernel
theorem dX2_endOfComment_3 : decode cX2_endOfComment 3 = .ok (.aload_n 0, 1) := by decide +kernel
theorem dX2_endOfComment_4 : decode cX2_endOfComment 4 = .ok (.getfield 21, 3) := by decide +kernel
theorem dX2_endOfComment_7 : decode cX2_endOfComment 7 = .ok (.getfield 89, 3) := by decide +kernel
theorem dX2_endOfComment_10 : decode cX2_endOfComment 10 = .ok (.if_icmp .ge 41, 3) := by decide +kernel
theorem dX2_endOfComment_13 : decode cX2_endOfComment 13 = .ok (.aload_n 0, 1) := by decide +kernel
theorem dX2_endOfComment_14 : decode cX2_endOfComment 14 = .ok (.getfield 21, 3) := by decide +kernel
theorem dX2_endOfComment_17 : decode cX2_endOfComment 17 = .ok (.iload_n 2, 1) := by decide +kernel
theorem dX2_endOfComment_18 : decode cX2_endOfComment 18 = .ok (.invokevirtual 52, 3) := by decide +kernel
theorem dX2_endOfComment_21 : decode cX2_endOfComment 21 = .ok (.bipush 42, 2) := by decide +kernel
theorem dX2_endOfComment_23 : decode cX2_endOfComment 23 = .ok (.if_icmp .ne 22, 3) := by decide +kernel
theorem dX2_endOfComment_26 : decode cX2_endOfComment 26 = .ok (.aload_n 0, 1) := by decide +kernel
theorem dX2_endOfComment_27 : decode cX2_endOfComment 27 = .ok (.getfield 21, 3) := by decide +kernel
theorem dX2_endOfComment_30 : decode cX2_endOfComment 30 = .ok (.iload_n 2, 1) := by decide +kernel
theorem dX2_endOfComment_31 : decode cX2_endOfComment 31 = .ok (.iconst 1, 1) := by decide +kernel
theorem dX2_endOfComment_32 : decode cX2_endOfComment 32 = .ok (.iadd, 1) := by decide +kernel
theorem dX2_endOfComment_33 : decode cX2_endOfComment 33 = .ok (.invokevirtual 52, 3) := by decide +kernel
theorem dX2_endOfComment_36 : decode cX2_endOfComment 36 = .ok (.bipush 41, 2) := by decide +kernel
theorem dX2_endOfComment_38 : decode cX2_endOfComment 38 = .ok (.if_icmp .ne 7, 3) := by decide +kernel
theorem dX2_endOfComment_41 : decode cX2_endOfComment 41 = .ok (.iload_n 2, 1) := by decide +kernel
theorem dX2_endOfComment_42 : decode cX2_endOfComment 42 = .ok (.iconst 2, 1) := by decide +kernel
theorem dX2_endOfComment_43 : decode cX2_endOfComment 43 = .ok (.iadd, 1) := by decide +kernel
theorem dX2_endOfComment_44 : decode cX2_endOfComment 44 = .ok (.ireturn, 1) := by decide +kernel
theorem dX2_endOfComment_45 : decode cX2_endOfComment 45 = .ok (.iinc 2 1, 3) := by decide +kernel
theorem dX2_endOfComment_48 : decode cX2_endOfComment 48 = .ok (.goto (-46), 3) := by decide +kernel
theorem dX2_endOfComment_51 : decode cX2_endOfComment 51 = .ok (.iconst (-1), 1) := by decide +kernel
theorem dX2_endOfComment_52 : decode cX2_endOfComment 52 = .ok (.ireturn, 1) := by decide +kernel

theorem dX2_skipBlanks_0 : decode cX2_skipBlanks 0 = .ok (.iconst 0, 1) := by decide +kernel
theorem dX2_skipBlanks_1 : decode cX2_skipBlanks 1 = .ok (.istore_n 1, 1) := by decide +kernel
theorem dX2_skipBlanks_2 : decode cX2_skipBlanks 2 = .ok (.iload_n 1, 1) := by decide +kernel
theorem dX2_skipBlanks_3 : decode cX2_skipBlanks 3 = .ok (.sipush 8192, 3) := by decide +kernel
theorem dX2_skipBlanks_6 : decode cX2_skipBlanks 6 = .ok (.if_icmp .gt 110, 3) := by decide +kernel
theorem dX2_skipBlanks_9 : decode cX2_skipBlanks 9 = .ok (.aload_n 0, 1) := by decide +kernel
theorem dX2_skipBlanks_10 : decode cX2_skipBlanks 10 = .ok (.getfield 21, 3) := by decide +kernel
theorem dX2_skipBlanks_13 : decode cX2_skipBlanks 13 = .ok (.aload_n 0, 1) := by decide +kernel
theorem dX2_skipBlanks_14 : decode cX2_skipBlanks 14 = .ok (.getfield 38, 3) := by decide +kernel
theorem dX2_skipBlanks_17 : decode cX2_skipBlanks 17 = .ok (.invokevirtual 52, 3) := by decide +kernel
theorem dX2_skipBlanks_20 : decode cX2_skipBlanks 20 = .ok (.istore_n 2, 1) := by decide +kernel
theorem dX2_skipBlanks_21 : decode cX2_skipBlanks 21 = .ok (.iload_n 2, 1) := by decide +kernel
theorem dX2_skipBlanks_22 : decode cX2_skipBlanks 22 = .ok (.bipush 40, 2) := by decide +kernel
theorem dX2_skipBlanks_24 : decode cX2_skipBlanks 24 = .ok (.if_icmp .ne 47, 3) := by decide +kernel
theorem dX2_skipBlanks_27 : decode cX2_skipBlanks 27 = .ok (.aload_n 0, 1) := by decide +kernel
theorem dX2_skipBlanks_28 : decode cX2_skipBlanks 28 = .ok (.getfield 21, 3) := by decide +kernel
theorem dX2_skipBlanks_31 : decode cX2_skipBlanks 31 = .ok (.aload_n 0, 1) := by decide +kernel
theorem dX2_skipBlanks_32 : decode cX2_skipBlanks 32 = .ok (.getfield 38, 3) := by decide +kernel
theorem dX2_skipBlanks_35 : decode cX2_skipBlanks 35 = .ok (.iconst 1, 1) := by decide +kernel
theorem dX2_skipBlanks_36 : decode cX2_skipBlanks 36 = .ok (.iadd, 1) := by decide +kernel
theorem dX2_skipBlanks_37 : decode cX2_skipBlanks 37 = .ok (.invokevirtual 52, 3) := by decide +kernel
theorem dX2_skipBlanks_40 : decode cX2_skipBlanks 40 = .ok (.bipush 42, 2) := by decide +kernel
theorem dX2_skipBlanks_42 : decode cX2_skipBlanks 42 = .ok (.if_icmp .ne 29, 3) := by decide +kernel
theorem dX2_skipBlanks_45 : decode cX2_skipBlanks 45 = .ok (.aload_n 0, 1) := by decide +kernel
theorem dX2_skipBlanks_46 : decode cX2_skipBlanks 46 = .ok (.aload_n 0, 1) := by decide +kernel
theorem dX2_skipBlanks_47 : decode cX2_skipBlanks 47 = .ok (.getfield 38, 3) := by decide +kernel
theorem dX2_skipBlanks_50 : decode cX2_skipBlanks 50 = .ok (.iconst 2, 1) := by decide +kernel
theorem dX2_skipBlanks_51 : decode cX2_skipBlanks 51 = .ok (.iadd, 1) := by decide +kernel
theorem dX2_skipBlanks_52 : decode cX2_skipBlanks 52 = .ok (.invokevirtual 86, 3) := by decide +kernel
theorem dX2_skipBlanks_55 : decode cX2_skipBlanks 55 = .ok (.istore_n 3, 1) := by decide +kernel
theorem dX2_skipBlanks_56 : decode cX2_skipBlanks 56 = .ok (.iload_n 3, 1) := by decide +kernel
theorem dX2_skipBlanks_57 : decode cX2_skipBlanks 57 = .ok (.iconst (-1), 1) := by decide +kernel
theorem dX2_skipBlanks_58 : decode cX2_skipBlanks 58 = .ok (.if_icmp .ne 5, 3) := by decide +kernel
theorem dX2_skipBlanks_61 : decode cX2_skipBlanks 61 = .ok (.iconst 0, 1) := by decide +kernel
theorem dX2_skipBlanks_62 : decode cX2_skipBlanks 62 = .ok (.ireturn, 1) := by decide +kernel
theorem dX2_skipBlanks_63 : decode cX2_skipBlanks 63 = .ok (.aload_n 0, 1) := by decide +kernel
theorem dX2_skipBlanks_64 : decode cX2_skipBlanks 64 = .ok (.iload_n 3, 1) := by decide +kernel
theorem dX2_skipBlanks_65 : decode cX2_skipBlanks 65 = .ok (.putfield 38, 3) := by decide +kernel
theorem dX2_skipBlanks_68 : decode cX2_skipBlanks 68 = .ok (.goto 42, 3) := by decide +kernel
theorem dX2_skipBlanks_71 : decode cX2_skipBlanks 71 = .ok (.iload_n 2, 1) := by decide +kernel
theorem dX2_skipBlanks_72 : decode cX2_skipBlanks 72 = .ok (.bipush 9, 2) := by decide +kernel
theorem dX2_skipBlanks_74 : decode cX2_skipBlanks 74 = .ok (.if_icmp .eq 21, 3) := by decide +kernel
theorem dX2_skipBlanks_77 : decode cX2_skipBlanks 77 = .ok (.iload_n 2, 1) := by decide +kernel
theorem dX2_skipBlanks_78 : decode cX2_skipBlanks 78 = .ok (.bipush 10, 2) := by decide +kernel
theorem dX2_skipBlanks_80 : decode cX2_skipBlanks 80 = .ok (.if_icmp .eq 15, 3) := by decide +kernel
theorem dX2_skipBlanks_83 : decode cX2_skipBlanks 83 = .ok (.iload_n 2, 1) := by decide +kernel
theorem dX2_skipBlanks_84 : decode cX2_skipBlanks 84 = .ok (.bipush 13, 2) := by decide +kernel
theorem dX2_skipBlanks_86 : decode cX2_skipBlanks 86 = .ok (.if_icmp .eq 9, 3) := by decide +kernel
theorem dX2_skipBlanks_89 : decode cX2_skipBlanks 89 = .ok (.iload_n 2, 1) := by decide +kernel
theorem dX2_skipBlanks_90 : decode cX2_skipBlanks 90 = .ok (.bipush 32, 2) := by decide +kernel
theorem dX2_skipBlanks_92 : decode cX2_skipBlanks 92 = .ok (.if_icmp .ne 16, 3) := by decide +kernel
theorem dX2_skipBlanks_95 : decode cX2_skipBlanks 95 = .ok (.aload_n 0, 1) := by decide +kernel
theorem dX2_skipBlanks_96 : decode cX2_skipBlanks 96 = .ok (.dup, 1) := by decide +kernel
theorem dX2_skipBlanks_97 : decode cX2_skipBlanks 97 = .ok (.getfield 38, 3) := by decide +kernel
theorem dX2_skipBlanks_100 : decode cX2_skipBlanks 100 = .ok (.iconst 1, 1) := by decide +kernel
theorem dX2_skipBlanks_101 : decode cX2_skipBlanks 101 = .ok (.iadd, 1) := by decide +kernel
theorem dX2_skipBlanks_102 : decode cX2_skipBlanks 102 = .ok (.putfield 38, 3) := by decide +kernel
theorem dX2_skipBlanks_105 : decode cX2_skipBlanks 105 = .ok (.goto 5, 3) := by decide +kernel
theorem dX2_skipBlanks_108 : decode cX2_skipBlanks 108 = .ok (.iconst 1, 1) := by decide +kernel
theorem dX2_skipBlanks_109 : decode cX2_skipBlanks 109 = .ok (.ireturn, 1) := by decide +kernel
theorem dX2_skipBlanks_110 : decode cX2_skipBlanks 110 = .ok (.iinc 1 1, 3) := by decide +kernel
theorem dX2_skipBlanks_113 : decode cX2_skipBlanks 113 = .ok (.goto (-111), 3) := by decide +kernel
theorem dX2_skipBlanks_116 : decode cX2_skipBlanks 116 = .ok (.iconst 1, 1) := by decide +kernel
theorem dX2_skipBlanks_117 : decode cX2_skipBlanks 117 = .ok (.ireturn, 1) := by decide +kernel

theorem dX2_scanToken_0 : decode cX2_scanToken 0 = .ok (.aload_n 0, 1) := by decide +kernel
theorem dX2_scanToken_1 : decode cX2_scanToken 1 = .ok (.invokevirtual 48, 3) := by decide +kernel
theorem dX2_scanToken_4 : decode cX2_scanToken 4 = .ok (.istore_n 1, 1) := by decide +kernel
theorem dX2_scanToken_5 : decode cX2_scanToken 5 = .ok (.aload_n 0, 1) := by decide +kernel
theorem dX2_scanToken_6 : decode cX2_scanToken 6 = .ok (.getfield 21, 3) := by decide +kernel
theorem dX2_scanToken_9 : decode cX2_scanToken 9 = .ok (.aload_n 0, 1) := by decide +kernel
theorem dX2_scanToken_10 : decode cX2_scanToken 10 = .ok (.getfield 38, 3) := by decide +kernel
theorem dX2_scanToken_13 : decode cX2_scanToken 13 = .ok (.invokevirtual 52, 3) := by decide +kernel
theorem dX2_scanToken_16 : decode cX2_scanToken 16 = .ok (.istore_n 2, 1) := by decide +kernel
theorem dX2_scanToken_17 : decode cX2_scanToken 17 = .ok (.iload_n 1, 1) := by decide +kernel
theorem dX2_scanToken_18 : decode cX2_scanToken 18 = .ok (.ifCond .ne 16, 3) := by decide +kernel
theorem dX2_scanToken_21 : decode cX2_scanToken 21 = .ok (.aload_n 0, 1) := by decide +kernel
theorem dX2_scanToken_22 : decode cX2_scanToken 22 = .ok (.iconst 5, 1) := by decide +kernel
theorem dX2_scanToken_23 : decode cX2_scanToken 23 = .ok (.aload_n 0, 1) := by decide +kernel
theorem dX2_scanToken_24 : decode cX2_scanToken 24 = .ok (.getfield 38, 3) := by decide +kernel
theorem dX2_scanToken_27 : decode cX2_scanToken 27 = .ok (.iconst 2, 1) := by decide +kernel
theorem dX2_scanToken_28 : decode cX2_scanToken 28 = .ok (.invokevirtual 57, 3) := by decide +kernel
theorem dX2_scanToken_31 : decode cX2_scanToken 31 = .ok (.goto 100, 3) := by decide +kernel
theorem dX2_scanToken_34 : decode cX2_scanToken 34 = .ok (.iload_n 2, 1) := by decide +kernel
theorem dX2_scanToken_35 : decode cX2_scanToken 35 = .ok (.iconst (-1), 1) := by decide +kernel
theorem dX2_scanToken_36 : decode cX2_scanToken 36 = .ok (.if_icmp .ne 16, 3) := by decide +kernel
theorem dX2_scanToken_39 : decode cX2_scanToken 39 = .ok (.aload_n 0, 1) := by decide +kernel
theorem dX2_scanToken_40 : decode cX2_scanToken 40 = .ok (.iconst 4, 1) := by decide +kernel
theorem dX2_scanToken_41 : decode cX2_scanToken 41 = .ok (.aload_n 0, 1) := by decide +kernel
theorem dX2_scanToken_42 : decode cX2_scanToken 42 = .ok (.getfield 38, 3) := by decide +kernel
theorem dX2_scanToken_45 : decode cX2_scanToken 45 = .ok (.iconst 0, 1) := by decide +kernel
theorem dX2_scanToken_46 : decode cX2_scanToken 46 = .ok (.invokevirtual 57, 3) := by decide +kernel
theorem dX2_scanToken_49 : decode cX2_scanToken 49 = .ok (.goto 82, 3) := by decide +kernel
theorem dX2_scanToken_52 : decode cX2_scanToken 52 = .ok (.iload_n 2, 1) := by decide +kernel
theorem dX2_scanToken_53 : decode cX2_scanToken 53 = .ok (.invokestatic 61, 3) := by decide +kernel
theorem dX2_scanToken_56 : decode cX2_scanToken 56 = .ok (.bipush 84, 2) := by decide +kernel
theorem dX2_scanToken_58 : decode cX2_scanToken 58 = .ok (.if_icmp .ne 28, 3) := by decide +kernel
theorem dX2_scanToken_61 : decode cX2_scanToken 61 = .ok (.aload_n 0, 1) := by decide +kernel
theorem dX2_scanToken_62 : decode cX2_scanToken 62 = .ok (.getfield 21, 3) := by decide +kernel
theorem dX2_scanToken_65 : decode cX2_scanToken 65 = .ok (.aload_n 0, 1) := by decide +kernel
theorem dX2_scanToken_66 : decode cX2_scanToken 66 = .ok (.getfield 38, 3) := by decide +kernel
theorem dX2_scanToken_69 : decode cX2_scanToken 69 = .ok (.iconst 1, 1) := by decide +kernel
theorem dX2_scanToken_70 : decode cX2_scanToken 70 = .ok (.iadd, 1) := by decide +kernel
theorem dX2_scanToken_71 : decode cX2_scanToken 71 = .ok (.invokevirtual 52, 3) := by decide +kernel
theorem dX2_scanToken_74 : decode cX2_scanToken 74 = .ok (.bipush 35, 2) := by decide +kernel
theorem dX2_scanToken_76 : decode cX2_scanToken 76 = .ok (.if_icmp .ne 10, 3) := by decide +kernel
theorem dX2_scanToken_79 : decode cX2_scanToken 79 = .ok (.aload_n 0, 1) := by decide +kernel
theorem dX2_scanToken_80 : decode cX2_scanToken 80 = .ok (.invokevirtual 64, 3) := by decide +kernel
theorem dX2_scanToken_83 : decode cX2_scanToken 83 = .ok (.goto 48, 3) := by decide +kernel
theorem dX2_scanToken_86 : decode cX2_scanToken 86 = .ok (.iload_n 2, 1) := by decide +kernel
theorem dX2_scanToken_87 : decode cX2_scanToken 87 = .ok (.invokestatic 67, 3) := by decide +kernel
theorem dX2_scanToken_90 : decode cX2_scanToken 90 = .ok (.ifCond .eq 10, 3) := by decide +kernel
theorem dX2_scanToken_93 : decode cX2_scanToken 93 = .ok (.aload_n 0, 1) := by decide +kernel
theorem dX2_scanToken_94 : decode cX2_scanToken 94 = .ok (.invokevirtual 71, 3) := by decide +kernel
theorem dX2_scanToken_97 : decode cX2_scanToken 97 = .ok (.goto 34, 3) := by decide +kernel
theorem dX2_scanToken_100 : decode cX2_scanToken 100 = .ok (.iload_n 2, 1) := by decide +kernel
theorem dX2_scanToken_101 : decode cX2_scanToken 101 = .ok (.invokestatic 74, 3) := by decide +kernel
theorem dX2_scanToken_104 : decode cX2_scanToken 104 = .ok (.ifCond .eq 10, 3) := by decide +kernel
theorem dX2_scanToken_107 : decode cX2_scanToken 107 = .ok (.aload_n 0, 1) := by decide +kernel
theorem dX2_scanToken_108 : decode cX2_scanToken 108 = .ok (.invokevirtual 77, 3) := by decide +kernel
theorem dX2_scanToken_111 : decode cX2_scanToken 111 = .ok (.goto 20, 3) := by decide +kernel
theorem dX2_scanToken_114 : decode cX2_scanToken 114 = .ok (.iload_n 2, 1) := by decide +kernel
theorem dX2_scanToken_115 : decode cX2_scanToken 115 = .ok (.bipush 37, 2) := by decide +kernel
theorem dX2_scanToken_117 : decode cX2_scanToken 117 = .ok (.if_icmp .ne 10, 3) := by decide +kernel
theorem dX2_scanToken_120 : decode cX2_scanToken 120 = .ok (.aload_n 0, 1) := by decide +kernel
theorem dX2_scanToken_121 : decode cX2_scanToken 121 = .ok (.invokevirtual 80, 3) := by decide +kernel
theorem dX2_scanToken_124 : decode cX2_scanToken 124 = .ok (.goto 7, 3) := by decide +kernel
theorem dX2_scanToken_127 : decode cX2_scanToken 127 = .ok (.aload_n 0, 1) := by decide +kernel
theorem dX2_scanToken_128 : decode cX2_scanToken 128 = .ok (.invokevirtual 83, 3) := by decide +kernel
theorem dX2_scanToken_131 : decode cX2_scanToken 131 = .ok (.return_, 1) := by decide +kernel

theorem dX2_scan_0 : decode cX2_scan 0 = .ok (.aload_n 0, 1) := by decide +kernel
theorem dX2_scan_1 : decode cX2_scan 1 = .ok (.getfield 25, 3) := by decide +kernel
theorem dX2_scan_4 : decode cX2_scan 4 = .ok (.invokevirtual 33, 3) := by decide +kernel
theorem dX2_scan_7 : decode cX2_scan 7 = .ok (.aload_n 0, 1) := by decide +kernel
theorem dX2_scan_8 : decode cX2_scan 8 = .ok (.iconst 0, 1) := by decide +kernel
theorem dX2_scan_9 : decode cX2_scan 9 = .ok (.putfield 29, 3) := by decide +kernel
theorem dX2_scan_12 : decode cX2_scan 12 = .ok (.aload_n 0, 1) := by decide +kernel
theorem dX2_scan_13 : decode cX2_scan 13 = .ok (.iconst 0, 1) := by decide +kernel
theorem dX2_scan_14 : decode cX2_scan 14 = .ok (.putfield 38, 3) := by decide +kernel
theorem dX2_scan_17 : decode cX2_scan 17 = .ok (.iconst 1, 1) := by decide +kernel
theorem dX2_scan_18 : decode cX2_scan 18 = .ok (.istore_n 1, 1) := by decide +kernel
theorem dX2_scan_19 : decode cX2_scan 19 = .ok (.iconst 0, 1) := by decide +kernel
theorem dX2_scan_20 : decode cX2_scan 20 = .ok (.istore_n 2, 1) := by decide +kernel
theorem dX2_scan_21 : decode cX2_scan 21 = .ok (.iload_n 1, 1) := by decide +kernel
theorem dX2_scan_22 : decode cX2_scan 22 = .ok (.ifCond .eq 47, 3) := by decide +kernel
theorem dX2_scan_25 : decode cX2_scan 25 = .ok (.iload_n 2, 1) := by decide +kernel
theorem dX2_scan_26 : decode cX2_scan 26 = .ok (.sipush 8193, 3) := by decide +kernel
theorem dX2_scan_29 : decode cX2_scan 29 = .ok (.if_icmp .ge 40, 3) := by decide +kernel
theorem dX2_scan_32 : decode cX2_scan 32 = .ok (.aload_n 0, 1) := by decide +kernel
theorem dX2_scan_33 : decode cX2_scan 33 = .ok (.invokevirtual 41, 3) := by decide +kernel
theorem dX2_scan_36 : decode cX2_scan 36 = .ok (.aload_n 0, 1) := by decide +kernel
theorem dX2_scan_37 : decode cX2_scan 37 = .ok (.aload_n 0, 1) := by decide +kernel
theorem dX2_scan_38 : decode cX2_scan 38 = .ok (.getfield 29, 3) := by decide +kernel
theorem dX2_scan_41 : decode cX2_scan 41 = .ok (.iconst 1, 1) := by decide +kernel
theorem dX2_scan_42 : decode cX2_scan 42 = .ok (.isub, 1) := by decide +kernel
theorem dX2_scan_43 : decode cX2_scan 43 = .ok (.invokevirtual 44, 3) := by decide +kernel
theorem dX2_scan_46 : decode cX2_scan 46 = .ok (.istore_n 3, 1) := by decide +kernel
theorem dX2_scan_47 : decode cX2_scan 47 = .ok (.iload_n 3, 1) := by decide +kernel
theorem dX2_scan_48 : decode cX2_scan 48 = .ok (.iconst 4, 1) := by decide +kernel
theorem dX2_scan_49 : decode cX2_scan 49 = .ok (.if_icmp .eq 12, 3) := by decide +kernel
theorem dX2_scan_52 : decode cX2_scan 52 = .ok (.iload_n 3, 1) := by decide +kernel
theorem dX2_scan_53 : decode cX2_scan 53 = .ok (.iconst 5, 1) := by decide +kernel
theorem dX2_scan_54 : decode cX2_scan 54 = .ok (.if_icmp .eq 7, 3) := by decide +kernel
theorem dX2_scan_57 : decode cX2_scan 57 = .ok (.iconst 1, 1) := by decide +kernel
theorem dX2_scan_58 : decode cX2_scan 58 = .ok (.goto 4, 3) := by decide +kernel
theorem dX2_scan_61 : decode cX2_scan 61 = .ok (.iconst 0, 1) := by decide +kernel
theorem dX2_scan_62 : decode cX2_scan 62 = .ok (.istore_n 1, 1) := by decide +kernel
theorem dX2_scan_63 : decode cX2_scan 63 = .ok (.iinc 2 1, 3) := by decide +kernel
theorem dX2_scan_66 : decode cX2_scan 66 = .ok (.goto (-45), 3) := by decide +kernel
theorem dX2_scan_69 : decode cX2_scan 69 = .ok (.return_, 1) := by decide +kernel
end
section
def f_Tokens_kind (o_this : S_Tokens) (a1 : Int32) : Option (Int32) :=
  if a1 < 0 then
    some 6
  else
    if o_this.1 ≤ a1 then
      some 6
    else
      if 8193 ≤ a1 then
        some 6
      else
        gd a1 8193 <|
        some (o_this.2.2.1 a1.toNatClampNeg)

def f_Tokens_place (o_this : S_Tokens) (a1 : Int32) : Option (Int32) :=
  if a1 < 0 then
    some (-1)
  else
    if o_this.1 ≤ a1 then
      some (-1)
    else
      if 8193 ≤ a1 then
        some (-1)
      else
        gd a1 8193 <|
        some (o_this.2.2.2.1 a1.toNatClampNeg)

def f_Tokens_value (o_this : S_Tokens) (a1 : Int32) : Option (Int32) :=
  if a1 < 0 then
    some 0
  else
    if o_this.1 ≤ a1 then
      some 0
    else
      if 8193 ≤ a1 then
        some 0
      else
        gd a1 8193 <|
        some (o_this.2.2.2.2 a1.toNatClampNeg)

def f_Tokens_add (o_this : S_Tokens) (a1 : Int32) (a2 : Int32) (a3 : Int32) : Option (S_Tokens) :=
  if o_this.1 < 0 then
    some o_this
  else
    if 8193 ≤ o_this.1 then
      some o_this
    else
      gd o_this.1 8193 <|
      gd o_this.1 8193 <|
      gd o_this.1 8193 <|
      some (o_this.1 + 1, o_this.2.1, upd o_this.2.2.1 o_this.1.toNatClampNeg a1, upd o_this.2.2.2.1 o_this.1.toNatClampNeg a2, upd o_this.2.2.2.2 o_this.1.toNatClampNeg a3)

def f_Tokens_scanName_L7 (o_text : S_Bytes) : Nat → Int32 → S_Tokens → Option (S_Tokens)
  | 0, _, _ => none
  | n + 1, v2_L7, o_this_L7 =>
    if 8192 ≤ v2_L7 then
      some o_this_L7
    else
      (f_Bytes_get 8192 o_text o_this_L7.2.1).bind fun r2 =>
      (f_Top_isNameByte r2).bind fun r3 =>
      if r3 = 0 then
        some o_this_L7
      else
        nm (v2_L7 + 1) fun x5 =>
        f_Tokens_scanName_L7 o_text n x5 (o_this_L7.1, o_this_L7.2.1 + 1, o_this_L7.2.2)
def f_Tokens_scanName_L68 (o_text : S_Bytes) (r6 : S_Tokens) : Nat → Int32 → S_Names → Option (S_Names)
  | 0, _, _ => none
  | n + 1, v2_L68, o_names_L68 =>
    if r6.2.1 ≤ v2_L68 then
      some o_names_L68
    else
      (f_Bytes_get 8192 o_text v2_L68).bind fun r9 =>
      (f_Names_addLetter o_names_L68 r9).bind fun r10 =>
      nm (v2_L68 + 1) fun x11 =>
      f_Tokens_scanName_L68 o_text r6 n x11 r10
def f_Tokens_scanName (o_this : S_Tokens) (o_text : S_Bytes) (o_names : S_Names) : Option (S_Tokens × S_Names) :=
  (f_Tokens_scanName_L7 o_text FU 0 o_this).bind fun r6 =>
  if (r6.2.1 - o_this.2.1) ≤ 32 then
    (f_Tokens_scanName_L68 o_text r6 FU o_this.2.1 o_names).bind fun r12 =>
    (f_Names_number r12).bind fun r13 =>
    if 41 ≤ r13.1 then
      (f_Tokens_add r6 1 o_this.2.1 (r13.1 - 41)).bind fun r15 =>
      some (r15, r13.2)
    else
      (f_Tokens_add r6 (256 + r13.1) o_this.2.1 0).bind fun r16 =>
      some (r16, r13.2)
  else
    (f_Tokens_add r6 5 o_this.2.1 3).bind fun r17 =>
    some (r17, o_names)

def f_Tokens_addNumber (o_this : S_Tokens) (o_text : S_Bytes) (a1 : Int32) (a2 : Int64) : Option (S_Tokens) :=
  if (lg_cmp a2 0) < 0 then
    (f_Tokens_add o_this 5 a1 4).bind fun r2 =>
    some r2
  else
    if 0 < (lg_cmp a2 2147483647) then
      (f_Tokens_add o_this 5 a1 4).bind fun r4 =>
      some r4
    else
      (f_Bytes_get 8192 o_text o_this.2.1).bind fun r5 =>
      (f_Top_isNameByte r5).bind fun r6 =>
      if r6 = 0 then
        (f_Tokens_add o_this 2 a1 a2.toInt32).bind fun r8 =>
        some r8
      else
        (f_Tokens_add o_this 5 a1 4).bind fun r9 =>
        some r9

def f_Tokens_digit (a1 : Int32) : Option (Int32) :=
  (f_Top_great a1).bind fun r1 =>
  if r1 < 65 then
    (f_Top_isDigit a1).bind fun r3 =>
    if r3 = 0 then
      some (-1)
    else
      some (a1 - 48)
  else
    if 70 < r1 then
      (f_Top_isDigit a1).bind fun r6 =>
      if r6 = 0 then
        some (-1)
      else
        some (a1 - 48)
    else
      some ((r1 - 65) + 10)

def f_Tokens_digits_L11 (o_this : S_Tokens) (o_text : S_Bytes) (a1 : Int32) : Nat → Int32 → Int64 → S_Tokens → Option (Int64 × S_Tokens)
  | 0, _, _, _ => none
  | n + 1, v5_L11, v2_L11, o_this_L11 =>
    if 8192 ≤ v5_L11 then
      if o_this_L11.2.1 = o_this.2.1 then
        some ((-1), o_this_L11)
      else
        some (v2_L11, o_this_L11)
    else
      (f_Bytes_get 8192 o_text o_this_L11.2.1).bind fun r3 =>
      (f_Tokens_digit r3).bind fun r4 =>
      if r4 = (-1) then
        if o_this_L11.2.1 = o_this.2.1 then
          some ((-1), o_this_L11)
        else
          some (v2_L11, o_this_L11)
      else
        if r4 < a1 then
          (f_Math_min 2147483648 ((v2_L11 * a1.toInt64) + r4.toInt64)).bind fun r8 =>
          nm (v5_L11 + 1) fun x9 =>
          f_Tokens_digits_L11 o_this o_text a1 n x9 r8 (o_this_L11.1, o_this_L11.2.1 + 1, o_this_L11.2.2)
        else
          if o_this_L11.2.1 = o_this.2.1 then
            some ((-1), o_this_L11)
          else
            some (v2_L11, o_this_L11)
def f_Tokens_digits (o_this : S_Tokens) (o_text : S_Bytes) (a1 : Int32) : Option (Int64 × S_Tokens) :=
  f_Tokens_digits_L11 o_this o_text a1 FU 0 0 o_this

def f_Tokens_scanNumber (o_this : S_Tokens) (o_text : S_Bytes) : Option (S_Tokens) :=
  (f_Tokens_digits o_this o_text 10).bind fun r1 =>
  (f_Bytes_get 8192 o_text r1.2.2.1).bind fun r2 =>
  if r2 = 35 then
    if (lg_cmp r1.1 16) = 0 then
      (f_Tokens_digits (r1.2.1, r1.2.2.1 + 1, r1.2.2.2) o_text r1.1.toInt32).bind fun r6 =>
      (f_Tokens_addNumber r6.2 o_text o_this.2.1 r6.1).bind fun r7 =>
      some r7
    else
      if (lg_cmp r1.1 2) = 0 then
        (f_Tokens_digits (r1.2.1, r1.2.2.1 + 1, r1.2.2.2) o_text r1.1.toInt32).bind fun r10 =>
        (f_Tokens_addNumber r10.2 o_text o_this.2.1 r10.1).bind fun r11 =>
        some r11
      else
        (f_Tokens_addNumber (r1.2.1, r1.2.2.1 + 1, r1.2.2.2) o_text o_this.2.1 (-1)).bind fun r9 =>
        some r9
  else
    (f_Tokens_addNumber r1.2 o_text o_this.2.1 r1.1).bind fun r4 =>
    some r4

def f_Tokens_placeRow (a1 : Int32) (a2 : Int32) : Option (Int32) :=
  if a1 = 73 then
    if a2 = 88 then
      if a2 = 88 then
        some 0
      else
        some (3 + 0)
    else
      if a2 = 87 then
        if a2 = 88 then
          some 0
        else
          some (3 + 0)
      else
        some (-1)
  else
    if a1 = 81 then
      if a2 = 88 then
        if a2 = 88 then
          some 1
        else
          some (3 + 1)
      else
        if a2 = 87 then
          if a2 = 88 then
            some 1
          else
            some (3 + 1)
        else
          some (-1)
    else
      if a1 = 77 then
        if a2 = 88 then
          if a2 = 88 then
            some 2
          else
            some (3 + 2)
        else
          if a2 = 87 then
            if a2 = 88 then
              some 2
            else
              some (3 + 2)
          else
            some (-1)
      else
        some (-1)

def f_Tokens_scanPlace (o_this : S_Tokens) (o_text : S_Bytes) : Option (S_Tokens) :=
  (f_Bytes_get 8192 o_text (o_this.2.1 + 1)).bind fun r1 =>
  (f_Top_great r1).bind fun r2 =>
  (f_Bytes_get 8192 o_text (o_this.2.1 + 2)).bind fun r3 =>
  (f_Top_great r3).bind fun r4 =>
  (f_Tokens_placeRow r2 r4).bind fun r5 =>
  (f_Tokens_digits (o_this.1, o_this.2.1 + 3, o_this.2.2) o_text 10).bind fun r6 =>
  if 3 ≤ r5 then
    if r5 = (-1) then
      (f_Tokens_add r6.2 5 o_this.2.1 5).bind fun r9 =>
      some r9
    else
      if (lg_cmp r6.1 (-1)) = 0 then
        (f_Tokens_add r6.2 5 o_this.2.1 5).bind fun r11 =>
        some r11
      else
        if 0 < (lg_cmp r6.1 ((63 : Int32).toInt64)) then
          (f_Tokens_add r6.2 5 o_this.2.1 5).bind fun r13 =>
          some r13
        else
          (f_Bytes_get 8192 o_text r6.2.2.1).bind fun r14 =>
          (f_Top_isNameByte r14).bind fun r15 =>
          if r15 = 0 then
            (f_Tokens_add r6.2 3 o_this.2.1 ((256 * r5) + r6.1.toInt32)).bind fun r17 =>
            some r17
          else
            (f_Tokens_add r6.2 5 o_this.2.1 5).bind fun r18 =>
            some r18
  else
    if r5 = (-1) then
      (f_Tokens_add r6.2 5 o_this.2.1 5).bind fun r20 =>
      some r20
    else
      if (lg_cmp r6.1 (-1)) = 0 then
        (f_Tokens_add r6.2 5 o_this.2.1 5).bind fun r22 =>
        some r22
      else
        if 0 < (lg_cmp r6.1 ((255 : Int32).toInt64)) then
          (f_Tokens_add r6.2 5 o_this.2.1 5).bind fun r24 =>
          some r24
        else
          (f_Bytes_get 8192 o_text r6.2.2.1).bind fun r25 =>
          (f_Top_isNameByte r25).bind fun r26 =>
          if r26 = 0 then
            (f_Tokens_add r6.2 3 o_this.2.1 ((256 * r5) + r6.1.toInt32)).bind fun r28 =>
            some r28
          else
            (f_Tokens_add r6.2 5 o_this.2.1 5).bind fun r29 =>
            some r29

def f_Tokens_isSignOfOne (a1 : Int32) : Option (Int32) :=
  if a1 = 38 then
    some 1
  else
  if a1 = 40 then
    some 1
  else
  if a1 = 41 then
    some 1
  else
  if a1 = 42 then
    some 1
  else
  if a1 = 43 then
    some 1
  else
  if a1 = 44 then
    some 1
  else
  if a1 = 45 then
    some 1
  else
  if a1 = 46 then
    some 1
  else
  if a1 = 47 then
    some 1
  else
  if a1 = 58 then
    some 1
  else
  if a1 = 59 then
    some 1
  else
  if a1 = 60 then
    some 1
  else
  if a1 = 61 then
    some 1
  else
  if a1 = 62 then
    some 1
  else
  if a1 = 91 then
    some 1
  else
  if a1 = 93 then
    some 1
  else
  if a1 = 124 then
    some 1
  else
  some 0

def f_Tokens_isSignOfTwo (a1 : Int32) : Option (Int32) :=
  if a1 = 14909 then
    some 1
  else
    if a1 = 11822 then
      some 1
    else
      if a1 = 15421 then
        some 1
      else
        if a1 = 15933 then
          some 1
        else
          if a1 = 15422 then
            some 1
          else
            some 0

def f_Tokens_scanSign (o_this : S_Tokens) (o_text : S_Bytes) : Option (S_Tokens) :=
  (f_Bytes_get 8192 o_text o_this.2.1).bind fun r1 =>
  (f_Bytes_get 8192 o_text (o_this.2.1 + 1)).bind fun r2 =>
  (f_Math_max 0 r2).bind fun r3 =>
  nm ((r1 <<< (8 &&& 31)) ||| r3) fun x4 =>
  (f_Tokens_isSignOfTwo x4).bind fun r5 =>
  if r5 = 0 then
    (f_Tokens_isSignOfOne r1).bind fun r7 =>
    if r7 = 0 then
      (f_Tokens_add o_this 5 o_this.2.1 1).bind fun r9 =>
      some r9
    else
      (f_Tokens_add (o_this.1, o_this.2.1 + 1, o_this.2.2) r1 o_this.2.1 0).bind fun r10 =>
      some r10
  else
    (f_Tokens_add (o_this.1, o_this.2.1 + 2, o_this.2.2) x4 o_this.2.1 0).bind fun r11 =>
    some r11

def f_Tokens_unit (o_this : S_Tokens) (o_text : S_Bytes) : Option (Int64 × S_Tokens) :=
  (f_Bytes_get 8192 o_text o_this.2.1).bind fun r1 =>
  (f_Top_great r1).bind fun r2 =>
  if r2 = 77 then
    (f_Bytes_get 8192 o_text (o_this.2.1 + 1)).bind fun r7 =>
    (f_Top_great r7).bind fun r8 =>
    if r8 = 83 then
      some (1, (o_this.1, o_this.2.1 + 2, o_this.2.2))
    else
      if r2 = 72 then
        some (3600000, (o_this.1, o_this.2.1 + 1, o_this.2.2))
      else
      if r2 = 77 then
        some (60000, (o_this.1, o_this.2.1 + 1, o_this.2.2))
      else
      if r2 = 83 then
        some (1000, (o_this.1, o_this.2.1 + 1, o_this.2.2))
      else
      some ((-1), (o_this.1, o_this.2.1 + 1, o_this.2.2))
  else
    if r2 = 72 then
      some (3600000, (o_this.1, o_this.2.1 + 1, o_this.2.2))
    else
    if r2 = 77 then
      some (60000, (o_this.1, o_this.2.1 + 1, o_this.2.2))
    else
    if r2 = 83 then
      some (1000, (o_this.1, o_this.2.1 + 1, o_this.2.2))
    else
    some ((-1), (o_this.1, o_this.2.1 + 1, o_this.2.2))

def f_Tokens_scanTime (o_this : S_Tokens) (o_text : S_Bytes) : Option (S_Tokens) :=
  (f_Tokens_digits (o_this.1, o_this.2.1 + 2, o_this.2.2) o_text 10).bind fun r1 =>
  (f_Tokens_unit r1.2 o_text).bind fun r2 =>
  if (lg_cmp r1.1 (-1)) = 0 then
    (f_Tokens_addNumber r2.2 o_text o_this.2.1 (-1)).bind fun r4 =>
    some r4
  else
    if (lg_cmp r2.1 (-1)) = 0 then
      (f_Tokens_addNumber r2.2 o_text o_this.2.1 (-1)).bind fun r7 =>
      some r7
    else
      (f_Tokens_addNumber r2.2 o_text o_this.2.1 (r1.1 * r2.1)).bind fun r6 =>
      some r6

def f_Tokens_endOfComment_L2 (o_text : S_Bytes) : Nat → Int32 → Option (Int32)
  | 0, _ => none
  | n + 1, v2_L2 =>
    if o_text.1 ≤ v2_L2 then
      some (-1)
    else
      (f_Bytes_get 8192 o_text v2_L2).bind fun r2 =>
      if r2 = 42 then
        (f_Bytes_get 8192 o_text (v2_L2 + 1)).bind fun r5 =>
        if r5 = 41 then
          some (v2_L2 + 2)
        else
          nm (v2_L2 + 1) fun x7 =>
          f_Tokens_endOfComment_L2 o_text n x7
      else
        nm (v2_L2 + 1) fun x4 =>
        f_Tokens_endOfComment_L2 o_text n x4
def f_Tokens_endOfComment (o_this : S_Tokens) (o_text : S_Bytes) (a1 : Int32) : Option (Int32) :=
  f_Tokens_endOfComment_L2 o_text FU a1

def f_Tokens_skipBlanks_L2 (o_text : S_Bytes) : Nat → Int32 → S_Tokens → Option (Int32 × S_Tokens)
  | 0, _, _ => none
  | n + 1, v1_L2, o_this_L2 =>
    if 8192 < v1_L2 then
      some (1, o_this_L2)
    else
      (f_Bytes_get 8192 o_text o_this_L2.2.1).bind fun r2 =>
      if r2 = 40 then
        (f_Bytes_get 8192 o_text (o_this_L2.2.1 + 1)).bind fun r12 =>
        if r12 = 42 then
          (f_Tokens_endOfComment o_this_L2 o_text (o_this_L2.2.1 + 2)).bind fun r22 =>
          if r22 = (-1) then
            some (0, o_this_L2)
          else
            nm (v1_L2 + 1) fun x24 =>
            f_Tokens_skipBlanks_L2 o_text n x24 (o_this_L2.1, r22, o_this_L2.2.2)
        else
          if r2 = 9 then
            nm (v1_L2 + 1) fun x15 =>
            f_Tokens_skipBlanks_L2 o_text n x15 (o_this_L2.1, o_this_L2.2.1 + 1, o_this_L2.2.2)
          else
            if r2 = 10 then
              nm (v1_L2 + 1) fun x17 =>
              f_Tokens_skipBlanks_L2 o_text n x17 (o_this_L2.1, o_this_L2.2.1 + 1, o_this_L2.2.2)
            else
              if r2 = 13 then
                nm (v1_L2 + 1) fun x19 =>
                f_Tokens_skipBlanks_L2 o_text n x19 (o_this_L2.1, o_this_L2.2.1 + 1, o_this_L2.2.2)
              else
                if r2 = 32 then
                  nm (v1_L2 + 1) fun x21 =>
                  f_Tokens_skipBlanks_L2 o_text n x21 (o_this_L2.1, o_this_L2.2.1 + 1, o_this_L2.2.2)
                else
                  some (1, o_this_L2)
      else
        if r2 = 9 then
          nm (v1_L2 + 1) fun x5 =>
          f_Tokens_skipBlanks_L2 o_text n x5 (o_this_L2.1, o_this_L2.2.1 + 1, o_this_L2.2.2)
        else
          if r2 = 10 then
            nm (v1_L2 + 1) fun x7 =>
            f_Tokens_skipBlanks_L2 o_text n x7 (o_this_L2.1, o_this_L2.2.1 + 1, o_this_L2.2.2)
          else
            if r2 = 13 then
              nm (v1_L2 + 1) fun x9 =>
              f_Tokens_skipBlanks_L2 o_text n x9 (o_this_L2.1, o_this_L2.2.1 + 1, o_this_L2.2.2)
            else
              if r2 = 32 then
                nm (v1_L2 + 1) fun x11 =>
                f_Tokens_skipBlanks_L2 o_text n x11 (o_this_L2.1, o_this_L2.2.1 + 1, o_this_L2.2.2)
              else
                some (1, o_this_L2)
def f_Tokens_skipBlanks (o_this : S_Tokens) (o_text : S_Bytes) : Option (Int32 × S_Tokens) :=
  f_Tokens_skipBlanks_L2 o_text FU 0 o_this

def f_Tokens_scanToken (o_this : S_Tokens) (o_text : S_Bytes) (o_names : S_Names) : Option (S_Tokens × S_Names) :=
  (f_Tokens_skipBlanks o_this o_text).bind fun r1 =>
  (f_Bytes_get 8192 o_text r1.2.2.1).bind fun r2 =>
  if r1.1 = 0 then
    (f_Tokens_add r1.2 5 r1.2.2.1 2).bind fun r29 =>
    some (r29, o_names)
  else
    if r2 = (-1) then
      (f_Tokens_add r1.2 4 r1.2.2.1 0).bind fun r28 =>
      some (r28, o_names)
    else
      (f_Top_great r2).bind fun r5 =>
      if r5 = 84 then
        (f_Bytes_get 8192 o_text (r1.2.2.1 + 1)).bind fun r16 =>
        if r16 = 35 then
          (f_Tokens_scanTime r1.2 o_text).bind fun r27 =>
          some (r27, o_names)
        else
          (f_Top_isDigit r2).bind fun r18 =>
          if r18 = 0 then
            (f_Top_isNameByte r2).bind fun r20 =>
            if r20 = 0 then
              if r2 = 37 then
                (f_Tokens_scanPlace r1.2 o_text).bind fun r24 =>
                some (r24, o_names)
              else
                (f_Tokens_scanSign r1.2 o_text).bind fun r23 =>
                some (r23, o_names)
            else
              (f_Tokens_scanName r1.2 o_text o_names).bind fun r25 =>
              some (r25.1, r25.2)
          else
            (f_Tokens_scanNumber r1.2 o_text).bind fun r26 =>
            some (r26, o_names)
      else
        (f_Top_isDigit r2).bind fun r7 =>
        if r7 = 0 then
          (f_Top_isNameByte r2).bind fun r9 =>
          if r9 = 0 then
            if r2 = 37 then
              (f_Tokens_scanPlace r1.2 o_text).bind fun r13 =>
              some (r13, o_names)
            else
              (f_Tokens_scanSign r1.2 o_text).bind fun r12 =>
              some (r12, o_names)
          else
            (f_Tokens_scanName r1.2 o_text o_names).bind fun r14 =>
            some (r14.1, r14.2)
        else
          (f_Tokens_scanNumber r1.2 o_text).bind fun r15 =>
          some (r15, o_names)

def f_Tokens_scan_L21 (o_text : S_Bytes) : Nat → Int32 → Int32 → S_Tokens → S_Names → Option (S_Tokens × S_Names)
  | 0, _, _, _, _ => none
  | n + 1, v2_L21, v1_L21, o_this_L21, o_names_L21 =>
    if v1_L21 = 0 then
      some (o_this_L21, o_names_L21)
    else
      if 8193 ≤ v2_L21 then
        some (o_this_L21, o_names_L21)
      else
        (f_Tokens_scanToken o_this_L21 o_text o_names_L21).bind fun r4 =>
        (f_Tokens_kind r4.1 (r4.1.1 - 1)).bind fun r5 =>
        if r5 = 4 then
          nm (v2_L21 + 1) fun x7 =>
          f_Tokens_scan_L21 o_text n x7 0 r4.1 r4.2
        else
          if r5 = 5 then
            nm (v2_L21 + 1) fun x9 =>
            f_Tokens_scan_L21 o_text n x9 0 r4.1 r4.2
          else
            nm (v2_L21 + 1) fun x10 =>
            f_Tokens_scan_L21 o_text n x10 1 r4.1 r4.2
def f_Tokens_scan (o_this : S_Tokens) (o_text : S_Bytes) (o_names : S_Names) : Option (S_Tokens × S_Names) :=
  (f_Names_forget o_names).bind fun r1 =>
  (f_Tokens_scan_L21 o_text FU 0 1 (0, 0, o_this.2.2) r1).bind fun r11 =>
  some (r11.1, r11.2)
end
section
set_option maxHeartbeats 4000000 in
set_option maxRecDepth 100000 in
theorem c_Tokens_kind (l : Launch) (D : va_G) (cI : ClassId) (sd : Nat → Nat) (ad : Nat → Nat) (o_this : S_Tokens) (a1 : Int32) (res : Int32) (hM : f_Tokens_kind o_this a1 = some res) : Ctr l D cI sd yX2_kind (wsM yX2_kind cX2_kind 2 (Option.some Jvm.ClassFile.FieldType.int)) { frames := 0, cells := 0, slots := 0, locals := 0 } [.ref (ad 10), .int a1] (wK cI ad o_this) (wK cI ad o_this) (some (.int res)) := by
  refine Ctr.of (cc := cX2_kind) (maxL := 2) (own := RX2) (by decide +kernel) rfl rfl (Nat.le_of_ble_eq_true rfl) ?_
  intro p e s m below meth c A ls hx hb hr hml hown hts hlk hK hE hA hP hD hS hl
  have hl : lv_has ls 2 [(0, .ref (ad 10)), (1, .int a1)] := hl
  unfold f_Tokens_kind at hM
  refine lv_iload_n hx hb dX2_kind_0 rfl (lv_at hl 1 rfl) ?_
  refine lv_if_lt (tgt := 28) hx hb dX2_kind_1 (by decide) (fun c1 => ?_) (fun c1 => ?_)
  · replace hM := if_t c1 hM
    refine lv_bipush (v := 6) hx hb dX2_kind_28 (by decide) ?_
    cases hM
    exact rt_i hx hb hr hlk hP hD hS rfl dX2_kind_30
  · replace hM := if_f c1 hM
    refine lv_iload_n hx hb dX2_kind_4 rfl (lv_at hl 1 rfl) ?_
    refine lv_aload_n hx hb dX2_kind_5 rfl (lv_at hl 0 rfl) ?_
    refine va_get (D := D) (ci := 2) (v := .int o_this.1) (C := RX2) (T := TX2) (N := 7) hx hb hts layX2 hown hK hP 0 rfl rfl 5 (by decide) (hts _ (inA q339)) (fun _ h9 => h9) rfl dX2_kind_6 ?_
    refine lv_icmp_ge (tgt := 28) hx hb dX2_kind_9 (by decide) (fun c2 => ?_) (fun c2 => ?_)
    · replace hM := if_t c2 hM
      refine lv_bipush (v := 6) hx hb dX2_kind_28 (by decide) ?_
      cases hM
      exact rt_i hx hb hr hlk hP hD hS rfl dX2_kind_30
    · replace hM := if_f c2 hM
      refine lv_iload_n hx hb dX2_kind_12 rfl (lv_at hl 1 rfl) ?_
      refine lv_sipush (v := 8193) hx hb dX2_kind_13 (by decide) ?_
      refine lv_icmp_ge (tgt := 28) hx hb dX2_kind_16 (by decide) (fun c3 => ?_) (fun c3 => ?_)
      · replace hM := if_t c3 hM
        refine lv_bipush (v := 6) hx hb dX2_kind_28 (by decide) ?_
        cases hM
        exact rt_i hx hb hr hlk hP hD hS rfl dX2_kind_30
      · replace hM := if_f c3 hM
        refine lv_aload_n hx hb dX2_kind_19 rfl (lv_at hl 0 rfl) ?_
        refine va_get (D := D) (ci := 2) (v := .ref (ad 11)) (C := RX2) (T := TX2) (N := 7) hx hb hts layX2 hown hK hP 0 rfl rfl 2 (by decide) (hts _ (inA q333)) (fun _ h9 => h9) rfl dX2_kind_20 ?_
        refine lv_iload_n hx hb dX2_kind_23 rfl (lv_at hl 1 rfl) ?_
        obtain ⟨b4, hM⟩ := gd_use hM
        refine va_iald hx hb hK hP 1 0 rfl rfl b4 dX2_kind_24 ?_
        refine lv_goto (tgt := 30) hx hb dX2_kind_25 (by decide) ?_
        cases hM
        exact rt_i hx hb hr hlk hP hD hS rfl dX2_kind_30

set_option maxHeartbeats 4000000 in
set_option maxRecDepth 100000 in
theorem c_Tokens_place (l : Launch) (D : va_G) (cI : ClassId) (sd : Nat → Nat) (ad : Nat → Nat) (o_this : S_Tokens) (a1 : Int32) (res : Int32) (hM : f_Tokens_place o_this a1 = some res) : Ctr l D cI sd yX2_place (wsM yX2_place cX2_place 2 (Option.some Jvm.ClassFile.FieldType.int)) { frames := 0, cells := 0, slots := 0, locals := 0 } [.ref (ad 10), .int a1] (wK cI ad o_this) (wK cI ad o_this) (some (.int res)) := by
  refine Ctr.of (cc := cX2_place) (maxL := 2) (own := RX2) (by decide +kernel) rfl rfl (Nat.le_of_ble_eq_true rfl) ?_
  intro p e s m below meth c A ls hx hb hr hml hown hts hlk hK hE hA hP hD hS hl
  have hl : lv_has ls 2 [(0, .ref (ad 10)), (1, .int a1)] := hl
  unfold f_Tokens_place at hM
  refine lv_iload_n hx hb dX2_place_0 rfl (lv_at hl 1 rfl) ?_
  refine lv_if_lt (tgt := 28) hx hb dX2_place_1 (by decide) (fun c1 => ?_) (fun c1 => ?_)
  · replace hM := if_t c1 hM
    refine lv_iconst (v := (-1)) hx hb dX2_place_28 (by decide) ?_
    cases hM
    exact rt_i hx hb hr hlk hP hD hS rfl dX2_place_29
  · replace hM := if_f c1 hM
    refine lv_iload_n hx hb dX2_place_4 rfl (lv_at hl 1 rfl) ?_
    refine lv_aload_n hx hb dX2_place_5 rfl (lv_at hl 0 rfl) ?_
    refine va_get (D := D) (ci := 2) (v := .int o_this.1) (C := RX2) (T := TX2) (N := 7) hx hb hts layX2 hown hK hP 0 rfl rfl 5 (by decide) (hts _ (inA q339)) (fun _ h9 => h9) rfl dX2_place_6 ?_
    refine lv_icmp_ge (tgt := 28) hx hb dX2_place_9 (by decide) (fun c2 => ?_) (fun c2 => ?_)
    · replace hM := if_t c2 hM
      refine lv_iconst (v := (-1)) hx hb dX2_place_28 (by decide) ?_
      cases hM
      exact rt_i hx hb hr hlk hP hD hS rfl dX2_place_29
    · replace hM := if_f c2 hM
      refine lv_iload_n hx hb dX2_place_12 rfl (lv_at hl 1 rfl) ?_
      refine lv_sipush (v := 8193) hx hb dX2_place_13 (by decide) ?_
      refine lv_icmp_ge (tgt := 28) hx hb dX2_place_16 (by decide) (fun c3 => ?_) (fun c3 => ?_)
      · replace hM := if_t c3 hM
        refine lv_iconst (v := (-1)) hx hb dX2_place_28 (by decide) ?_
        cases hM
        exact rt_i hx hb hr hlk hP hD hS rfl dX2_place_29
      · replace hM := if_f c3 hM
        refine lv_aload_n hx hb dX2_place_19 rfl (lv_at hl 0 rfl) ?_
        refine va_get (D := D) (ci := 2) (v := .ref (ad 12)) (C := RX2) (T := TX2) (N := 7) hx hb hts layX2 hown hK hP 0 rfl rfl 3 (by decide) (hts _ (inA q335)) (fun _ h9 => h9) rfl dX2_place_20 ?_
        refine lv_iload_n hx hb dX2_place_23 rfl (lv_at hl 1 rfl) ?_
        obtain ⟨b4, hM⟩ := gd_use hM
        refine va_iald hx hb hK hP 2 0 rfl rfl b4 dX2_place_24 ?_
        refine lv_goto (tgt := 29) hx hb dX2_place_25 (by decide) ?_
        cases hM
        exact rt_i hx hb hr hlk hP hD hS rfl dX2_place_29

set_option maxHeartbeats 4000000 in
set_option maxRecDepth 100000 in
theorem c_Tokens_value (l : Launch) (D : va_G) (cI : ClassId) (sd : Nat → Nat) (ad : Nat → Nat) (o_this : S_Tokens) (a1 : Int32) (res : Int32) (hM : f_Tokens_value o_this a1 = some res) : Ctr l D cI sd yX2_value (wsM yX2_value cX2_value 2 (Option.some Jvm.ClassFile.FieldType.int)) { frames := 0, cells := 0, slots := 0, locals := 0 } [.ref (ad 10), .int a1] (wK cI ad o_this) (wK cI ad o_this) (some (.int res)) := by
  refine Ctr.of (cc := cX2_value) (maxL := 2) (own := RX2) (by decide +kernel) rfl rfl (Nat.le_of_ble_eq_true rfl) ?_
  intro p e s m below meth c A ls hx hb hr hml hown hts hlk hK hE hA hP hD hS hl
  have hl : lv_has ls 2 [(0, .ref (ad 10)), (1, .int a1)] := hl
  unfold f_Tokens_value at hM
  refine lv_iload_n hx hb dX2_value_0 rfl (lv_at hl 1 rfl) ?_
  refine lv_if_lt (tgt := 28) hx hb dX2_value_1 (by decide) (fun c1 => ?_) (fun c1 => ?_)
  · replace hM := if_t c1 hM
    refine lv_iconst (v := 0) hx hb dX2_value_28 (by decide) ?_
    cases hM
    exact rt_i hx hb hr hlk hP hD hS rfl dX2_value_29
  · replace hM := if_f c1 hM
    refine lv_iload_n hx hb dX2_value_4 rfl (lv_at hl 1 rfl) ?_
    refine lv_aload_n hx hb dX2_value_5 rfl (lv_at hl 0 rfl) ?_
    refine va_get (D := D) (ci := 2) (v := .int o_this.1) (C := RX2) (T := TX2) (N := 7) hx hb hts layX2 hown hK hP 0 rfl rfl 5 (by decide) (hts _ (inA q339)) (fun _ h9 => h9) rfl dX2_value_6 ?_
    refine lv_icmp_ge (tgt := 28) hx hb dX2_value_9 (by decide) (fun c2 => ?_) (fun c2 => ?_)
    · replace hM := if_t c2 hM
      refine lv_iconst (v := 0) hx hb dX2_value_28 (by decide) ?_
      cases hM
      exact rt_i hx hb hr hlk hP hD hS rfl dX2_value_29
    · replace hM := if_f c2 hM
      refine lv_iload_n hx hb dX2_value_12 rfl (lv_at hl 1 rfl) ?_
      refine lv_sipush (v := 8193) hx hb dX2_value_13 (by decide) ?_
      refine lv_icmp_ge (tgt := 28) hx hb dX2_value_16 (by decide) (fun c3 => ?_) (fun c3 => ?_)
      · replace hM := if_t c3 hM
        refine lv_iconst (v := 0) hx hb dX2_value_28 (by decide) ?_
        cases hM
        exact rt_i hx hb hr hlk hP hD hS rfl dX2_value_29
      · replace hM := if_f c3 hM
        refine lv_aload_n hx hb dX2_value_19 rfl (lv_at hl 0 rfl) ?_
        refine va_get (D := D) (ci := 2) (v := .ref (ad 13)) (C := RX2) (T := TX2) (N := 7) hx hb hts layX2 hown hK hP 0 rfl rfl 4 (by decide) (hts _ (inA q337)) (fun _ h9 => h9) rfl dX2_value_20 ?_
        refine lv_iload_n hx hb dX2_value_23 rfl (lv_at hl 1 rfl) ?_
        obtain ⟨b4, hM⟩ := gd_use hM
        refine va_iald hx hb hK hP 3 0 rfl rfl b4 dX2_value_24 ?_
        refine lv_goto (tgt := 29) hx hb dX2_value_25 (by decide) ?_
        cases hM
        exact rt_i hx hb hr hlk hP hD hS rfl dX2_value_29

set_option maxHeartbeats 4000000 in
set_option maxRecDepth 100000 in
theorem c_Tokens_add (l : Launch) (D : va_G) (cI : ClassId) (sd : Nat → Nat) (ad : Nat → Nat) (o_this : S_Tokens) (a1 : Int32) (a2 : Int32) (a3 : Int32) (res : S_Tokens) (hM : f_Tokens_add o_this a1 a2 a3 = some res) : Ctr l D cI sd yX2_add (wsM yX2_add cX2_add 4 (Option.none : Option Jvm.ClassFile.FieldType)) { frames := 0, cells := 0, slots := 0, locals := 0 } [.ref (ad 10), .int a1, .int a2, .int a3] (wK cI ad o_this) (wK cI ad res) none := by
  refine Ctr.of (cc := cX2_add) (maxL := 4) (own := RX2) (by decide +kernel) rfl rfl (Nat.le_of_ble_eq_true rfl) ?_
  intro p e s m below meth c A ls hx hb hr hml hown hts hlk hK hE hA hP hD hS hl
  have hl : lv_has ls 4 [(0, .ref (ad 10)), (1, .int a1), (2, .int a2), (3, .int a3)] := hl
  unfold f_Tokens_add at hM
  refine lv_aload_n hx hb dX2_add_0 rfl (lv_at hl 0 rfl) ?_
  refine va_get (D := D) (ci := 2) (v := .int o_this.1) (C := RX2) (T := TX2) (N := 7) hx hb hts layX2 hown hK hP 0 rfl rfl 5 (by decide) (hts _ (inA q339)) (fun _ h9 => h9) rfl dX2_add_1 ?_
  refine lv_if_lt (tgt := 57) hx hb dX2_add_4 (by decide) (fun c1 => ?_) (fun c1 => ?_)
  · replace hM := if_t c1 hM
    cases hM
    exact rt_v hx hb hr hlk hP hD hS rfl dX2_add_57
  · replace hM := if_f c1 hM
    refine lv_aload_n hx hb dX2_add_7 rfl (lv_at hl 0 rfl) ?_
    refine va_get (D := D) (ci := 2) (v := .int o_this.1) (C := RX2) (T := TX2) (N := 7) hx hb hts layX2 hown hK hP 0 rfl rfl 5 (by decide) (hts _ (inA q339)) (fun _ h9 => h9) rfl dX2_add_8 ?_
    refine lv_sipush (v := 8193) hx hb dX2_add_11 (by decide) ?_
    refine lv_icmp_ge (tgt := 57) hx hb dX2_add_14 (by decide) (fun c2 => ?_) (fun c2 => ?_)
    · replace hM := if_t c2 hM
      cases hM
      exact rt_v hx hb hr hlk hP hD hS rfl dX2_add_57
    · replace hM := if_f c2 hM
      refine lv_aload_n hx hb dX2_add_17 rfl (lv_at hl 0 rfl) ?_
      refine va_get (D := D) (ci := 2) (v := .ref (ad 11)) (C := RX2) (T := TX2) (N := 7) hx hb hts layX2 hown hK hP 0 rfl rfl 2 (by decide) (hts _ (inA q333)) (fun _ h9 => h9) rfl dX2_add_18 ?_
      refine lv_aload_n hx hb dX2_add_21 rfl (lv_at hl 0 rfl) ?_
      refine va_get (D := D) (ci := 2) (v := .int o_this.1) (C := RX2) (T := TX2) (N := 7) hx hb hts layX2 hown hK hP 0 rfl rfl 5 (by decide) (hts _ (inA q339)) (fun _ h9 => h9) rfl dX2_add_22 ?_
      refine lv_iload_n hx hb dX2_add_25 rfl (lv_at hl 1 rfl) ?_
      obtain ⟨b3, hM⟩ := gd_use hM
      refine va_iast hx hb hK hP hD hS 1 0 rfl rfl b3 dX2_add_26 (fun H locs hP hD hS => ?_)
      have hP : va_P D vwCl (wK cI ad (o_this.1, o_this.2.1, upd o_this.2.2.1 o_this.1.toNatClampNeg a1, o_this.2.2.2)) H := hP
      have hD : va_D A (wK cI ad (o_this.1, o_this.2.1, upd o_this.2.2.1 o_this.1.toNatClampNeg a1, o_this.2.2.2)) := hD
      refine lv_aload_n hx hb dX2_add_27 rfl (lv_at hl 0 rfl) ?_
      refine va_get (D := D) (ci := 2) (v := .ref (ad 12)) (C := RX2) (T := TX2) (N := 7) hx hb hts layX2 hown hK hP 0 rfl rfl 3 (by decide) (hts _ (inA q335)) (fun _ h9 => h9) rfl dX2_add_28 ?_
      refine lv_aload_n hx hb dX2_add_31 rfl (lv_at hl 0 rfl) ?_
      refine va_get (D := D) (ci := 2) (v := .int o_this.1) (C := RX2) (T := TX2) (N := 7) hx hb hts layX2 hown hK hP 0 rfl rfl 5 (by decide) (hts _ (inA q339)) (fun _ h9 => h9) rfl dX2_add_32 ?_
      refine lv_iload_n hx hb dX2_add_35 rfl (lv_at hl 2 rfl) ?_
      obtain ⟨b4, hM⟩ := gd_use hM
      refine va_iast hx hb hK hP hD hS 2 0 rfl rfl b4 dX2_add_36 (fun H locs hP hD hS => ?_)
      have hP : va_P D vwCl (wK cI ad (o_this.1, o_this.2.1, upd o_this.2.2.1 o_this.1.toNatClampNeg a1, upd o_this.2.2.2.1 o_this.1.toNatClampNeg a2, o_this.2.2.2.2)) H := hP
      have hD : va_D A (wK cI ad (o_this.1, o_this.2.1, upd o_this.2.2.1 o_this.1.toNatClampNeg a1, upd o_this.2.2.2.1 o_this.1.toNatClampNeg a2, o_this.2.2.2.2)) := hD
      refine lv_aload_n hx hb dX2_add_37 rfl (lv_at hl 0 rfl) ?_
      refine va_get (D := D) (ci := 2) (v := .ref (ad 13)) (C := RX2) (T := TX2) (N := 7) hx hb hts layX2 hown hK hP 0 rfl rfl 4 (by decide) (hts _ (inA q337)) (fun _ h9 => h9) rfl dX2_add_38 ?_
      refine lv_aload_n hx hb dX2_add_41 rfl (lv_at hl 0 rfl) ?_
      refine va_get (D := D) (ci := 2) (v := .int o_this.1) (C := RX2) (T := TX2) (N := 7) hx hb hts layX2 hown hK hP 0 rfl rfl 5 (by decide) (hts _ (inA q339)) (fun _ h9 => h9) rfl dX2_add_42 ?_
      refine lv_iload_n hx hb dX2_add_45 rfl (lv_at hl 3 rfl) ?_
      obtain ⟨b5, hM⟩ := gd_use hM
      refine va_iast hx hb hK hP hD hS 3 0 rfl rfl b5 dX2_add_46 (fun H locs hP hD hS => ?_)
      have hP : va_P D vwCl (wK cI ad (o_this.1, o_this.2.1, upd o_this.2.2.1 o_this.1.toNatClampNeg a1, upd o_this.2.2.2.1 o_this.1.toNatClampNeg a2, upd o_this.2.2.2.2 o_this.1.toNatClampNeg a3)) H := hP
      have hD : va_D A (wK cI ad (o_this.1, o_this.2.1, upd o_this.2.2.1 o_this.1.toNatClampNeg a1, upd o_this.2.2.2.1 o_this.1.toNatClampNeg a2, upd o_this.2.2.2.2 o_this.1.toNatClampNeg a3)) := hD
      refine lv_aload_n hx hb dX2_add_47 rfl (lv_at hl 0 rfl) ?_
      refine lv_dup hx hb dX2_add_48 rfl ?_
      refine va_get (D := D) (ci := 2) (v := .int o_this.1) (C := RX2) (T := TX2) (N := 7) hx hb hts layX2 hown hK hP 0 rfl rfl 5 (by decide) (hts _ (inA q339)) (fun _ h9 => h9) rfl dX2_add_49 ?_
      refine lv_iconst (v := 1) hx hb dX2_add_52 (by decide) ?_
      refine lv_iadd hx hb dX2_add_53 ?_
      refine va_put (D := D) (ci := 2) (v := .int (o_this.1 + 1)) (ty := .int) (C := RX2) (T := TX2) (N := 7) hx hb hts layX2 tyX2 tyX2_ok nmX2 hown hK hP hD hS 0 rfl rfl 5 (by decide) (hts _ (inA q339)) (fun _ h9 => h9) rfl (by decide +kernel) rfl rfl (Nat.le_of_ble_eq_true rfl) dX2_add_54 (fun H locs hP hD hS => ?_)
      have hP : va_P D vwCl (wK cI ad (o_this.1 + 1, o_this.2.1, upd o_this.2.2.1 o_this.1.toNatClampNeg a1, upd o_this.2.2.2.1 o_this.1.toNatClampNeg a2, upd o_this.2.2.2.2 o_this.1.toNatClampNeg a3)) H := hP
      have hD : va_D A (wK cI ad (o_this.1 + 1, o_this.2.1, upd o_this.2.2.1 o_this.1.toNatClampNeg a1, upd o_this.2.2.2.1 o_this.1.toNatClampNeg a2, upd o_this.2.2.2.2 o_this.1.toNatClampNeg a3)) := hD
      cases hM
      exact rt_v hx hb hr hlk hP hD hS rfl dX2_add_57

set_option maxHeartbeats 4000000 in
set_option maxRecDepth 100000 in
theorem c_Tokens_scanName (l : Launch) (D : va_G) (cI : ClassId) (sd : Nat → Nat) (ad : Nat → Nat) (o_this : S_Tokens) (o_text : S_Bytes) (o_names : S_Names) (res : S_Tokens × S_Names) (hM : f_Tokens_scanName o_this o_text o_names = some res) : Ctr l D cI sd yX2_scanName (wsM yX2_scanName cX2_scanName 3 (Option.none : Option Jvm.ClassFile.FieldType)) { frames := 3, cells := 0, slots := 0, locals := 69 } [.ref (ad 10)] (wK cI ad o_this ++ wB cI (ad 1) (ad 2) 8192 o_text ++ wN cI ad o_names) (wK cI ad res.1 ++ wB cI (ad 1) (ad 2) 8192 o_text ++ wN cI ad res.2) none := by
  refine Ctr.of (cc := cX2_scanName) (maxL := 3) (own := RX2) (by decide +kernel) rfl rfl (Nat.le_of_ble_eq_true rfl) ?_
  intro p e s m below meth c A ls hx hb hr hml hown hts hlk hK hE hA hP hD hS hl
  have hl : lv_has ls 3 [(0, .ref (ad 10))] := hl
  unfold f_Tokens_scanName at hM
  refine lv_aload_n hx hb dX2_scanName_0 rfl (lv_at hl 0 rfl) ?_
  refine va_get (D := D) (ci := 2) (v := .int o_this.2.1) (C := RX2) (T := TX2) (N := 7) hx hb hts layX2 hown hK hP 0 rfl rfl 6 (by decide) (hts _ (inA q341)) (fun _ h9 => h9) rfl dX2_scanName_1 ?_
  refine lv_istore_n (lv' := [(1, .int o_this.2.1), (0, .ref (ad 10))]) hx hb dX2_scanName_4 rfl hl (by decide) rfl (fun ls hl => ?_)
  refine lv_iconst (v := 0) hx hb dX2_scanName_5 (by decide) ?_
  refine lv_istore_n (lv' := [(2, .int 0), (1, .int o_this.2.1), (0, .ref (ad 10))]) hx hb dX2_scanName_6 rfl hl (by decide) rfl (fun ls hl => ?_)
  have lp_L7 : ∀ (n : Nat) (v2_L7 : Int32) (o_this_L7 : S_Tokens) (out_L7 : S_Tokens) (H : Heap) (locs : List Loc) (ls : Array Slot), f_Tokens_scanName_L7 o_text n v2_L7 o_this_L7 = some out_L7 → va_P D vwCl (wK cI ad o_this_L7 ++ wB cI (ad 1) (ad 2) 8192 o_text ++ wN cI ad o_names) H → va_D A (wK cI ad o_this_L7 ++ wB cI (ad 1) (ad 2) 8192 o_text ++ wN cI ad o_names) → va_S A s.heap H locs → lv_has ls 3 [(2, .int v2_L7), (1, .int o_this.2.1), (0, .ref (ad 10))] → (∀ (H : Heap) (locs : List Loc) (ls : Array Slot), va_P D vwCl (wK cI ad out_L7 ++ wB cI (ad 1) (ad 2) 8192 o_text ++ wN cI ad o_names) H → va_D A (wK cI ad out_L7 ++ wB cI (ad 1) (ad 2) 8192 o_text ++ wN cI ad o_names) → va_S A s.heap H locs → lv_has ls 3 [(1, .int o_this.2.1), (0, .ref (ad 10))] → W p l e { frames := 3, cells := 0, slots := 0, locals := 69 } s m [.ref (ad 10)].toArray below meth c H locs 0 0 (MQ below (CQ D A (wK cI ad res.1 ++ wB cI (ad 1) (ad 2) 8192 o_text ++ wN cI ad res.2) none) [.ref (ad 10)].toArray s 0 0 A) (F0 m 47 ls [])) → W p l e { frames := 3, cells := 0, slots := 0, locals := 69 } s m [.ref (ad 10)].toArray below meth c H locs 0 0 (MQ below (CQ D A (wK cI ad res.1 ++ wB cI (ad 1) (ad 2) 8192 o_text ++ wN cI ad res.2) none) [.ref (ad 10)].toArray s 0 0 A) (F0 m 7 ls []) := by
    intro n
    induction n with
    | zero => intro v2_L7 o_this_L7 out_L7 H locs ls hM; exact absurd (show none = some _ from hM) (by simp)
    | succ n ih_L7 =>
      intro v2_L7 o_this_L7 out_L7 H locs ls hM hP hD hS hl kx_L7
      rw [f_Tokens_scanName_L7] at hM
      refine lv_iload_n hx hb dX2_scanName_7 rfl (lv_at hl 0 rfl) ?_
      refine lv_sipush (v := 8192) hx hb dX2_scanName_8 (by decide) ?_
      refine lv_icmp_ge (tgt := 47) hx hb dX2_scanName_11 (by decide) (fun c1 => ?_) (fun c1 => ?_)
      · replace hM := if_t c1 hM
        cases hM
        exact kx_L7 _ _ _ hP hD hS (lv_sub hl [1, 2] rfl)
      · replace hM := if_f c1 hM
        refine lv_aload_n hx hb dX2_scanName_14 rfl (lv_at hl 2 rfl) ?_
        refine va_get (D := D) (ci := 2) (v := .ref (ad 1)) (C := RX2) (T := TX2) (N := 7) hx hb hts layX2 hown hK hP 0 rfl rfl 0 (by decide) (hts _ (inA q331)) (fun _ h9 => h9) rfl dX2_scanName_15 ?_
        refine lv_aload_n hx hb dX2_scanName_18 rfl (lv_at hl 2 rfl) ?_
        refine va_get (D := D) (ci := 2) (v := .int o_this_L7.2.1) (C := RX2) (T := TX2) (N := 7) hx hb hts layX2 hown hK hP 0 rfl rfl 6 (by decide) (hts _ (inA q341)) (fun _ h9 => h9) rfl dX2_scanName_19 ?_
        obtain ⟨r2, hcr2, hM⟩ := ob_use hM
        refine cl_V (As := [.int o_this_L7.2.1]) (rest := []) (wK cI ad o_this_L7 ++ wB cI (ad 1) (ad 2) 8192 o_text ++ wN cI ad o_names) (.int r2 :: []) ⟨hx, hb, hml, hown, hts⟩ (c_Bytes_get l D cI sd (ad 1) (ad 2) 8192 o_text o_this_L7.2.1 r2 hcr2) (cwV2 hts q530 mvX0_get rfl rfl ⟨(Nat.le_of_ble_eq_true rfl), (Nat.le_of_ble_eq_true rfl)⟩) hK hE hA hP hD hS 4 (T := TX0) (N := 2) (ci := 0) rfl rfl [4, 5] rfl (by decide) rfl rfl rfl rfl rfl rfl hl.1 (Nat.le_of_ble_eq_true rfl) dX2_scanName_22 ⟨Nat.zero_le _, Nat.zero_le _⟩ (fun H locs hP hD hS => ?_)
        obtain ⟨r3, hcr3, hM⟩ := ob_use hM
        refine cl_SN (As := [.int r2]) (rest := []) (wK cI ad o_this_L7 ++ wB cI (ad 1) (ad 2) 8192 o_text ++ wN cI ad o_names) (.int r3 :: []) ⟨hx, hb, hml, hown, hts⟩ (c_Top_isNameByte l D cI sd ad r2 r3 hcr3) (cwSN2 hts (nmE4 hE) mvX6_isNameByte rfl rfl ⟨(Nat.le_of_ble_eq_true rfl), (Nat.le_of_ble_eq_true rfl)⟩) hK hE hA hP hD hS [] rfl (by decide) rfl rfl rfl rfl rfl rfl hl.1 (Nat.le_of_ble_eq_true rfl) dX2_scanName_25 ⟨Nat.zero_le _, Nat.zero_le _⟩ (fun H locs hP hD hS => ?_)
        refine lv_if_eq (tgt := 47) hx hb dX2_scanName_28 (by decide) (fun c4 => ?_) (fun c4 => ?_)
        · replace hM := if_t c4 hM
          cases hM
          exact kx_L7 _ _ _ hP hD hS (lv_sub hl [1, 2] rfl)
        · replace hM := if_f c4 hM
          refine lv_aload_n hx hb dX2_scanName_31 rfl (lv_at hl 2 rfl) ?_
          refine lv_dup hx hb dX2_scanName_32 rfl ?_
          refine va_get (D := D) (ci := 2) (v := .int o_this_L7.2.1) (C := RX2) (T := TX2) (N := 7) hx hb hts layX2 hown hK hP 0 rfl rfl 6 (by decide) (hts _ (inA q341)) (fun _ h9 => h9) rfl dX2_scanName_33 ?_
          refine lv_iconst (v := 1) hx hb dX2_scanName_36 (by decide) ?_
          refine lv_iadd hx hb dX2_scanName_37 ?_
          refine va_put (D := D) (ci := 2) (v := .int (o_this_L7.2.1 + 1)) (ty := .int) (C := RX2) (T := TX2) (N := 7) hx hb hts layX2 tyX2 tyX2_ok nmX2 hown hK hP hD hS 0 rfl rfl 6 (by decide) (hts _ (inA q341)) (fun _ h9 => h9) rfl (by decide +kernel) rfl rfl (Nat.le_of_ble_eq_true rfl) dX2_scanName_38 (fun H locs hP hD hS => ?_)
          have hP : va_P D vwCl (wK cI ad (o_this_L7.1, o_this_L7.2.1 + 1, o_this_L7.2.2) ++ wB cI (ad 1) (ad 2) 8192 o_text ++ wN cI ad o_names) H := hP
          have hD : va_D A (wK cI ad (o_this_L7.1, o_this_L7.2.1 + 1, o_this_L7.2.2) ++ wB cI (ad 1) (ad 2) 8192 o_text ++ wN cI ad o_names) := hD
          obtain ⟨x5, ex5⟩ : ∃ y : Int32, y = v2_L7 + 1 := ⟨_, rfl⟩
          replace hM := nm_use ex5 hM
          refine lv_iinc (v := x5) (lv' := [(2, .int x5), (1, .int o_this.2.1), (0, .ref (ad 10))]) hx hb dX2_scanName_41 hl (k := 0) rfl (by rw [ex5]; rfl) (by decide) rfl (fun ls hl => ?_)
          refine lv_goto (tgt := 7) hx hb dX2_scanName_44 (by decide) ?_
          exact ih_L7 x5 (o_this_L7.1, o_this_L7.2.1 + 1, o_this_L7.2.2) out_L7 _ _ _ hM hP hD hS (lv_sub hl [0, 1, 2] rfl) kx_L7
  obtain ⟨r6, hcr6, hM⟩ := ob_use hM
  refine lp_L7 FU 0 o_this r6 _ _ _ hcr6 hP hD hS (lv_sub hl [0, 1, 2] rfl) (fun H locs ls hP hD hS hl => ?_)
  refine lv_aload_n hx hb dX2_scanName_47 rfl (lv_at hl 1 rfl) ?_
  refine va_get (D := D) (ci := 2) (v := .int r6.2.1) (C := RX2) (T := TX2) (N := 7) hx hb hts layX2 hown hK hP 0 rfl rfl 6 (by decide) (hts _ (inA q341)) (fun _ h9 => h9) rfl dX2_scanName_48 ?_
  refine lv_iload_n hx hb dX2_scanName_51 rfl (lv_at hl 0 rfl) ?_
  refine lv_isub hx hb dX2_scanName_52 ?_
  refine lv_bipush (v := 32) hx hb dX2_scanName_53 (by decide) ?_
  refine lv_icmp_le (tgt := 66) hx hb dX2_scanName_55 (by decide) (fun c7 => ?_) (fun c7 => ?_)
  · replace hM := if_t c7 hM
    refine lv_iload_n hx hb dX2_scanName_66 rfl (lv_at hl 0 rfl) ?_
    refine lv_istore_n (lv' := [(2, .int o_this.2.1), (1, .int o_this.2.1), (0, .ref (ad 10))]) hx hb dX2_scanName_67 rfl hl (by decide) rfl (fun ls hl => ?_)
    have lp_L68 : ∀ (n : Nat) (v2_L68 : Int32) (o_names_L68 : S_Names) (out_L68 : S_Names) (H : Heap) (locs : List Loc) (ls : Array Slot), f_Tokens_scanName_L68 o_text r6 n v2_L68 o_names_L68 = some out_L68 → va_P D vwCl (wK cI ad r6 ++ wB cI (ad 1) (ad 2) 8192 o_text ++ wN cI ad o_names_L68) H → va_D A (wK cI ad r6 ++ wB cI (ad 1) (ad 2) 8192 o_text ++ wN cI ad o_names_L68) → va_S A s.heap H locs → lv_has ls 3 [(2, .int v2_L68), (1, .int o_this.2.1), (0, .ref (ad 10))] → (∀ (H : Heap) (locs : List Loc) (ls : Array Slot), va_P D vwCl (wK cI ad r6 ++ wB cI (ad 1) (ad 2) 8192 o_text ++ wN cI ad out_L68) H → va_D A (wK cI ad r6 ++ wB cI (ad 1) (ad 2) 8192 o_text ++ wN cI ad out_L68) → va_S A s.heap H locs → lv_has ls 3 [(1, .int o_this.2.1), (0, .ref (ad 10))] → W p l e { frames := 3, cells := 0, slots := 0, locals := 69 } s m [.ref (ad 10)].toArray below meth c H locs 0 0 (MQ below (CQ D A (wK cI ad res.1 ++ wB cI (ad 1) (ad 2) 8192 o_text ++ wN cI ad res.2) none) [.ref (ad 10)].toArray s 0 0 A) (F0 m 97 ls [])) → W p l e { frames := 3, cells := 0, slots := 0, locals := 69 } s m [.ref (ad 10)].toArray below meth c H locs 0 0 (MQ below (CQ D A (wK cI ad res.1 ++ wB cI (ad 1) (ad 2) 8192 o_text ++ wN cI ad res.2) none) [.ref (ad 10)].toArray s 0 0 A) (F0 m 68 ls []) := by
      intro n
      induction n with
      | zero => intro v2_L68 o_names_L68 out_L68 H locs ls hM; exact absurd (show none = some _ from hM) (by simp)
      | succ n ih_L68 =>
        intro v2_L68 o_names_L68 out_L68 H locs ls hM hP hD hS hl kx_L68
        rw [f_Tokens_scanName_L68] at hM
        refine lv_iload_n hx hb dX2_scanName_68 rfl (lv_at hl 0 rfl) ?_
        refine lv_aload_n hx hb dX2_scanName_69 rfl (lv_at hl 2 rfl) ?_
        refine va_get (D := D) (ci := 2) (v := .int r6.2.1) (C := RX2) (T := TX2) (N := 7) hx hb hts layX2 hown hK hP 0 rfl rfl 6 (by decide) (hts _ (inA q341)) (fun _ h9 => h9) rfl dX2_scanName_70 ?_
        refine lv_icmp_ge (tgt := 97) hx hb dX2_scanName_73 (by decide) (fun c8 => ?_) (fun c8 => ?_)
        · replace hM := if_t c8 hM
          cases hM
          exact kx_L68 _ _ _ hP hD hS (lv_sub hl [1, 2] rfl)
        · replace hM := if_f c8 hM
          refine lv_aload_n hx hb dX2_scanName_76 rfl (lv_at hl 2 rfl) ?_
          refine va_get (D := D) (ci := 2) (v := .ref (ad 5)) (C := RX2) (T := TX2) (N := 7) hx hb hts layX2 hown hK hP 0 rfl rfl 1 (by decide) (hts _ (inA q332)) (fun _ h9 => h9) rfl dX2_scanName_77 ?_
          refine lv_aload_n hx hb dX2_scanName_80 rfl (lv_at hl 2 rfl) ?_
          refine va_get (D := D) (ci := 2) (v := .ref (ad 1)) (C := RX2) (T := TX2) (N := 7) hx hb hts layX2 hown hK hP 0 rfl rfl 0 (by decide) (hts _ (inA q331)) (fun _ h9 => h9) rfl dX2_scanName_81 ?_
          refine lv_iload_n hx hb dX2_scanName_84 rfl (lv_at hl 0 rfl) ?_
          obtain ⟨r9, hcr9, hM⟩ := ob_use hM
          refine cl_V (As := [.int v2_L68]) (rest := [.ref (ad 5)]) (wK cI ad r6 ++ wB cI (ad 1) (ad 2) 8192 o_text ++ wN cI ad o_names_L68) (.int r9 :: [.ref (ad 5)]) ⟨hx, hb, hml, hown, hts⟩ (c_Bytes_get l D cI sd (ad 1) (ad 2) 8192 o_text v2_L68 r9 hcr9) (cwV2 hts q530 mvX0_get rfl rfl ⟨(Nat.le_of_ble_eq_true rfl), (Nat.le_of_ble_eq_true rfl)⟩) hK hE hA hP hD hS 4 (T := TX0) (N := 2) (ci := 0) rfl rfl [4, 5] rfl (by decide) rfl rfl rfl rfl rfl rfl hl.1 (Nat.le_of_ble_eq_true rfl) dX2_scanName_85 ⟨Nat.zero_le _, Nat.zero_le _⟩ (fun H locs hP hD hS => ?_)
          obtain ⟨r10, hcr10, hM⟩ := ob_use hM
          refine cl_V (As := [.int r9]) (rest := []) (wK cI ad r6 ++ wB cI (ad 1) (ad 2) 8192 o_text ++ wN cI ad r10) [] ⟨hx, hb, hml, hown, hts⟩ (c_Names_addLetter l D cI sd ad o_names_L68 r9 r10 hcr10) (cwV2 hts q584 mvX1_addLetter rfl rfl ⟨(Nat.le_of_ble_eq_true rfl), (Nat.le_of_ble_eq_true rfl)⟩) hK hE hA hP hD hS 6 (T := TX1) (N := 6) (ci := 1) rfl rfl [6, 7, 8, 9, 10] rfl (by decide) rfl rfl rfl rfl rfl rfl hl.1 (Nat.le_of_ble_eq_true rfl) dX2_scanName_88 ⟨Nat.zero_le _, Nat.zero_le _⟩ (fun H locs hP hD hS => ?_)
          obtain ⟨x11, ex11⟩ : ∃ y : Int32, y = v2_L68 + 1 := ⟨_, rfl⟩
          replace hM := nm_use ex11 hM
          refine lv_iinc (v := x11) (lv' := [(2, .int x11), (1, .int o_this.2.1), (0, .ref (ad 10))]) hx hb dX2_scanName_91 hl (k := 0) rfl (by rw [ex11]; rfl) (by decide) rfl (fun ls hl => ?_)
          refine lv_goto (tgt := 68) hx hb dX2_scanName_94 (by decide) ?_
          exact ih_L68 x11 r10 out_L68 _ _ _ hM hP hD hS (lv_sub hl [0, 1, 2] rfl) kx_L68
    obtain ⟨r12, hcr12, hM⟩ := ob_use hM
    refine lp_L68 FU o_this.2.1 o_names r12 _ _ _ hcr12 hP hD hS (lv_sub hl [0, 1, 2] rfl) (fun H locs ls hP hD hS hl => ?_)
    refine lv_aload_n hx hb dX2_scanName_97 rfl (lv_at hl 1 rfl) ?_
    refine va_get (D := D) (ci := 2) (v := .ref (ad 5)) (C := RX2) (T := TX2) (N := 7) hx hb hts layX2 hown hK hP 0 rfl rfl 1 (by decide) (hts _ (inA q332)) (fun _ h9 => h9) rfl dX2_scanName_98 ?_
    obtain ⟨r13, hcr13, hM⟩ := ob_use hM
    refine cl_V (As := []) (rest := []) (wK cI ad r6 ++ wB cI (ad 1) (ad 2) 8192 o_text ++ wN cI ad r13.2) (.int r13.1 :: []) ⟨hx, hb, hml, hown, hts⟩ (c_Names_number l D cI sd ad r12 r13 hcr13) (cwV2 hts q585 mvX1_number rfl rfl ⟨(Nat.le_of_ble_eq_true rfl), (Nat.le_of_ble_eq_true rfl)⟩) hK hE hA hP hD hS 6 (T := TX1) (N := 6) (ci := 1) rfl rfl [6, 7, 8, 9, 10] rfl (by decide) rfl rfl rfl rfl rfl rfl hl.1 (Nat.le_of_ble_eq_true rfl) dX2_scanName_101 ⟨Nat.zero_le _, Nat.zero_le _⟩ (fun H locs hP hD hS => ?_)
    refine lv_istore_n (lv' := [(2, .int r13.1), (1, .int o_this.2.1), (0, .ref (ad 10))]) hx hb dX2_scanName_104 rfl hl (by decide) rfl (fun ls hl => ?_)
    refine lv_iload_n hx hb dX2_scanName_105 rfl (lv_at hl 0 rfl) ?_
    refine lv_bipush (v := 41) hx hb dX2_scanName_106 (by decide) ?_
    refine lv_icmp_ge (tgt := 125) hx hb dX2_scanName_108 (by decide) (fun c14 => ?_) (fun c14 => ?_)
    · replace hM := if_t c14 hM
      refine lv_aload_n hx hb dX2_scanName_125 rfl (lv_at hl 2 rfl) ?_
      refine lv_iconst (v := 1) hx hb dX2_scanName_126 (by decide) ?_
      refine lv_iload_n hx hb dX2_scanName_127 rfl (lv_at hl 1 rfl) ?_
      refine lv_iload_n hx hb dX2_scanName_128 rfl (lv_at hl 0 rfl) ?_
      refine lv_bipush (v := 41) hx hb dX2_scanName_129 (by decide) ?_
      refine lv_isub hx hb dX2_scanName_131 ?_
      obtain ⟨r15, hcr15, hM⟩ := ob_use hM
      refine cl_V (As := [.int 1, .int o_this.2.1, .int (r13.1 - 41)]) (rest := []) (wK cI ad r15 ++ wB cI (ad 1) (ad 2) 8192 o_text ++ wN cI ad r13.2) [] ⟨hx, hb, hml, hown, hts⟩ (c_Tokens_add l D cI sd ad r6 1 o_this.2.1 (r13.1 - 41) r15 hcr15) (cwV2 hts q535 mvX2_add rfl rfl ⟨(Nat.le_of_ble_eq_true rfl), (Nat.le_of_ble_eq_true rfl)⟩) hK hE hA hP hD hS 0 (T := TX2) (N := 7) (ci := 2) rfl rfl [0, 1, 2, 3] rfl (by decide) rfl rfl rfl rfl rfl rfl hl.1 (Nat.le_of_ble_eq_true rfl) dX2_scanName_132 ⟨Nat.zero_le _, Nat.zero_le _⟩ (fun H locs hP hD hS => ?_)
      cases hM
      exact rt_v hx hb hr hlk hP hD hS rfl dX2_scanName_135
    · replace hM := if_f c14 hM
      refine lv_aload_n hx hb dX2_scanName_111 rfl (lv_at hl 2 rfl) ?_
      refine lv_sipush (v := 256) hx hb dX2_scanName_112 (by decide) ?_
      refine lv_iload_n hx hb dX2_scanName_115 rfl (lv_at hl 0 rfl) ?_
      refine lv_iadd hx hb dX2_scanName_116 ?_
      refine lv_iload_n hx hb dX2_scanName_117 rfl (lv_at hl 1 rfl) ?_
      refine lv_iconst (v := 0) hx hb dX2_scanName_118 (by decide) ?_
      obtain ⟨r16, hcr16, hM⟩ := ob_use hM
      refine cl_V (As := [.int (256 + r13.1), .int o_this.2.1, .int 0]) (rest := []) (wK cI ad r16 ++ wB cI (ad 1) (ad 2) 8192 o_text ++ wN cI ad r13.2) [] ⟨hx, hb, hml, hown, hts⟩ (c_Tokens_add l D cI sd ad r6 (256 + r13.1) o_this.2.1 0 r16 hcr16) (cwV2 hts q535 mvX2_add rfl rfl ⟨(Nat.le_of_ble_eq_true rfl), (Nat.le_of_ble_eq_true rfl)⟩) hK hE hA hP hD hS 0 (T := TX2) (N := 7) (ci := 2) rfl rfl [0, 1, 2, 3] rfl (by decide) rfl rfl rfl rfl rfl rfl hl.1 (Nat.le_of_ble_eq_true rfl) dX2_scanName_119 ⟨Nat.zero_le _, Nat.zero_le _⟩ (fun H locs hP hD hS => ?_)
      refine lv_goto (tgt := 135) hx hb dX2_scanName_122 (by decide) ?_
      cases hM
      exact rt_v hx hb hr hlk hP hD hS rfl dX2_scanName_135
  · replace hM := if_f c7 hM
    refine lv_aload_n hx hb dX2_scanName_58 rfl (lv_at hl 1 rfl) ?_
    refine lv_iconst (v := 5) hx hb dX2_scanName_59 (by decide) ?_
    refine lv_iload_n hx hb dX2_scanName_60 rfl (lv_at hl 0 rfl) ?_
    refine lv_iconst (v := 3) hx hb dX2_scanName_61 (by decide) ?_
    obtain ⟨r17, hcr17, hM⟩ := ob_use hM
    refine cl_V (As := [.int 5, .int o_this.2.1, .int 3]) (rest := []) (wK cI ad r17 ++ wB cI (ad 1) (ad 2) 8192 o_text ++ wN cI ad o_names) [] ⟨hx, hb, hml, hown, hts⟩ (c_Tokens_add l D cI sd ad r6 5 o_this.2.1 3 r17 hcr17) (cwV2 hts q535 mvX2_add rfl rfl ⟨(Nat.le_of_ble_eq_true rfl), (Nat.le_of_ble_eq_true rfl)⟩) hK hE hA hP hD hS 0 (T := TX2) (N := 7) (ci := 2) rfl rfl [0, 1, 2, 3] rfl (by decide) rfl rfl rfl rfl rfl rfl hl.1 (Nat.le_of_ble_eq_true rfl) dX2_scanName_62 ⟨Nat.zero_le _, Nat.zero_le _⟩ (fun H locs hP hD hS => ?_)
    cases hM
    exact rt_v hx hb hr hlk hP hD hS rfl dX2_scanName_65

set_option maxHeartbeats 4000000 in
set_option maxRecDepth 100000 in
theorem c_Tokens_addNumber (l : Launch) (D : va_G) (cI : ClassId) (sd : Nat → Nat) (ad : Nat → Nat) (o_this : S_Tokens) (o_text : S_Bytes) (a1 : Int32) (a2 : Int64) (res : S_Tokens) (hM : f_Tokens_addNumber o_this o_text a1 a2 = some res) : Ctr l D cI sd yX2_addNumber (wsM yX2_addNumber cX2_addNumber 4 (Option.none : Option Jvm.ClassFile.FieldType)) { frames := 1, cells := 0, slots := 0, locals := 23 } [.ref (ad 10), .int a1, .long a2] (wK cI ad o_this ++ wB cI (ad 1) (ad 2) 8192 o_text) (wK cI ad res ++ wB cI (ad 1) (ad 2) 8192 o_text) none := by
  refine Ctr.of (cc := cX2_addNumber) (maxL := 4) (own := RX2) (by decide +kernel) rfl rfl (Nat.le_of_ble_eq_true rfl) ?_
  intro p e s m below meth c A ls hx hb hr hml hown hts hlk hK hE hA hP hD hS hl
  have hl : lv_has ls 4 [(0, .ref (ad 10)), (1, .int a1), (2, .long a2)] := hl
  unfold f_Tokens_addNumber at hM
  refine lv_lload_n hx hb dX2_addNumber_0 rfl (lv_at hl 2 rfl) ?_
  refine lv_lconst (v := 0) hx hb dX2_addNumber_1 (by decide) ?_
  refine W.lcmp hx hb dX2_addNumber_2 ?_
  refine lv_if_lt (tgt := 31) hx hb dX2_addNumber_3 (by decide) (fun c1 => ?_) (fun c1 => ?_)
  · replace hM := if_t c1 hM
    refine lv_aload_n hx hb dX2_addNumber_31 rfl (lv_at hl 0 rfl) ?_
    refine lv_iconst (v := 5) hx hb dX2_addNumber_32 (by decide) ?_
    refine lv_iload_n hx hb dX2_addNumber_33 rfl (lv_at hl 1 rfl) ?_
    refine lv_iconst (v := 4) hx hb dX2_addNumber_34 (by decide) ?_
    obtain ⟨r2, hcr2, hM⟩ := ob_use hM
    refine cl_V (As := [.int 5, .int a1, .int 4]) (rest := []) (wK cI ad r2 ++ wB cI (ad 1) (ad 2) 8192 o_text) [] ⟨hx, hb, hml, hown, hts⟩ (c_Tokens_add l D cI sd ad o_this 5 a1 4 r2 hcr2) (cwV2 hts q535 mvX2_add rfl rfl ⟨(Nat.le_of_ble_eq_true rfl), (Nat.le_of_ble_eq_true rfl)⟩) hK hE hA hP hD hS 0 (T := TX2) (N := 7) (ci := 2) rfl rfl [0, 1, 2, 3] rfl (by decide) rfl rfl rfl rfl rfl rfl hl.1 (Nat.le_of_ble_eq_true rfl) dX2_addNumber_35 ⟨Nat.zero_le _, Nat.zero_le _⟩ (fun H locs hP hD hS => ?_)
    refine lv_goto (tgt := 49) hx hb dX2_addNumber_38 (by decide) ?_
    cases hM
    exact rt_v hx hb hr hlk hP hD hS rfl dX2_addNumber_49
  · replace hM := if_f c1 hM
    refine lv_lload_n hx hb dX2_addNumber_6 rfl (lv_at hl 2 rfl) ?_
    refine lv_ldc2 (v := 2147483647) hx hb hown (hts _ (inA q570)) dX2_addNumber_7 ?_
    refine W.lcmp hx hb dX2_addNumber_10 ?_
    refine lv_if_gt (tgt := 31) hx hb dX2_addNumber_11 (by decide) (fun c3 => ?_) (fun c3 => ?_)
    · replace hM := if_t c3 hM
      refine lv_aload_n hx hb dX2_addNumber_31 rfl (lv_at hl 0 rfl) ?_
      refine lv_iconst (v := 5) hx hb dX2_addNumber_32 (by decide) ?_
      refine lv_iload_n hx hb dX2_addNumber_33 rfl (lv_at hl 1 rfl) ?_
      refine lv_iconst (v := 4) hx hb dX2_addNumber_34 (by decide) ?_
      obtain ⟨r4, hcr4, hM⟩ := ob_use hM
      refine cl_V (As := [.int 5, .int a1, .int 4]) (rest := []) (wK cI ad r4 ++ wB cI (ad 1) (ad 2) 8192 o_text) [] ⟨hx, hb, hml, hown, hts⟩ (c_Tokens_add l D cI sd ad o_this 5 a1 4 r4 hcr4) (cwV2 hts q535 mvX2_add rfl rfl ⟨(Nat.le_of_ble_eq_true rfl), (Nat.le_of_ble_eq_true rfl)⟩) hK hE hA hP hD hS 0 (T := TX2) (N := 7) (ci := 2) rfl rfl [0, 1, 2, 3] rfl (by decide) rfl rfl rfl rfl rfl rfl hl.1 (Nat.le_of_ble_eq_true rfl) dX2_addNumber_35 ⟨Nat.zero_le _, Nat.zero_le _⟩ (fun H locs hP hD hS => ?_)
      refine lv_goto (tgt := 49) hx hb dX2_addNumber_38 (by decide) ?_
      cases hM
      exact rt_v hx hb hr hlk hP hD hS rfl dX2_addNumber_49
    · replace hM := if_f c3 hM
      refine lv_aload_n hx hb dX2_addNumber_14 rfl (lv_at hl 0 rfl) ?_
      refine va_get (D := D) (ci := 2) (v := .ref (ad 1)) (C := RX2) (T := TX2) (N := 7) hx hb hts layX2 hown hK hP 0 rfl rfl 0 (by decide) (hts _ (inA q331)) (fun _ h9 => h9) rfl dX2_addNumber_15 ?_
      refine lv_aload_n hx hb dX2_addNumber_18 rfl (lv_at hl 0 rfl) ?_
      refine va_get (D := D) (ci := 2) (v := .int o_this.2.1) (C := RX2) (T := TX2) (N := 7) hx hb hts layX2 hown hK hP 0 rfl rfl 6 (by decide) (hts _ (inA q341)) (fun _ h9 => h9) rfl dX2_addNumber_19 ?_
      obtain ⟨r5, hcr5, hM⟩ := ob_use hM
      refine cl_V (As := [.int o_this.2.1]) (rest := []) (wK cI ad o_this ++ wB cI (ad 1) (ad 2) 8192 o_text) (.int r5 :: []) ⟨hx, hb, hml, hown, hts⟩ (c_Bytes_get l D cI sd (ad 1) (ad 2) 8192 o_text o_this.2.1 r5 hcr5) (cwV2 hts q530 mvX0_get rfl rfl ⟨(Nat.le_of_ble_eq_true rfl), (Nat.le_of_ble_eq_true rfl)⟩) hK hE hA hP hD hS 4 (T := TX0) (N := 2) (ci := 0) rfl rfl [4, 5] rfl (by decide) rfl rfl rfl rfl rfl rfl hl.1 (Nat.le_of_ble_eq_true rfl) dX2_addNumber_22 ⟨Nat.zero_le _, Nat.zero_le _⟩ (fun H locs hP hD hS => ?_)
      obtain ⟨r6, hcr6, hM⟩ := ob_use hM
      refine cl_SN (As := [.int r5]) (rest := []) (wK cI ad o_this ++ wB cI (ad 1) (ad 2) 8192 o_text) (.int r6 :: []) ⟨hx, hb, hml, hown, hts⟩ (c_Top_isNameByte l D cI sd ad r5 r6 hcr6) (cwSN2 hts (nmE4 hE) mvX6_isNameByte rfl rfl ⟨(Nat.le_of_ble_eq_true rfl), (Nat.le_of_ble_eq_true rfl)⟩) hK hE hA hP hD hS [] rfl (by decide) rfl rfl rfl rfl rfl rfl hl.1 (Nat.le_of_ble_eq_true rfl) dX2_addNumber_25 ⟨Nat.zero_le _, Nat.zero_le _⟩ (fun H locs hP hD hS => ?_)
      refine lv_if_eq (tgt := 41) hx hb dX2_addNumber_28 (by decide) (fun c7 => ?_) (fun c7 => ?_)
      · replace hM := if_t c7 hM
        refine lv_aload_n hx hb dX2_addNumber_41 rfl (lv_at hl 0 rfl) ?_
        refine lv_iconst (v := 2) hx hb dX2_addNumber_42 (by decide) ?_
        refine lv_iload_n hx hb dX2_addNumber_43 rfl (lv_at hl 1 rfl) ?_
        refine lv_lload_n hx hb dX2_addNumber_44 rfl (lv_at hl 2 rfl) ?_
        refine lv_l2i hx hb dX2_addNumber_45 rfl ?_
        obtain ⟨r8, hcr8, hM⟩ := ob_use hM
        refine cl_V (As := [.int 2, .int a1, .int a2.toInt32]) (rest := []) (wK cI ad r8 ++ wB cI (ad 1) (ad 2) 8192 o_text) [] ⟨hx, hb, hml, hown, hts⟩ (c_Tokens_add l D cI sd ad o_this 2 a1 a2.toInt32 r8 hcr8) (cwV2 hts q535 mvX2_add rfl rfl ⟨(Nat.le_of_ble_eq_true rfl), (Nat.le_of_ble_eq_true rfl)⟩) hK hE hA hP hD hS 0 (T := TX2) (N := 7) (ci := 2) rfl rfl [0, 1, 2, 3] rfl (by decide) rfl rfl rfl rfl rfl rfl hl.1 (Nat.le_of_ble_eq_true rfl) dX2_addNumber_46 ⟨Nat.zero_le _, Nat.zero_le _⟩ (fun H locs hP hD hS => ?_)
        cases hM
        exact rt_v hx hb hr hlk hP hD hS rfl dX2_addNumber_49
      · replace hM := if_f c7 hM
        refine lv_aload_n hx hb dX2_addNumber_31 rfl (lv_at hl 0 rfl) ?_
        refine lv_iconst (v := 5) hx hb dX2_addNumber_32 (by decide) ?_
        refine lv_iload_n hx hb dX2_addNumber_33 rfl (lv_at hl 1 rfl) ?_
        refine lv_iconst (v := 4) hx hb dX2_addNumber_34 (by decide) ?_
        obtain ⟨r9, hcr9, hM⟩ := ob_use hM
        refine cl_V (As := [.int 5, .int a1, .int 4]) (rest := []) (wK cI ad r9 ++ wB cI (ad 1) (ad 2) 8192 o_text) [] ⟨hx, hb, hml, hown, hts⟩ (c_Tokens_add l D cI sd ad o_this 5 a1 4 r9 hcr9) (cwV2 hts q535 mvX2_add rfl rfl ⟨(Nat.le_of_ble_eq_true rfl), (Nat.le_of_ble_eq_true rfl)⟩) hK hE hA hP hD hS 0 (T := TX2) (N := 7) (ci := 2) rfl rfl [0, 1, 2, 3] rfl (by decide) rfl rfl rfl rfl rfl rfl hl.1 (Nat.le_of_ble_eq_true rfl) dX2_addNumber_35 ⟨Nat.zero_le _, Nat.zero_le _⟩ (fun H locs hP hD hS => ?_)
        refine lv_goto (tgt := 49) hx hb dX2_addNumber_38 (by decide) ?_
        cases hM
        exact rt_v hx hb hr hlk hP hD hS rfl dX2_addNumber_49

set_option maxHeartbeats 4000000 in
set_option maxRecDepth 100000 in
theorem c_Tokens_digit (l : Launch) (D : va_G) (cI : ClassId) (sd : Nat → Nat) (ad : Nat → Nat) (a1 : Int32) (res : Int32) (hM : f_Tokens_digit a1 = some res) : Ctr l D cI sd yX2_digit (wsM yX2_digit cX2_digit 2 (Option.some Jvm.ClassFile.FieldType.int)) { frames := 1, cells := 0, slots := 0, locals := 20 } [.int a1] (([] : va_W)) (([] : va_W)) (some (.int res)) := by
  refine Ctr.of (cc := cX2_digit) (maxL := 2) (own := RX2) (by decide +kernel) rfl rfl (Nat.le_of_ble_eq_true rfl) ?_
  intro p e s m below meth c A ls hx hb hr hml hown hts hlk hK hE hA hP hD hS hl
  have hl : lv_has ls 2 [(0, .int a1)] := hl
  unfold f_Tokens_digit at hM
  refine lv_iload_n hx hb dX2_digit_0 rfl (lv_at hl 0 rfl) ?_
  obtain ⟨r1, hcr1, hM⟩ := ob_use hM
  refine cl_SN (As := [.int a1]) (rest := []) (([] : va_W)) (.int r1 :: []) ⟨hx, hb, hml, hown, hts⟩ (c_Top_great l D cI sd ad a1 r1 hcr1) (cwSN2 hts (nmE2 hE) mvX6_great rfl rfl ⟨(Nat.le_of_ble_eq_true rfl), (Nat.le_of_ble_eq_true rfl)⟩) hK hE hA hP hD hS [] rfl (by decide) rfl rfl rfl rfl rfl rfl hl.1 (Nat.le_of_ble_eq_true rfl) dX2_digit_1 ⟨Nat.zero_le _, Nat.zero_le _⟩ (fun H locs hP hD hS => ?_)
  refine lv_istore_n (lv' := [(1, .int r1), (0, .int a1)]) hx hb dX2_digit_4 rfl hl (by decide) rfl (fun ls hl => ?_)
  refine lv_iload_n hx hb dX2_digit_5 rfl (lv_at hl 0 rfl) ?_
  refine lv_bipush (v := 65) hx hb dX2_digit_6 (by decide) ?_
  refine lv_icmp_lt (tgt := 25) hx hb dX2_digit_8 (by decide) (fun c2 => ?_) (fun c2 => ?_)
  · replace hM := if_t c2 hM
    refine lv_iload_n hx hb dX2_digit_25 rfl (lv_at hl 1 rfl) ?_
    obtain ⟨r3, hcr3, hM⟩ := ob_use hM
    refine cl_SN (As := [.int a1]) (rest := []) (([] : va_W)) (.int r3 :: []) ⟨hx, hb, hml, hown, hts⟩ (c_Top_isDigit l D cI sd ad a1 r3 hcr3) (cwSN2 hts (nmE3 hE) mvX6_isDigit rfl rfl ⟨(Nat.le_of_ble_eq_true rfl), (Nat.le_of_ble_eq_true rfl)⟩) hK hE hA hP hD hS [] rfl (by decide) rfl rfl rfl rfl rfl rfl hl.1 (Nat.le_of_ble_eq_true rfl) dX2_digit_26 ⟨Nat.zero_le _, Nat.zero_le _⟩ (fun H locs hP hD hS => ?_)
    refine lv_if_eq (tgt := 39) hx hb dX2_digit_29 (by decide) (fun c4 => ?_) (fun c4 => ?_)
    · replace hM := if_t c4 hM
      refine lv_iconst (v := (-1)) hx hb dX2_digit_39 (by decide) ?_
      cases hM
      exact rt_i hx hb hr hlk hP hD hS rfl dX2_digit_40
    · replace hM := if_f c4 hM
      refine lv_iload_n hx hb dX2_digit_32 rfl (lv_at hl 1 rfl) ?_
      refine lv_bipush (v := 48) hx hb dX2_digit_33 (by decide) ?_
      refine lv_isub hx hb dX2_digit_35 ?_
      refine lv_goto (tgt := 40) hx hb dX2_digit_36 (by decide) ?_
      cases hM
      exact rt_i hx hb hr hlk hP hD hS rfl dX2_digit_40
  · replace hM := if_f c2 hM
    refine lv_iload_n hx hb dX2_digit_11 rfl (lv_at hl 0 rfl) ?_
    refine lv_bipush (v := 70) hx hb dX2_digit_12 (by decide) ?_
    refine lv_icmp_gt (tgt := 25) hx hb dX2_digit_14 (by decide) (fun c5 => ?_) (fun c5 => ?_)
    · replace hM := if_t c5 hM
      refine lv_iload_n hx hb dX2_digit_25 rfl (lv_at hl 1 rfl) ?_
      obtain ⟨r6, hcr6, hM⟩ := ob_use hM
      refine cl_SN (As := [.int a1]) (rest := []) (([] : va_W)) (.int r6 :: []) ⟨hx, hb, hml, hown, hts⟩ (c_Top_isDigit l D cI sd ad a1 r6 hcr6) (cwSN2 hts (nmE3 hE) mvX6_isDigit rfl rfl ⟨(Nat.le_of_ble_eq_true rfl), (Nat.le_of_ble_eq_true rfl)⟩) hK hE hA hP hD hS [] rfl (by decide) rfl rfl rfl rfl rfl rfl hl.1 (Nat.le_of_ble_eq_true rfl) dX2_digit_26 ⟨Nat.zero_le _, Nat.zero_le _⟩ (fun H locs hP hD hS => ?_)
      refine lv_if_eq (tgt := 39) hx hb dX2_digit_29 (by decide) (fun c7 => ?_) (fun c7 => ?_)
      · replace hM := if_t c7 hM
        refine lv_iconst (v := (-1)) hx hb dX2_digit_39 (by decide) ?_
        cases hM
        exact rt_i hx hb hr hlk hP hD hS rfl dX2_digit_40
      · replace hM := if_f c7 hM
        refine lv_iload_n hx hb dX2_digit_32 rfl (lv_at hl 1 rfl) ?_
        refine lv_bipush (v := 48) hx hb dX2_digit_33 (by decide) ?_
        refine lv_isub hx hb dX2_digit_35 ?_
        refine lv_goto (tgt := 40) hx hb dX2_digit_36 (by decide) ?_
        cases hM
        exact rt_i hx hb hr hlk hP hD hS rfl dX2_digit_40
    · replace hM := if_f c5 hM
      refine lv_iload_n hx hb dX2_digit_17 rfl (lv_at hl 0 rfl) ?_
      refine lv_bipush (v := 65) hx hb dX2_digit_18 (by decide) ?_
      refine lv_isub hx hb dX2_digit_20 ?_
      refine lv_bipush (v := 10) hx hb dX2_digit_21 (by decide) ?_
      refine lv_iadd hx hb dX2_digit_23 ?_
      cases hM
      exact rt_i hx hb hr hlk hP hD hS rfl dX2_digit_24

set_option maxHeartbeats 4000000 in
set_option maxRecDepth 100000 in
theorem c_Tokens_digits (l : Launch) (D : va_G) (cI : ClassId) (sd : Nat → Nat) (ad : Nat → Nat) (o_this : S_Tokens) (o_text : S_Bytes) (a1 : Int32) (res : Int64 × S_Tokens) (hM : f_Tokens_digits o_this o_text a1 = some res) : Ctr l D cI sd yX2_digits (wsM yX2_digits cX2_digits 7 (Option.some Jvm.ClassFile.FieldType.long)) { frames := 2, cells := 0, slots := 0, locals := 41 } [.ref (ad 10), .int a1] (wK cI ad o_this ++ wB cI (ad 1) (ad 2) 8192 o_text) (wK cI ad res.2 ++ wB cI (ad 1) (ad 2) 8192 o_text) (some (.long res.1)) := by
  refine Ctr.of (cc := cX2_digits) (maxL := 7) (own := RX2) (by decide +kernel) rfl rfl (Nat.le_of_ble_eq_true rfl) ?_
  intro p e s m below meth c A ls hx hb hr hml hown hts hlk hK hE hA hP hD hS hl
  have hl : lv_has ls 7 [(0, .ref (ad 10)), (1, .int a1)] := hl
  unfold f_Tokens_digits at hM
  refine lv_lconst (v := 0) hx hb dX2_digits_0 (by decide) ?_
  refine lv_lstore_n (lv' := [(2, .long 0), (0, .ref (ad 10)), (1, .int a1)]) hx hb dX2_digits_1 rfl hl (by decide) rfl (fun ls hl => ?_)
  refine lv_aload_n hx hb dX2_digits_2 rfl (lv_at hl 1 rfl) ?_
  refine va_get (D := D) (ci := 2) (v := .int o_this.2.1) (C := RX2) (T := TX2) (N := 7) hx hb hts layX2 hown hK hP 0 rfl rfl 6 (by decide) (hts _ (inA q341)) (fun _ h9 => h9) rfl dX2_digits_3 ?_
  refine lv_istore (lv' := [(4, .int o_this.2.1), (2, .long 0), (0, .ref (ad 10)), (1, .int a1)]) hx hb dX2_digits_6 hl (by decide) rfl (fun ls hl => ?_)
  refine lv_iconst (v := 0) hx hb dX2_digits_8 (by decide) ?_
  refine lv_istore (lv' := [(5, .int 0), (4, .int o_this.2.1), (2, .long 0), (0, .ref (ad 10)), (1, .int a1)]) hx hb dX2_digits_9 hl (by decide) rfl (fun ls hl => ?_)
  have lp_L11 : ∀ (n : Nat) (v5_L11 : Int32) (v2_L11 : Int64) (o_this_L11 : S_Tokens) (H : Heap) (locs : List Loc) (ls : Array Slot), f_Tokens_digits_L11 o_this o_text a1 n v5_L11 v2_L11 o_this_L11 = some res → va_P D vwCl (wK cI ad o_this_L11 ++ wB cI (ad 1) (ad 2) 8192 o_text) H → va_D A (wK cI ad o_this_L11 ++ wB cI (ad 1) (ad 2) 8192 o_text) → va_S A s.heap H locs → lv_has ls 7 [(5, .int v5_L11), (4, .int o_this.2.1), (2, .long v2_L11), (0, .ref (ad 10)), (1, .int a1)] → W p l e { frames := 2, cells := 0, slots := 0, locals := 41 } s m [.ref (ad 10), .int a1].toArray below meth c H locs 0 0 (MQ below (CQ D A (wK cI ad res.2 ++ wB cI (ad 1) (ad 2) 8192 o_text) (some (.long res.1))) [.ref (ad 10), .int a1].toArray s 0 0 A) (F0 m 11 ls []) := by
    intro n
    induction n with
    | zero => intro v5_L11 v2_L11 o_this_L11 H locs ls hM; exact absurd (show none = some _ from hM) (by simp)
    | succ n ih_L11 =>
      intro v5_L11 v2_L11 o_this_L11 H locs ls hM hP hD hS hl
      rw [f_Tokens_digits_L11] at hM
      refine lv_iload hx hb dX2_digits_11 (lv_at hl 0 rfl) ?_
      refine lv_sipush (v := 8192) hx hb dX2_digits_13 (by decide) ?_
      refine lv_icmp_ge (tgt := 81) hx hb dX2_digits_16 (by decide) (fun c1 => ?_) (fun c1 => ?_)
      · replace hM := if_t c1 hM
        refine lv_aload_n hx hb dX2_digits_81 rfl (lv_at hl 3 rfl) ?_
        refine va_get (D := D) (ci := 2) (v := .int o_this_L11.2.1) (C := RX2) (T := TX2) (N := 7) hx hb hts layX2 hown hK hP 0 rfl rfl 6 (by decide) (hts _ (inA q341)) (fun _ h9 => h9) rfl dX2_digits_82 ?_
        refine lv_iload hx hb dX2_digits_85 (lv_at hl 1 rfl) ?_
        refine lv_icmp_ne (tgt := 96) hx hb dX2_digits_87 (by decide) (fun c2 => ?_) (fun c2 => ?_)
        · replace hM := if_f c2 hM
          refine lv_lload_n hx hb dX2_digits_96 rfl (lv_at hl 2 rfl) ?_
          cases hM
          exact rt_l hx hb hr hlk hP hD hS rfl dX2_digits_97
        · replace hM := if_t c2 hM
          refine lv_ldc2 (v := (-1)) hx hb hown (hts _ (inA q558)) dX2_digits_90 ?_
          refine lv_goto (tgt := 97) hx hb dX2_digits_93 (by decide) ?_
          cases hM
          exact rt_l hx hb hr hlk hP hD hS rfl dX2_digits_97
      · replace hM := if_f c1 hM
        refine lv_aload_n hx hb dX2_digits_19 rfl (lv_at hl 3 rfl) ?_
        refine va_get (D := D) (ci := 2) (v := .ref (ad 1)) (C := RX2) (T := TX2) (N := 7) hx hb hts layX2 hown hK hP 0 rfl rfl 0 (by decide) (hts _ (inA q331)) (fun _ h9 => h9) rfl dX2_digits_20 ?_
        refine lv_aload_n hx hb dX2_digits_23 rfl (lv_at hl 3 rfl) ?_
        refine va_get (D := D) (ci := 2) (v := .int o_this_L11.2.1) (C := RX2) (T := TX2) (N := 7) hx hb hts layX2 hown hK hP 0 rfl rfl 6 (by decide) (hts _ (inA q341)) (fun _ h9 => h9) rfl dX2_digits_24 ?_
        obtain ⟨r3, hcr3, hM⟩ := ob_use hM
        refine cl_V (As := [.int o_this_L11.2.1]) (rest := []) (wK cI ad o_this_L11 ++ wB cI (ad 1) (ad 2) 8192 o_text) (.int r3 :: []) ⟨hx, hb, hml, hown, hts⟩ (c_Bytes_get l D cI sd (ad 1) (ad 2) 8192 o_text o_this_L11.2.1 r3 hcr3) (cwV2 hts q530 mvX0_get rfl rfl ⟨(Nat.le_of_ble_eq_true rfl), (Nat.le_of_ble_eq_true rfl)⟩) hK hE hA hP hD hS 4 (T := TX0) (N := 2) (ci := 0) rfl rfl [4, 5] rfl (by decide) rfl rfl rfl rfl rfl rfl hl.1 (Nat.le_of_ble_eq_true rfl) dX2_digits_27 ⟨Nat.zero_le _, Nat.zero_le _⟩ (fun H locs hP hD hS => ?_)
        obtain ⟨r4, hcr4, hM⟩ := ob_use hM
        refine cl_S (As := [.int r3]) (rest := []) (wK cI ad o_this_L11 ++ wB cI (ad 1) (ad 2) 8192 o_text) (.int r4 :: []) ⟨hx, hb, hml, hown, hts⟩ (c_Tokens_digit l D cI sd ad r3 r4 hcr4) (cwS2 hts q548 mvX2_digit rfl rfl ⟨(Nat.le_of_ble_eq_true rfl), (Nat.le_of_ble_eq_true rfl)⟩) hK hE hA hP hD hS [] rfl (by decide) rfl rfl rfl rfl rfl rfl hl.1 (Nat.le_of_ble_eq_true rfl) dX2_digits_30 ⟨Nat.zero_le _, Nat.zero_le _⟩ (fun H locs hP hD hS => ?_)
        refine lv_istore (lv' := [(6, .int r4), (5, .int v5_L11), (4, .int o_this.2.1), (2, .long v2_L11), (0, .ref (ad 10)), (1, .int a1)]) hx hb dX2_digits_33 hl (by decide) rfl (fun ls hl => ?_)
        refine lv_iload hx hb dX2_digits_35 (lv_at hl 0 rfl) ?_
        refine lv_iconst (v := (-1)) hx hb dX2_digits_37 (by decide) ?_
        refine lv_icmp_eq (tgt := 81) hx hb dX2_digits_38 (by decide) (fun c5 => ?_) (fun c5 => ?_)
        · replace hM := if_t c5 hM
          refine lv_aload_n hx hb dX2_digits_81 rfl (lv_at hl 4 rfl) ?_
          refine va_get (D := D) (ci := 2) (v := .int o_this_L11.2.1) (C := RX2) (T := TX2) (N := 7) hx hb hts layX2 hown hK hP 0 rfl rfl 6 (by decide) (hts _ (inA q341)) (fun _ h9 => h9) rfl dX2_digits_82 ?_
          refine lv_iload hx hb dX2_digits_85 (lv_at hl 2 rfl) ?_
          refine lv_icmp_ne (tgt := 96) hx hb dX2_digits_87 (by decide) (fun c6 => ?_) (fun c6 => ?_)
          · replace hM := if_f c6 hM
            refine lv_lload_n hx hb dX2_digits_96 rfl (lv_at hl 3 rfl) ?_
            cases hM
            exact rt_l hx hb hr hlk hP hD hS rfl dX2_digits_97
          · replace hM := if_t c6 hM
            refine lv_ldc2 (v := (-1)) hx hb hown (hts _ (inA q558)) dX2_digits_90 ?_
            refine lv_goto (tgt := 97) hx hb dX2_digits_93 (by decide) ?_
            cases hM
            exact rt_l hx hb hr hlk hP hD hS rfl dX2_digits_97
        · replace hM := if_f c5 hM
          refine lv_iload hx hb dX2_digits_41 (lv_at hl 0 rfl) ?_
          refine lv_iload_n hx hb dX2_digits_43 rfl (lv_at hl 5 rfl) ?_
          refine lv_icmp_lt (tgt := 50) hx hb dX2_digits_44 (by decide) (fun c7 => ?_) (fun c7 => ?_)
          · replace hM := if_t c7 hM
            refine lv_ldc2 (v := 2147483648) hx hb hown (hts _ (inA q554)) dX2_digits_50 ?_
            refine lv_lload_n hx hb dX2_digits_53 rfl (lv_at hl 3 rfl) ?_
            refine lv_iload_n hx hb dX2_digits_54 rfl (lv_at hl 5 rfl) ?_
            refine lv_i2l hx hb dX2_digits_55 rfl ?_
            refine lv_lmul hx hb dX2_digits_56 ?_
            refine lv_iload hx hb dX2_digits_57 (lv_at hl 0 rfl) ?_
            refine lv_i2l hx hb dX2_digits_59 rfl ?_
            refine lv_ladd hx hb dX2_digits_60 ?_
            obtain ⟨r8, hcr8, hM⟩ := ob_use hM
            refine cl_S (As := [.long 2147483648, .long ((v2_L11 * a1.toInt64) + r4.toInt64)]) (rest := []) (wK cI ad o_this_L11 ++ wB cI (ad 1) (ad 2) 8192 o_text) (.long r8 :: []) ⟨hx, hb, hml, hown, hts⟩ (c_Math_min l D cI sd ad 2147483648 ((v2_L11 * a1.toInt64) + r4.toInt64) r8 hcr8) (cwS2 hts q555 mvX10_min rfl rfl ⟨(Nat.le_of_ble_eq_true rfl), (Nat.le_of_ble_eq_true rfl)⟩) hK hE hA hP hD hS [] rfl (by decide) rfl rfl rfl rfl rfl rfl hl.1 (Nat.le_of_ble_eq_true rfl) dX2_digits_61 ⟨Nat.zero_le _, Nat.zero_le _⟩ (fun H locs hP hD hS => ?_)
            refine lv_lstore_n (lv' := [(2, .long r8), (6, .int r4), (5, .int v5_L11), (4, .int o_this.2.1), (0, .ref (ad 10)), (1, .int a1)]) hx hb dX2_digits_64 rfl hl (by decide) rfl (fun ls hl => ?_)
            refine lv_aload_n hx hb dX2_digits_65 rfl (lv_at hl 4 rfl) ?_
            refine lv_dup hx hb dX2_digits_66 rfl ?_
            refine va_get (D := D) (ci := 2) (v := .int o_this_L11.2.1) (C := RX2) (T := TX2) (N := 7) hx hb hts layX2 hown hK hP 0 rfl rfl 6 (by decide) (hts _ (inA q341)) (fun _ h9 => h9) rfl dX2_digits_67 ?_
            refine lv_iconst (v := 1) hx hb dX2_digits_70 (by decide) ?_
            refine lv_iadd hx hb dX2_digits_71 ?_
            refine va_put (D := D) (ci := 2) (v := .int (o_this_L11.2.1 + 1)) (ty := .int) (C := RX2) (T := TX2) (N := 7) hx hb hts layX2 tyX2 tyX2_ok nmX2 hown hK hP hD hS 0 rfl rfl 6 (by decide) (hts _ (inA q341)) (fun _ h9 => h9) rfl (by decide +kernel) rfl rfl (Nat.le_of_ble_eq_true rfl) dX2_digits_72 (fun H locs hP hD hS => ?_)
            have hP : va_P D vwCl (wK cI ad (o_this_L11.1, o_this_L11.2.1 + 1, o_this_L11.2.2) ++ wB cI (ad 1) (ad 2) 8192 o_text) H := hP
            have hD : va_D A (wK cI ad (o_this_L11.1, o_this_L11.2.1 + 1, o_this_L11.2.2) ++ wB cI (ad 1) (ad 2) 8192 o_text) := hD
            obtain ⟨x9, ex9⟩ : ∃ y : Int32, y = v5_L11 + 1 := ⟨_, rfl⟩
            replace hM := nm_use ex9 hM
            refine lv_iinc (v := x9) (lv' := [(5, .int x9), (2, .long r8), (6, .int r4), (4, .int o_this.2.1), (0, .ref (ad 10)), (1, .int a1)]) hx hb dX2_digits_75 hl (k := 2) rfl (by rw [ex9]; rfl) (by decide) rfl (fun ls hl => ?_)
            refine lv_goto (tgt := 11) hx hb dX2_digits_78 (by decide) ?_
            exact ih_L11 x9 r8 (o_this_L11.1, o_this_L11.2.1 + 1, o_this_L11.2.2) _ _ _ hM hP hD hS (lv_sub hl [0, 3, 1, 4, 5] rfl)
          · replace hM := if_f c7 hM
            refine lv_goto (tgt := 81) hx hb dX2_digits_47 (by decide) ?_
            refine lv_aload_n hx hb dX2_digits_81 rfl (lv_at hl 4 rfl) ?_
            refine va_get (D := D) (ci := 2) (v := .int o_this_L11.2.1) (C := RX2) (T := TX2) (N := 7) hx hb hts layX2 hown hK hP 0 rfl rfl 6 (by decide) (hts _ (inA q341)) (fun _ h9 => h9) rfl dX2_digits_82 ?_
            refine lv_iload hx hb dX2_digits_85 (lv_at hl 2 rfl) ?_
            refine lv_icmp_ne (tgt := 96) hx hb dX2_digits_87 (by decide) (fun c10 => ?_) (fun c10 => ?_)
            · replace hM := if_f c10 hM
              refine lv_lload_n hx hb dX2_digits_96 rfl (lv_at hl 3 rfl) ?_
              cases hM
              exact rt_l hx hb hr hlk hP hD hS rfl dX2_digits_97
            · replace hM := if_t c10 hM
              refine lv_ldc2 (v := (-1)) hx hb hown (hts _ (inA q558)) dX2_digits_90 ?_
              refine lv_goto (tgt := 97) hx hb dX2_digits_93 (by decide) ?_
              cases hM
              exact rt_l hx hb hr hlk hP hD hS rfl dX2_digits_97
  exact lp_L11 FU 0 0 o_this _ _ _ hM hP hD hS (lv_sub hl [0, 1, 2, 3, 4] rfl)

set_option maxHeartbeats 4000000 in
set_option maxRecDepth 100000 in
theorem c_Tokens_scanNumber (l : Launch) (D : va_G) (cI : ClassId) (sd : Nat → Nat) (ad : Nat → Nat) (o_this : S_Tokens) (o_text : S_Bytes) (res : S_Tokens) (hM : f_Tokens_scanNumber o_this o_text = some res) : Ctr l D cI sd yX2_scanNumber (wsM yX2_scanNumber cX2_scanNumber 4 (Option.none : Option Jvm.ClassFile.FieldType)) { frames := 3, cells := 0, slots := 0, locals := 67 } [.ref (ad 10)] (wK cI ad o_this ++ wB cI (ad 1) (ad 2) 8192 o_text) (wK cI ad res ++ wB cI (ad 1) (ad 2) 8192 o_text) none := by
  refine Ctr.of (cc := cX2_scanNumber) (maxL := 4) (own := RX2) (by decide +kernel) rfl rfl (Nat.le_of_ble_eq_true rfl) ?_
  intro p e s m below meth c A ls hx hb hr hml hown hts hlk hK hE hA hP hD hS hl
  have hl : lv_has ls 4 [(0, .ref (ad 10))] := hl
  unfold f_Tokens_scanNumber at hM
  refine lv_aload_n hx hb dX2_scanNumber_0 rfl (lv_at hl 0 rfl) ?_
  refine va_get (D := D) (ci := 2) (v := .int o_this.2.1) (C := RX2) (T := TX2) (N := 7) hx hb hts layX2 hown hK hP 0 rfl rfl 6 (by decide) (hts _ (inA q341)) (fun _ h9 => h9) rfl dX2_scanNumber_1 ?_
  refine lv_istore_n (lv' := [(1, .int o_this.2.1), (0, .ref (ad 10))]) hx hb dX2_scanNumber_4 rfl hl (by decide) rfl (fun ls hl => ?_)
  refine lv_aload_n hx hb dX2_scanNumber_5 rfl (lv_at hl 1 rfl) ?_
  refine lv_bipush (v := 10) hx hb dX2_scanNumber_6 (by decide) ?_
  obtain ⟨r1, hcr1, hM⟩ := ob_use hM
  refine cl_V (As := [.int 10]) (rest := []) (wK cI ad r1.2 ++ wB cI (ad 1) (ad 2) 8192 o_text) (.long r1.1 :: []) ⟨hx, hb, hml, hown, hts⟩ (c_Tokens_digits l D cI sd ad o_this o_text 10 r1 hcr1) (cwV2 hts q544 mvX2_digits rfl rfl ⟨(Nat.le_of_ble_eq_true rfl), (Nat.le_of_ble_eq_true rfl)⟩) hK hE hA hP hD hS 0 (T := TX2) (N := 7) (ci := 2) rfl rfl [0, 1, 2, 3, 4, 5] rfl (by decide) rfl rfl rfl rfl rfl rfl hl.1 (Nat.le_of_ble_eq_true rfl) dX2_scanNumber_8 ⟨Nat.zero_le _, Nat.zero_le _⟩ (fun H locs hP hD hS => ?_)
  refine lv_lstore_n (lv' := [(2, .long r1.1), (1, .int o_this.2.1), (0, .ref (ad 10))]) hx hb dX2_scanNumber_11 rfl hl (by decide) rfl (fun ls hl => ?_)
  refine lv_aload_n hx hb dX2_scanNumber_12 rfl (lv_at hl 2 rfl) ?_
  refine va_get (D := D) (ci := 2) (v := .ref (ad 1)) (C := RX2) (T := TX2) (N := 7) hx hb hts layX2 hown hK hP 0 rfl rfl 0 (by decide) (hts _ (inA q331)) (fun _ h9 => h9) rfl dX2_scanNumber_13 ?_
  refine lv_aload_n hx hb dX2_scanNumber_16 rfl (lv_at hl 2 rfl) ?_
  refine va_get (D := D) (ci := 2) (v := .int r1.2.2.1) (C := RX2) (T := TX2) (N := 7) hx hb hts layX2 hown hK hP 0 rfl rfl 6 (by decide) (hts _ (inA q341)) (fun _ h9 => h9) rfl dX2_scanNumber_17 ?_
  obtain ⟨r2, hcr2, hM⟩ := ob_use hM
  refine cl_V (As := [.int r1.2.2.1]) (rest := []) (wK cI ad r1.2 ++ wB cI (ad 1) (ad 2) 8192 o_text) (.int r2 :: []) ⟨hx, hb, hml, hown, hts⟩ (c_Bytes_get l D cI sd (ad 1) (ad 2) 8192 o_text r1.2.2.1 r2 hcr2) (cwV2 hts q530 mvX0_get rfl rfl ⟨(Nat.le_of_ble_eq_true rfl), (Nat.le_of_ble_eq_true rfl)⟩) hK hE hA hP hD hS 4 (T := TX0) (N := 2) (ci := 0) rfl rfl [4, 5] rfl (by decide) rfl rfl rfl rfl rfl rfl hl.1 (Nat.le_of_ble_eq_true rfl) dX2_scanNumber_20 ⟨Nat.zero_le _, Nat.zero_le _⟩ (fun H locs hP hD hS => ?_)
  refine lv_bipush (v := 35) hx hb dX2_scanNumber_23 (by decide) ?_
  refine lv_icmp_ne (tgt := 67) hx hb dX2_scanNumber_25 (by decide) (fun c3 => ?_) (fun c3 => ?_)
  · replace hM := if_f c3 hM
    refine lv_aload_n hx hb dX2_scanNumber_67 rfl (lv_at hl 2 rfl) ?_
    refine lv_iload_n hx hb dX2_scanNumber_68 rfl (lv_at hl 1 rfl) ?_
    refine lv_lload_n hx hb dX2_scanNumber_69 rfl (lv_at hl 0 rfl) ?_
    obtain ⟨r4, hcr4, hM⟩ := ob_use hM
    refine cl_V (As := [.int o_this.2.1, .long r1.1]) (rest := []) (wK cI ad r4 ++ wB cI (ad 1) (ad 2) 8192 o_text) [] ⟨hx, hb, hml, hown, hts⟩ (c_Tokens_addNumber l D cI sd ad r1.2 o_text o_this.2.1 r1.1 r4 hcr4) (cwV2 hts q566 mvX2_addNumber rfl rfl ⟨(Nat.le_of_ble_eq_true rfl), (Nat.le_of_ble_eq_true rfl)⟩) hK hE hA hP hD hS 0 (T := TX2) (N := 7) (ci := 2) rfl rfl [0, 1, 2, 3, 4, 5] rfl (by decide) rfl rfl rfl rfl rfl rfl hl.1 (Nat.le_of_ble_eq_true rfl) dX2_scanNumber_70 ⟨Nat.zero_le _, Nat.zero_le _⟩ (fun H locs hP hD hS => ?_)
    cases hM
    exact rt_v hx hb hr hlk hP hD hS rfl dX2_scanNumber_73
  · replace hM := if_t c3 hM
    refine lv_aload_n hx hb dX2_scanNumber_28 rfl (lv_at hl 2 rfl) ?_
    refine lv_dup hx hb dX2_scanNumber_29 rfl ?_
    refine va_get (D := D) (ci := 2) (v := .int r1.2.2.1) (C := RX2) (T := TX2) (N := 7) hx hb hts layX2 hown hK hP 0 rfl rfl 6 (by decide) (hts _ (inA q341)) (fun _ h9 => h9) rfl dX2_scanNumber_30 ?_
    refine lv_iconst (v := 1) hx hb dX2_scanNumber_33 (by decide) ?_
    refine lv_iadd hx hb dX2_scanNumber_34 ?_
    refine va_put (D := D) (ci := 2) (v := .int (r1.2.2.1 + 1)) (ty := .int) (C := RX2) (T := TX2) (N := 7) hx hb hts layX2 tyX2 tyX2_ok nmX2 hown hK hP hD hS 0 rfl rfl 6 (by decide) (hts _ (inA q341)) (fun _ h9 => h9) rfl (by decide +kernel) rfl rfl (Nat.le_of_ble_eq_true rfl) dX2_scanNumber_35 (fun H locs hP hD hS => ?_)
    have hP : va_P D vwCl (wK cI ad (r1.2.1, r1.2.2.1 + 1, r1.2.2.2) ++ wB cI (ad 1) (ad 2) 8192 o_text) H := hP
    have hD : va_D A (wK cI ad (r1.2.1, r1.2.2.1 + 1, r1.2.2.2) ++ wB cI (ad 1) (ad 2) 8192 o_text) := hD
    refine lv_lload_n hx hb dX2_scanNumber_38 rfl (lv_at hl 0 rfl) ?_
    refine lv_ldc2 (v := 16) hx hb hown (hts _ (inA q578)) dX2_scanNumber_39 ?_
    refine W.lcmp hx hb dX2_scanNumber_42 ?_
    refine lv_if_eq (tgt := 54) hx hb dX2_scanNumber_43 (by decide) (fun c5 => ?_) (fun c5 => ?_)
    · replace hM := if_t c5 hM
      refine lv_aload_n hx hb dX2_scanNumber_54 rfl (lv_at hl 2 rfl) ?_
      refine lv_lload_n hx hb dX2_scanNumber_55 rfl (lv_at hl 0 rfl) ?_
      refine lv_l2i hx hb dX2_scanNumber_56 rfl ?_
      obtain ⟨r6, hcr6, hM⟩ := ob_use hM
      refine cl_V (As := [.int r1.1.toInt32]) (rest := []) (wK cI ad r6.2 ++ wB cI (ad 1) (ad 2) 8192 o_text) (.long r6.1 :: []) ⟨hx, hb, hml, hown, hts⟩ (c_Tokens_digits l D cI sd ad (r1.2.1, r1.2.2.1 + 1, r1.2.2.2) o_text r1.1.toInt32 r6 hcr6) (cwV2 hts q544 mvX2_digits rfl rfl ⟨(Nat.le_of_ble_eq_true rfl), (Nat.le_of_ble_eq_true rfl)⟩) hK hE hA hP hD hS 0 (T := TX2) (N := 7) (ci := 2) rfl rfl [0, 1, 2, 3, 4, 5] rfl (by decide) rfl rfl rfl rfl rfl rfl hl.1 (Nat.le_of_ble_eq_true rfl) dX2_scanNumber_57 ⟨Nat.zero_le _, Nat.zero_le _⟩ (fun H locs hP hD hS => ?_)
      refine lv_goto (tgt := 66) hx hb dX2_scanNumber_60 (by decide) ?_
      refine lv_lstore_n (lv' := [(2, .long r6.1), (1, .int o_this.2.1), (0, .ref (ad 10))]) hx hb dX2_scanNumber_66 rfl hl (by decide) rfl (fun ls hl => ?_)
      refine lv_aload_n hx hb dX2_scanNumber_67 rfl (lv_at hl 2 rfl) ?_
      refine lv_iload_n hx hb dX2_scanNumber_68 rfl (lv_at hl 1 rfl) ?_
      refine lv_lload_n hx hb dX2_scanNumber_69 rfl (lv_at hl 0 rfl) ?_
      obtain ⟨r7, hcr7, hM⟩ := ob_use hM
      refine cl_V (As := [.int o_this.2.1, .long r6.1]) (rest := []) (wK cI ad r7 ++ wB cI (ad 1) (ad 2) 8192 o_text) [] ⟨hx, hb, hml, hown, hts⟩ (c_Tokens_addNumber l D cI sd ad r6.2 o_text o_this.2.1 r6.1 r7 hcr7) (cwV2 hts q566 mvX2_addNumber rfl rfl ⟨(Nat.le_of_ble_eq_true rfl), (Nat.le_of_ble_eq_true rfl)⟩) hK hE hA hP hD hS 0 (T := TX2) (N := 7) (ci := 2) rfl rfl [0, 1, 2, 3, 4, 5] rfl (by decide) rfl rfl rfl rfl rfl rfl hl.1 (Nat.le_of_ble_eq_true rfl) dX2_scanNumber_70 ⟨Nat.zero_le _, Nat.zero_le _⟩ (fun H locs hP hD hS => ?_)
      cases hM
      exact rt_v hx hb hr hlk hP hD hS rfl dX2_scanNumber_73
    · replace hM := if_f c5 hM
      refine lv_lload_n hx hb dX2_scanNumber_46 rfl (lv_at hl 0 rfl) ?_
      refine lv_ldc2 (v := 2) hx hb hown (hts _ (inA q579)) dX2_scanNumber_47 ?_
      refine W.lcmp hx hb dX2_scanNumber_50 ?_
      refine lv_if_ne (tgt := 63) hx hb dX2_scanNumber_51 (by decide) (fun c8 => ?_) (fun c8 => ?_)
      · replace hM := if_f c8 hM
        refine lv_ldc2 (v := (-1)) hx hb hown (hts _ (inA q558)) dX2_scanNumber_63 ?_
        refine lv_lstore_n (lv' := [(2, .long (-1)), (1, .int o_this.2.1), (0, .ref (ad 10))]) hx hb dX2_scanNumber_66 rfl hl (by decide) rfl (fun ls hl => ?_)
        refine lv_aload_n hx hb dX2_scanNumber_67 rfl (lv_at hl 2 rfl) ?_
        refine lv_iload_n hx hb dX2_scanNumber_68 rfl (lv_at hl 1 rfl) ?_
        refine lv_lload_n hx hb dX2_scanNumber_69 rfl (lv_at hl 0 rfl) ?_
        obtain ⟨r9, hcr9, hM⟩ := ob_use hM
        refine cl_V (As := [.int o_this.2.1, .long (-1)]) (rest := []) (wK cI ad r9 ++ wB cI (ad 1) (ad 2) 8192 o_text) [] ⟨hx, hb, hml, hown, hts⟩ (c_Tokens_addNumber l D cI sd ad (r1.2.1, r1.2.2.1 + 1, r1.2.2.2) o_text o_this.2.1 (-1) r9 hcr9) (cwV2 hts q566 mvX2_addNumber rfl rfl ⟨(Nat.le_of_ble_eq_true rfl), (Nat.le_of_ble_eq_true rfl)⟩) hK hE hA hP hD hS 0 (T := TX2) (N := 7) (ci := 2) rfl rfl [0, 1, 2, 3, 4, 5] rfl (by decide) rfl rfl rfl rfl rfl rfl hl.1 (Nat.le_of_ble_eq_true rfl) dX2_scanNumber_70 ⟨Nat.zero_le _, Nat.zero_le _⟩ (fun H locs hP hD hS => ?_)
        cases hM
        exact rt_v hx hb hr hlk hP hD hS rfl dX2_scanNumber_73
      · replace hM := if_t c8 hM
        refine lv_aload_n hx hb dX2_scanNumber_54 rfl (lv_at hl 2 rfl) ?_
        refine lv_lload_n hx hb dX2_scanNumber_55 rfl (lv_at hl 0 rfl) ?_
        refine lv_l2i hx hb dX2_scanNumber_56 rfl ?_
        obtain ⟨r10, hcr10, hM⟩ := ob_use hM
        refine cl_V (As := [.int r1.1.toInt32]) (rest := []) (wK cI ad r10.2 ++ wB cI (ad 1) (ad 2) 8192 o_text) (.long r10.1 :: []) ⟨hx, hb, hml, hown, hts⟩ (c_Tokens_digits l D cI sd ad (r1.2.1, r1.2.2.1 + 1, r1.2.2.2) o_text r1.1.toInt32 r10 hcr10) (cwV2 hts q544 mvX2_digits rfl rfl ⟨(Nat.le_of_ble_eq_true rfl), (Nat.le_of_ble_eq_true rfl)⟩) hK hE hA hP hD hS 0 (T := TX2) (N := 7) (ci := 2) rfl rfl [0, 1, 2, 3, 4, 5] rfl (by decide) rfl rfl rfl rfl rfl rfl hl.1 (Nat.le_of_ble_eq_true rfl) dX2_scanNumber_57 ⟨Nat.zero_le _, Nat.zero_le _⟩ (fun H locs hP hD hS => ?_)
        refine lv_goto (tgt := 66) hx hb dX2_scanNumber_60 (by decide) ?_
        refine lv_lstore_n (lv' := [(2, .long r10.1), (1, .int o_this.2.1), (0, .ref (ad 10))]) hx hb dX2_scanNumber_66 rfl hl (by decide) rfl (fun ls hl => ?_)
        refine lv_aload_n hx hb dX2_scanNumber_67 rfl (lv_at hl 2 rfl) ?_
        refine lv_iload_n hx hb dX2_scanNumber_68 rfl (lv_at hl 1 rfl) ?_
        refine lv_lload_n hx hb dX2_scanNumber_69 rfl (lv_at hl 0 rfl) ?_
        obtain ⟨r11, hcr11, hM⟩ := ob_use hM
        refine cl_V (As := [.int o_this.2.1, .long r10.1]) (rest := []) (wK cI ad r11 ++ wB cI (ad 1) (ad 2) 8192 o_text) [] ⟨hx, hb, hml, hown, hts⟩ (c_Tokens_addNumber l D cI sd ad r10.2 o_text o_this.2.1 r10.1 r11 hcr11) (cwV2 hts q566 mvX2_addNumber rfl rfl ⟨(Nat.le_of_ble_eq_true rfl), (Nat.le_of_ble_eq_true rfl)⟩) hK hE hA hP hD hS 0 (T := TX2) (N := 7) (ci := 2) rfl rfl [0, 1, 2, 3, 4, 5] rfl (by decide) rfl rfl rfl rfl rfl rfl hl.1 (Nat.le_of_ble_eq_true rfl) dX2_scanNumber_70 ⟨Nat.zero_le _, Nat.zero_le _⟩ (fun H locs hP hD hS => ?_)
        cases hM
        exact rt_v hx hb hr hlk hP hD hS rfl dX2_scanNumber_73

set_option maxHeartbeats 4000000 in
set_option maxRecDepth 100000 in
theorem c_Tokens_placeRow (l : Launch) (D : va_G) (cI : ClassId) (sd : Nat → Nat) (ad : Nat → Nat) (a1 : Int32) (a2 : Int32) (res : Int32) (hM : f_Tokens_placeRow a1 a2 = some res) : Ctr l D cI sd yX2_placeRow (wsM yX2_placeRow cX2_placeRow 3 (Option.some Jvm.ClassFile.FieldType.int)) { frames := 0, cells := 0, slots := 0, locals := 0 } [.int a1, .int a2] (([] : va_W)) (([] : va_W)) (some (.int res)) := by
  refine Ctr.of (cc := cX2_placeRow) (maxL := 3) (own := RX2) (by decide +kernel) rfl rfl (Nat.le_of_ble_eq_true rfl) ?_
  intro p e s m below meth c A ls hx hb hr hml hown hts hlk hK hE hA hP hD hS hl
  have hl : lv_has ls 3 [(0, .int a1), (1, .int a2)] := hl
  unfold f_Tokens_placeRow at hM
  refine lv_iload_n hx hb dX2_placeRow_0 rfl (lv_at hl 0 rfl) ?_
  refine lv_bipush (v := 73) hx hb dX2_placeRow_1 (by decide) ?_
  refine lv_icmp_ne (tgt := 10) hx hb dX2_placeRow_3 (by decide) (fun c1 => ?_) (fun c1 => ?_)
  · replace hM := if_f c1 hM
    refine lv_iload_n hx hb dX2_placeRow_10 rfl (lv_at hl 0 rfl) ?_
    refine lv_bipush (v := 81) hx hb dX2_placeRow_11 (by decide) ?_
    refine lv_icmp_ne (tgt := 20) hx hb dX2_placeRow_13 (by decide) (fun c2 => ?_) (fun c2 => ?_)
    · replace hM := if_f c2 hM
      refine lv_iload_n hx hb dX2_placeRow_20 rfl (lv_at hl 0 rfl) ?_
      refine lv_bipush (v := 77) hx hb dX2_placeRow_21 (by decide) ?_
      refine lv_icmp_ne (tgt := 30) hx hb dX2_placeRow_23 (by decide) (fun c3 => ?_) (fun c3 => ?_)
      · replace hM := if_f c3 hM
        refine lv_iconst (v := (-1)) hx hb dX2_placeRow_30 (by decide) ?_
        refine lv_istore_n (lv' := [(2, .int (-1)), (0, .int a1), (1, .int a2)]) hx hb dX2_placeRow_31 rfl hl (by decide) rfl (fun ls hl => ?_)
        refine lv_iload_n hx hb dX2_placeRow_32 rfl (lv_at hl 0 rfl) ?_
        refine lv_iconst (v := (-1)) hx hb dX2_placeRow_33 (by decide) ?_
        refine lv_icmp_eq (tgt := 49) hx hb dX2_placeRow_34 (by decide) (fun c4 => ?_) (fun c4 => False.elim (by revert c4; decide))
        refine lv_iconst (v := (-1)) hx hb dX2_placeRow_49 (by decide) ?_
        cases hM
        exact rt_i hx hb hr hlk hP hD hS rfl dX2_placeRow_50
      · replace hM := if_t c3 hM
        refine lv_iconst (v := 2) hx hb dX2_placeRow_26 (by decide) ?_
        refine lv_goto (tgt := 31) hx hb dX2_placeRow_27 (by decide) ?_
        refine lv_istore_n (lv' := [(2, .int 2), (0, .int a1), (1, .int a2)]) hx hb dX2_placeRow_31 rfl hl (by decide) rfl (fun ls hl => ?_)
        refine lv_iload_n hx hb dX2_placeRow_32 rfl (lv_at hl 0 rfl) ?_
        refine lv_iconst (v := (-1)) hx hb dX2_placeRow_33 (by decide) ?_
        refine lv_icmp_eq (tgt := 49) hx hb dX2_placeRow_34 (by decide) (fun c5 => False.elim (by revert c5; decide)) (fun c5 => ?_)
        refine lv_iload_n hx hb dX2_placeRow_37 rfl (lv_at hl 2 rfl) ?_
        refine lv_bipush (v := 88) hx hb dX2_placeRow_38 (by decide) ?_
        refine lv_icmp_eq (tgt := 51) hx hb dX2_placeRow_40 (by decide) (fun c6 => ?_) (fun c6 => ?_)
        · replace hM := if_t c6 hM
          refine lv_iload_n hx hb dX2_placeRow_51 rfl (lv_at hl 2 rfl) ?_
          refine lv_bipush (v := 88) hx hb dX2_placeRow_52 (by decide) ?_
          refine lv_icmp_ne (tgt := 61) hx hb dX2_placeRow_54 (by decide) (fun c7 => ?_) (fun c7 => ?_)
          · replace hM := if_f c7 hM
            refine lv_iconst (v := 3) hx hb dX2_placeRow_61 (by decide) ?_
            refine lv_iload_n hx hb dX2_placeRow_62 rfl (lv_at hl 0 rfl) ?_
            refine lv_iadd hx hb dX2_placeRow_63 ?_
            cases hM
            exact rt_i hx hb hr hlk hP hD hS rfl dX2_placeRow_64
          · replace hM := if_t c7 hM
            refine lv_iload_n hx hb dX2_placeRow_57 rfl (lv_at hl 0 rfl) ?_
            refine lv_goto (tgt := 64) hx hb dX2_placeRow_58 (by decide) ?_
            cases hM
            exact rt_i hx hb hr hlk hP hD hS rfl dX2_placeRow_64
        · replace hM := if_f c6 hM
          refine lv_iload_n hx hb dX2_placeRow_43 rfl (lv_at hl 2 rfl) ?_
          refine lv_bipush (v := 87) hx hb dX2_placeRow_44 (by decide) ?_
          refine lv_icmp_eq (tgt := 51) hx hb dX2_placeRow_46 (by decide) (fun c8 => ?_) (fun c8 => ?_)
          · replace hM := if_t c8 hM
            refine lv_iload_n hx hb dX2_placeRow_51 rfl (lv_at hl 2 rfl) ?_
            refine lv_bipush (v := 88) hx hb dX2_placeRow_52 (by decide) ?_
            refine lv_icmp_ne (tgt := 61) hx hb dX2_placeRow_54 (by decide) (fun c9 => ?_) (fun c9 => ?_)
            · replace hM := if_f c9 hM
              refine lv_iconst (v := 3) hx hb dX2_placeRow_61 (by decide) ?_
              refine lv_iload_n hx hb dX2_placeRow_62 rfl (lv_at hl 0 rfl) ?_
              refine lv_iadd hx hb dX2_placeRow_63 ?_
              cases hM
              exact rt_i hx hb hr hlk hP hD hS rfl dX2_placeRow_64
            · replace hM := if_t c9 hM
              refine lv_iload_n hx hb dX2_placeRow_57 rfl (lv_at hl 0 rfl) ?_
              refine lv_goto (tgt := 64) hx hb dX2_placeRow_58 (by decide) ?_
              cases hM
              exact rt_i hx hb hr hlk hP hD hS rfl dX2_placeRow_64
          · replace hM := if_f c8 hM
            refine lv_iconst (v := (-1)) hx hb dX2_placeRow_49 (by decide) ?_
            cases hM
            exact rt_i hx hb hr hlk hP hD hS rfl dX2_placeRow_50
    · replace hM := if_t c2 hM
      refine lv_iconst (v := 1) hx hb dX2_placeRow_16 (by decide) ?_
      refine lv_goto (tgt := 31) hx hb dX2_placeRow_17 (by decide) ?_
      refine lv_istore_n (lv' := [(2, .int 1), (0, .int a1), (1, .int a2)]) hx hb dX2_placeRow_31 rfl hl (by decide) rfl (fun ls hl => ?_)
      refine lv_iload_n hx hb dX2_placeRow_32 rfl (lv_at hl 0 rfl) ?_
      refine lv_iconst (v := (-1)) hx hb dX2_placeRow_33 (by decide) ?_
      refine lv_icmp_eq (tgt := 49) hx hb dX2_placeRow_34 (by decide) (fun c10 => False.elim (by revert c10; decide)) (fun c10 => ?_)
      refine lv_iload_n hx hb dX2_placeRow_37 rfl (lv_at hl 2 rfl) ?_
      refine lv_bipush (v := 88) hx hb dX2_placeRow_38 (by decide) ?_
      refine lv_icmp_eq (tgt := 51) hx hb dX2_placeRow_40 (by decide) (fun c11 => ?_) (fun c11 => ?_)
      · replace hM := if_t c11 hM
        refine lv_iload_n hx hb dX2_placeRow_51 rfl (lv_at hl 2 rfl) ?_
        refine lv_bipush (v := 88) hx hb dX2_placeRow_52 (by decide) ?_
        refine lv_icmp_ne (tgt := 61) hx hb dX2_placeRow_54 (by decide) (fun c12 => ?_) (fun c12 => ?_)
        · replace hM := if_f c12 hM
          refine lv_iconst (v := 3) hx hb dX2_placeRow_61 (by decide) ?_
          refine lv_iload_n hx hb dX2_placeRow_62 rfl (lv_at hl 0 rfl) ?_
          refine lv_iadd hx hb dX2_placeRow_63 ?_
          cases hM
          exact rt_i hx hb hr hlk hP hD hS rfl dX2_placeRow_64
        · replace hM := if_t c12 hM
          refine lv_iload_n hx hb dX2_placeRow_57 rfl (lv_at hl 0 rfl) ?_
          refine lv_goto (tgt := 64) hx hb dX2_placeRow_58 (by decide) ?_
          cases hM
          exact rt_i hx hb hr hlk hP hD hS rfl dX2_placeRow_64
      · replace hM := if_f c11 hM
        refine lv_iload_n hx hb dX2_placeRow_43 rfl (lv_at hl 2 rfl) ?_
        refine lv_bipush (v := 87) hx hb dX2_placeRow_44 (by decide) ?_
        refine lv_icmp_eq (tgt := 51) hx hb dX2_placeRow_46 (by decide) (fun c13 => ?_) (fun c13 => ?_)
        · replace hM := if_t c13 hM
          refine lv_iload_n hx hb dX2_placeRow_51 rfl (lv_at hl 2 rfl) ?_
          refine lv_bipush (v := 88) hx hb dX2_placeRow_52 (by decide) ?_
          refine lv_icmp_ne (tgt := 61) hx hb dX2_placeRow_54 (by decide) (fun c14 => ?_) (fun c14 => ?_)
          · replace hM := if_f c14 hM
            refine lv_iconst (v := 3) hx hb dX2_placeRow_61 (by decide) ?_
            refine lv_iload_n hx hb dX2_placeRow_62 rfl (lv_at hl 0 rfl) ?_
            refine lv_iadd hx hb dX2_placeRow_63 ?_
            cases hM
            exact rt_i hx hb hr hlk hP hD hS rfl dX2_placeRow_64
          · replace hM := if_t c14 hM
            refine lv_iload_n hx hb dX2_placeRow_57 rfl (lv_at hl 0 rfl) ?_
            refine lv_goto (tgt := 64) hx hb dX2_placeRow_58 (by decide) ?_
            cases hM
            exact rt_i hx hb hr hlk hP hD hS rfl dX2_placeRow_64
        · replace hM := if_f c13 hM
          refine lv_iconst (v := (-1)) hx hb dX2_placeRow_49 (by decide) ?_
          cases hM
          exact rt_i hx hb hr hlk hP hD hS rfl dX2_placeRow_50
  · replace hM := if_t c1 hM
    refine lv_iconst (v := 0) hx hb dX2_placeRow_6 (by decide) ?_
    refine lv_goto (tgt := 31) hx hb dX2_placeRow_7 (by decide) ?_
    refine lv_istore_n (lv' := [(2, .int 0), (0, .int a1), (1, .int a2)]) hx hb dX2_placeRow_31 rfl hl (by decide) rfl (fun ls hl => ?_)
    refine lv_iload_n hx hb dX2_placeRow_32 rfl (lv_at hl 0 rfl) ?_
    refine lv_iconst (v := (-1)) hx hb dX2_placeRow_33 (by decide) ?_
    refine lv_icmp_eq (tgt := 49) hx hb dX2_placeRow_34 (by decide) (fun c15 => False.elim (by revert c15; decide)) (fun c15 => ?_)
    refine lv_iload_n hx hb dX2_placeRow_37 rfl (lv_at hl 2 rfl) ?_
    refine lv_bipush (v := 88) hx hb dX2_placeRow_38 (by decide) ?_
    refine lv_icmp_eq (tgt := 51) hx hb dX2_placeRow_40 (by decide) (fun c16 => ?_) (fun c16 => ?_)
    · replace hM := if_t c16 hM
      refine lv_iload_n hx hb dX2_placeRow_51 rfl (lv_at hl 2 rfl) ?_
      refine lv_bipush (v := 88) hx hb dX2_placeRow_52 (by decide) ?_
      refine lv_icmp_ne (tgt := 61) hx hb dX2_placeRow_54 (by decide) (fun c17 => ?_) (fun c17 => ?_)
      · replace hM := if_f c17 hM
        refine lv_iconst (v := 3) hx hb dX2_placeRow_61 (by decide) ?_
        refine lv_iload_n hx hb dX2_placeRow_62 rfl (lv_at hl 0 rfl) ?_
        refine lv_iadd hx hb dX2_placeRow_63 ?_
        cases hM
        exact rt_i hx hb hr hlk hP hD hS rfl dX2_placeRow_64
      · replace hM := if_t c17 hM
        refine lv_iload_n hx hb dX2_placeRow_57 rfl (lv_at hl 0 rfl) ?_
        refine lv_goto (tgt := 64) hx hb dX2_placeRow_58 (by decide) ?_
        cases hM
        exact rt_i hx hb hr hlk hP hD hS rfl dX2_placeRow_64
    · replace hM := if_f c16 hM
      refine lv_iload_n hx hb dX2_placeRow_43 rfl (lv_at hl 2 rfl) ?_
      refine lv_bipush (v := 87) hx hb dX2_placeRow_44 (by decide) ?_
      refine lv_icmp_eq (tgt := 51) hx hb dX2_placeRow_46 (by decide) (fun c18 => ?_) (fun c18 => ?_)
      · replace hM := if_t c18 hM
        refine lv_iload_n hx hb dX2_placeRow_51 rfl (lv_at hl 2 rfl) ?_
        refine lv_bipush (v := 88) hx hb dX2_placeRow_52 (by decide) ?_
        refine lv_icmp_ne (tgt := 61) hx hb dX2_placeRow_54 (by decide) (fun c19 => ?_) (fun c19 => ?_)
        · replace hM := if_f c19 hM
          refine lv_iconst (v := 3) hx hb dX2_placeRow_61 (by decide) ?_
          refine lv_iload_n hx hb dX2_placeRow_62 rfl (lv_at hl 0 rfl) ?_
          refine lv_iadd hx hb dX2_placeRow_63 ?_
          cases hM
          exact rt_i hx hb hr hlk hP hD hS rfl dX2_placeRow_64
        · replace hM := if_t c19 hM
          refine lv_iload_n hx hb dX2_placeRow_57 rfl (lv_at hl 0 rfl) ?_
          refine lv_goto (tgt := 64) hx hb dX2_placeRow_58 (by decide) ?_
          cases hM
          exact rt_i hx hb hr hlk hP hD hS rfl dX2_placeRow_64
      · replace hM := if_f c18 hM
        refine lv_iconst (v := (-1)) hx hb dX2_placeRow_49 (by decide) ?_
        cases hM
        exact rt_i hx hb hr hlk hP hD hS rfl dX2_placeRow_50

set_option maxHeartbeats 4000000 in
set_option maxRecDepth 100000 in
theorem c_Tokens_scanPlace (l : Launch) (D : va_G) (cI : ClassId) (sd : Nat → Nat) (ad : Nat → Nat) (o_this : S_Tokens) (o_text : S_Bytes) (res : S_Tokens) (hM : f_Tokens_scanPlace o_this o_text = some res) : Ctr l D cI sd yX2_scanPlace (wsM yX2_scanPlace cX2_scanPlace 6 (Option.none : Option Jvm.ClassFile.FieldType)) { frames := 3, cells := 0, slots := 0, locals := 67 } [.ref (ad 10)] (wK cI ad o_this ++ wB cI (ad 1) (ad 2) 8192 o_text) (wK cI ad res ++ wB cI (ad 1) (ad 2) 8192 o_text) none := by
  refine Ctr.of (cc := cX2_scanPlace) (maxL := 6) (own := RX2) (by decide +kernel) rfl rfl (Nat.le_of_ble_eq_true rfl) ?_
  intro p e s m below meth c A ls hx hb hr hml hown hts hlk hK hE hA hP hD hS hl
  have hl : lv_has ls 6 [(0, .ref (ad 10))] := hl
  unfold f_Tokens_scanPlace at hM
  refine lv_aload_n hx hb dX2_scanPlace_0 rfl (lv_at hl 0 rfl) ?_
  refine va_get (D := D) (ci := 2) (v := .int o_this.2.1) (C := RX2) (T := TX2) (N := 7) hx hb hts layX2 hown hK hP 0 rfl rfl 6 (by decide) (hts _ (inA q341)) (fun _ h9 => h9) rfl dX2_scanPlace_1 ?_
  refine lv_istore_n (lv' := [(1, .int o_this.2.1), (0, .ref (ad 10))]) hx hb dX2_scanPlace_4 rfl hl (by decide) rfl (fun ls hl => ?_)
  refine lv_aload_n hx hb dX2_scanPlace_5 rfl (lv_at hl 1 rfl) ?_
  refine va_get (D := D) (ci := 2) (v := .ref (ad 1)) (C := RX2) (T := TX2) (N := 7) hx hb hts layX2 hown hK hP 0 rfl rfl 0 (by decide) (hts _ (inA q331)) (fun _ h9 => h9) rfl dX2_scanPlace_6 ?_
  refine lv_aload_n hx hb dX2_scanPlace_9 rfl (lv_at hl 1 rfl) ?_
  refine va_get (D := D) (ci := 2) (v := .int o_this.2.1) (C := RX2) (T := TX2) (N := 7) hx hb hts layX2 hown hK hP 0 rfl rfl 6 (by decide) (hts _ (inA q341)) (fun _ h9 => h9) rfl dX2_scanPlace_10 ?_
  refine lv_iconst (v := 1) hx hb dX2_scanPlace_13 (by decide) ?_
  refine lv_iadd hx hb dX2_scanPlace_14 ?_
  obtain ⟨r1, hcr1, hM⟩ := ob_use hM
  refine cl_V (As := [.int (o_this.2.1 + 1)]) (rest := []) (wK cI ad o_this ++ wB cI (ad 1) (ad 2) 8192 o_text) (.int r1 :: []) ⟨hx, hb, hml, hown, hts⟩ (c_Bytes_get l D cI sd (ad 1) (ad 2) 8192 o_text (o_this.2.1 + 1) r1 hcr1) (cwV2 hts q530 mvX0_get rfl rfl ⟨(Nat.le_of_ble_eq_true rfl), (Nat.le_of_ble_eq_true rfl)⟩) hK hE hA hP hD hS 4 (T := TX0) (N := 2) (ci := 0) rfl rfl [4, 5] rfl (by decide) rfl rfl rfl rfl rfl rfl hl.1 (Nat.le_of_ble_eq_true rfl) dX2_scanPlace_15 ⟨Nat.zero_le _, Nat.zero_le _⟩ (fun H locs hP hD hS => ?_)
  obtain ⟨r2, hcr2, hM⟩ := ob_use hM
  refine cl_SN (As := [.int r1]) (rest := []) (wK cI ad o_this ++ wB cI (ad 1) (ad 2) 8192 o_text) (.int r2 :: []) ⟨hx, hb, hml, hown, hts⟩ (c_Top_great l D cI sd ad r1 r2 hcr2) (cwSN2 hts (nmE2 hE) mvX6_great rfl rfl ⟨(Nat.le_of_ble_eq_true rfl), (Nat.le_of_ble_eq_true rfl)⟩) hK hE hA hP hD hS [] rfl (by decide) rfl rfl rfl rfl rfl rfl hl.1 (Nat.le_of_ble_eq_true rfl) dX2_scanPlace_18 ⟨Nat.zero_le _, Nat.zero_le _⟩ (fun H locs hP hD hS => ?_)
  refine lv_aload_n hx hb dX2_scanPlace_21 rfl (lv_at hl 1 rfl) ?_
  refine va_get (D := D) (ci := 2) (v := .ref (ad 1)) (C := RX2) (T := TX2) (N := 7) hx hb hts layX2 hown hK hP 0 rfl rfl 0 (by decide) (hts _ (inA q331)) (fun _ h9 => h9) rfl dX2_scanPlace_22 ?_
  refine lv_aload_n hx hb dX2_scanPlace_25 rfl (lv_at hl 1 rfl) ?_
  refine va_get (D := D) (ci := 2) (v := .int o_this.2.1) (C := RX2) (T := TX2) (N := 7) hx hb hts layX2 hown hK hP 0 rfl rfl 6 (by decide) (hts _ (inA q341)) (fun _ h9 => h9) rfl dX2_scanPlace_26 ?_
  refine lv_iconst (v := 2) hx hb dX2_scanPlace_29 (by decide) ?_
  refine lv_iadd hx hb dX2_scanPlace_30 ?_
  obtain ⟨r3, hcr3, hM⟩ := ob_use hM
  refine cl_V (As := [.int (o_this.2.1 + 2)]) (rest := [.int r2]) (wK cI ad o_this ++ wB cI (ad 1) (ad 2) 8192 o_text) (.int r3 :: [.int r2]) ⟨hx, hb, hml, hown, hts⟩ (c_Bytes_get l D cI sd (ad 1) (ad 2) 8192 o_text (o_this.2.1 + 2) r3 hcr3) (cwV2 hts q530 mvX0_get rfl rfl ⟨(Nat.le_of_ble_eq_true rfl), (Nat.le_of_ble_eq_true rfl)⟩) hK hE hA hP hD hS 4 (T := TX0) (N := 2) (ci := 0) rfl rfl [4, 5] rfl (by decide) rfl rfl rfl rfl rfl rfl hl.1 (Nat.le_of_ble_eq_true rfl) dX2_scanPlace_31 ⟨Nat.zero_le _, Nat.zero_le _⟩ (fun H locs hP hD hS => ?_)
  obtain ⟨r4, hcr4, hM⟩ := ob_use hM
  refine cl_SN (As := [.int r3]) (rest := [.int r2]) (wK cI ad o_this ++ wB cI (ad 1) (ad 2) 8192 o_text) (.int r4 :: [.int r2]) ⟨hx, hb, hml, hown, hts⟩ (c_Top_great l D cI sd ad r3 r4 hcr4) (cwSN2 hts (nmE2 hE) mvX6_great rfl rfl ⟨(Nat.le_of_ble_eq_true rfl), (Nat.le_of_ble_eq_true rfl)⟩) hK hE hA hP hD hS [] rfl (by decide) rfl rfl rfl rfl rfl rfl hl.1 (Nat.le_of_ble_eq_true rfl) dX2_scanPlace_34 ⟨Nat.zero_le _, Nat.zero_le _⟩ (fun H locs hP hD hS => ?_)
  obtain ⟨r5, hcr5, hM⟩ := ob_use hM
  refine cl_S (As := [.int r2, .int r4]) (rest := []) (wK cI ad o_this ++ wB cI (ad 1) (ad 2) 8192 o_text) (.int r5 :: []) ⟨hx, hb, hml, hown, hts⟩ (c_Tokens_placeRow l D cI sd ad r2 r4 r5 hcr5) (cwS2 hts q590 mvX2_placeRow rfl rfl ⟨(Nat.le_of_ble_eq_true rfl), (Nat.le_of_ble_eq_true rfl)⟩) hK hE hA hP hD hS [] rfl (by decide) rfl rfl rfl rfl rfl rfl hl.1 (Nat.le_of_ble_eq_true rfl) dX2_scanPlace_37 ⟨Nat.zero_le _, Nat.zero_le _⟩ (fun H locs hP hD hS => ?_)
  refine lv_istore_n (lv' := [(2, .int r5), (1, .int o_this.2.1), (0, .ref (ad 10))]) hx hb dX2_scanPlace_40 rfl hl (by decide) rfl (fun ls hl => ?_)
  refine lv_aload_n hx hb dX2_scanPlace_41 rfl (lv_at hl 2 rfl) ?_
  refine lv_dup hx hb dX2_scanPlace_42 rfl ?_
  refine va_get (D := D) (ci := 2) (v := .int o_this.2.1) (C := RX2) (T := TX2) (N := 7) hx hb hts layX2 hown hK hP 0 rfl rfl 6 (by decide) (hts _ (inA q341)) (fun _ h9 => h9) rfl dX2_scanPlace_43 ?_
  refine lv_iconst (v := 3) hx hb dX2_scanPlace_46 (by decide) ?_
  refine lv_iadd hx hb dX2_scanPlace_47 ?_
  refine va_put (D := D) (ci := 2) (v := .int (o_this.2.1 + 3)) (ty := .int) (C := RX2) (T := TX2) (N := 7) hx hb hts layX2 tyX2 tyX2_ok nmX2 hown hK hP hD hS 0 rfl rfl 6 (by decide) (hts _ (inA q341)) (fun _ h9 => h9) rfl (by decide +kernel) rfl rfl (Nat.le_of_ble_eq_true rfl) dX2_scanPlace_48 (fun H locs hP hD hS => ?_)
  have hP : va_P D vwCl (wK cI ad (o_this.1, o_this.2.1 + 3, o_this.2.2) ++ wB cI (ad 1) (ad 2) 8192 o_text) H := hP
  have hD : va_D A (wK cI ad (o_this.1, o_this.2.1 + 3, o_this.2.2) ++ wB cI (ad 1) (ad 2) 8192 o_text) := hD
  refine lv_aload_n hx hb dX2_scanPlace_51 rfl (lv_at hl 2 rfl) ?_
  refine lv_bipush (v := 10) hx hb dX2_scanPlace_52 (by decide) ?_
  obtain ⟨r6, hcr6, hM⟩ := ob_use hM
  refine cl_V (As := [.int 10]) (rest := []) (wK cI ad r6.2 ++ wB cI (ad 1) (ad 2) 8192 o_text) (.long r6.1 :: []) ⟨hx, hb, hml, hown, hts⟩ (c_Tokens_digits l D cI sd ad (o_this.1, o_this.2.1 + 3, o_this.2.2) o_text 10 r6 hcr6) (cwV2 hts q544 mvX2_digits rfl rfl ⟨(Nat.le_of_ble_eq_true rfl), (Nat.le_of_ble_eq_true rfl)⟩) hK hE hA hP hD hS 0 (T := TX2) (N := 7) (ci := 2) rfl rfl [0, 1, 2, 3, 4, 5] rfl (by decide) rfl rfl rfl rfl rfl rfl hl.1 (Nat.le_of_ble_eq_true rfl) dX2_scanPlace_54 ⟨Nat.zero_le _, Nat.zero_le _⟩ (fun H locs hP hD hS => ?_)
  refine lv_lstore_n (lv' := [(3, .long r6.1), (2, .int r5), (1, .int o_this.2.1), (0, .ref (ad 10))]) hx hb dX2_scanPlace_57 rfl hl (by decide) rfl (fun ls hl => ?_)
  refine lv_iload_n hx hb dX2_scanPlace_58 rfl (lv_at hl 1 rfl) ?_
  refine lv_iconst (v := 3) hx hb dX2_scanPlace_59 (by decide) ?_
  refine lv_icmp_ge (tgt := 69) hx hb dX2_scanPlace_60 (by decide) (fun c7 => ?_) (fun c7 => ?_)
  · replace hM := if_t c7 hM
    refine lv_bipush (v := 63) hx hb dX2_scanPlace_69 (by decide) ?_
    refine lv_istore (lv' := [(5, .int 63), (3, .long r6.1), (2, .int r5), (1, .int o_this.2.1), (0, .ref (ad 10))]) hx hb dX2_scanPlace_71 hl (by decide) rfl (fun ls hl => ?_)
    refine lv_iload_n hx hb dX2_scanPlace_73 rfl (lv_at hl 2 rfl) ?_
    refine lv_iconst (v := (-1)) hx hb dX2_scanPlace_74 (by decide) ?_
    refine lv_icmp_eq (tgt := 111) hx hb dX2_scanPlace_75 (by decide) (fun c8 => ?_) (fun c8 => ?_)
    · replace hM := if_t c8 hM
      refine lv_aload_n hx hb dX2_scanPlace_111 rfl (lv_at hl 4 rfl) ?_
      refine lv_iconst (v := 5) hx hb dX2_scanPlace_112 (by decide) ?_
      refine lv_iload_n hx hb dX2_scanPlace_113 rfl (lv_at hl 3 rfl) ?_
      refine lv_iconst (v := 5) hx hb dX2_scanPlace_114 (by decide) ?_
      obtain ⟨r9, hcr9, hM⟩ := ob_use hM
      refine cl_V (As := [.int 5, .int o_this.2.1, .int 5]) (rest := []) (wK cI ad r9 ++ wB cI (ad 1) (ad 2) 8192 o_text) [] ⟨hx, hb, hml, hown, hts⟩ (c_Tokens_add l D cI sd ad r6.2 5 o_this.2.1 5 r9 hcr9) (cwV2 hts q535 mvX2_add rfl rfl ⟨(Nat.le_of_ble_eq_true rfl), (Nat.le_of_ble_eq_true rfl)⟩) hK hE hA hP hD hS 0 (T := TX2) (N := 7) (ci := 2) rfl rfl [0, 1, 2, 3] rfl (by decide) rfl rfl rfl rfl rfl rfl hl.1 (Nat.le_of_ble_eq_true rfl) dX2_scanPlace_115 ⟨Nat.zero_le _, Nat.zero_le _⟩ (fun H locs hP hD hS => ?_)
      refine lv_goto (tgt := 135) hx hb dX2_scanPlace_118 (by decide) ?_
      cases hM
      exact rt_v hx hb hr hlk hP hD hS rfl dX2_scanPlace_135
    · replace hM := if_f c8 hM
      refine lv_lload_n hx hb dX2_scanPlace_78 rfl (lv_at hl 1 rfl) ?_
      refine lv_ldc2 (v := (-1)) hx hb hown (hts _ (inA q558)) dX2_scanPlace_79 ?_
      refine W.lcmp hx hb dX2_scanPlace_82 ?_
      refine lv_if_eq (tgt := 111) hx hb dX2_scanPlace_83 (by decide) (fun c10 => ?_) (fun c10 => ?_)
      · replace hM := if_t c10 hM
        refine lv_aload_n hx hb dX2_scanPlace_111 rfl (lv_at hl 4 rfl) ?_
        refine lv_iconst (v := 5) hx hb dX2_scanPlace_112 (by decide) ?_
        refine lv_iload_n hx hb dX2_scanPlace_113 rfl (lv_at hl 3 rfl) ?_
        refine lv_iconst (v := 5) hx hb dX2_scanPlace_114 (by decide) ?_
        obtain ⟨r11, hcr11, hM⟩ := ob_use hM
        refine cl_V (As := [.int 5, .int o_this.2.1, .int 5]) (rest := []) (wK cI ad r11 ++ wB cI (ad 1) (ad 2) 8192 o_text) [] ⟨hx, hb, hml, hown, hts⟩ (c_Tokens_add l D cI sd ad r6.2 5 o_this.2.1 5 r11 hcr11) (cwV2 hts q535 mvX2_add rfl rfl ⟨(Nat.le_of_ble_eq_true rfl), (Nat.le_of_ble_eq_true rfl)⟩) hK hE hA hP hD hS 0 (T := TX2) (N := 7) (ci := 2) rfl rfl [0, 1, 2, 3] rfl (by decide) rfl rfl rfl rfl rfl rfl hl.1 (Nat.le_of_ble_eq_true rfl) dX2_scanPlace_115 ⟨Nat.zero_le _, Nat.zero_le _⟩ (fun H locs hP hD hS => ?_)
        refine lv_goto (tgt := 135) hx hb dX2_scanPlace_118 (by decide) ?_
        cases hM
        exact rt_v hx hb hr hlk hP hD hS rfl dX2_scanPlace_135
      · replace hM := if_f c10 hM
        refine lv_lload_n hx hb dX2_scanPlace_86 rfl (lv_at hl 1 rfl) ?_
        refine lv_iload hx hb dX2_scanPlace_87 (lv_at hl 0 rfl) ?_
        refine lv_i2l hx hb dX2_scanPlace_89 rfl ?_
        refine W.lcmp hx hb dX2_scanPlace_90 ?_
        refine lv_if_gt (tgt := 111) hx hb dX2_scanPlace_91 (by decide) (fun c12 => ?_) (fun c12 => ?_)
        · replace hM := if_t c12 hM
          refine lv_aload_n hx hb dX2_scanPlace_111 rfl (lv_at hl 4 rfl) ?_
          refine lv_iconst (v := 5) hx hb dX2_scanPlace_112 (by decide) ?_
          refine lv_iload_n hx hb dX2_scanPlace_113 rfl (lv_at hl 3 rfl) ?_
          refine lv_iconst (v := 5) hx hb dX2_scanPlace_114 (by decide) ?_
          obtain ⟨r13, hcr13, hM⟩ := ob_use hM
          refine cl_V (As := [.int 5, .int o_this.2.1, .int 5]) (rest := []) (wK cI ad r13 ++ wB cI (ad 1) (ad 2) 8192 o_text) [] ⟨hx, hb, hml, hown, hts⟩ (c_Tokens_add l D cI sd ad r6.2 5 o_this.2.1 5 r13 hcr13) (cwV2 hts q535 mvX2_add rfl rfl ⟨(Nat.le_of_ble_eq_true rfl), (Nat.le_of_ble_eq_true rfl)⟩) hK hE hA hP hD hS 0 (T := TX2) (N := 7) (ci := 2) rfl rfl [0, 1, 2, 3] rfl (by decide) rfl rfl rfl rfl rfl rfl hl.1 (Nat.le_of_ble_eq_true rfl) dX2_scanPlace_115 ⟨Nat.zero_le _, Nat.zero_le _⟩ (fun H locs hP hD hS => ?_)
          refine lv_goto (tgt := 135) hx hb dX2_scanPlace_118 (by decide) ?_
          cases hM
          exact rt_v hx hb hr hlk hP hD hS rfl dX2_scanPlace_135
        · replace hM := if_f c12 hM
          refine lv_aload_n hx hb dX2_scanPlace_94 rfl (lv_at hl 4 rfl) ?_
          refine va_get (D := D) (ci := 2) (v := .ref (ad 1)) (C := RX2) (T := TX2) (N := 7) hx hb hts layX2 hown hK hP 0 rfl rfl 0 (by decide) (hts _ (inA q331)) (fun _ h9 => h9) rfl dX2_scanPlace_95 ?_
          refine lv_aload_n hx hb dX2_scanPlace_98 rfl (lv_at hl 4 rfl) ?_
          refine va_get (D := D) (ci := 2) (v := .int r6.2.2.1) (C := RX2) (T := TX2) (N := 7) hx hb hts layX2 hown hK hP 0 rfl rfl 6 (by decide) (hts _ (inA q341)) (fun _ h9 => h9) rfl dX2_scanPlace_99 ?_
          obtain ⟨r14, hcr14, hM⟩ := ob_use hM
          refine cl_V (As := [.int r6.2.2.1]) (rest := []) (wK cI ad r6.2 ++ wB cI (ad 1) (ad 2) 8192 o_text) (.int r14 :: []) ⟨hx, hb, hml, hown, hts⟩ (c_Bytes_get l D cI sd (ad 1) (ad 2) 8192 o_text r6.2.2.1 r14 hcr14) (cwV2 hts q530 mvX0_get rfl rfl ⟨(Nat.le_of_ble_eq_true rfl), (Nat.le_of_ble_eq_true rfl)⟩) hK hE hA hP hD hS 4 (T := TX0) (N := 2) (ci := 0) rfl rfl [4, 5] rfl (by decide) rfl rfl rfl rfl rfl rfl hl.1 (Nat.le_of_ble_eq_true rfl) dX2_scanPlace_102 ⟨Nat.zero_le _, Nat.zero_le _⟩ (fun H locs hP hD hS => ?_)
          obtain ⟨r15, hcr15, hM⟩ := ob_use hM
          refine cl_SN (As := [.int r14]) (rest := []) (wK cI ad r6.2 ++ wB cI (ad 1) (ad 2) 8192 o_text) (.int r15 :: []) ⟨hx, hb, hml, hown, hts⟩ (c_Top_isNameByte l D cI sd ad r14 r15 hcr15) (cwSN2 hts (nmE4 hE) mvX6_isNameByte rfl rfl ⟨(Nat.le_of_ble_eq_true rfl), (Nat.le_of_ble_eq_true rfl)⟩) hK hE hA hP hD hS [] rfl (by decide) rfl rfl rfl rfl rfl rfl hl.1 (Nat.le_of_ble_eq_true rfl) dX2_scanPlace_105 ⟨Nat.zero_le _, Nat.zero_le _⟩ (fun H locs hP hD hS => ?_)
          refine lv_if_eq (tgt := 121) hx hb dX2_scanPlace_108 (by decide) (fun c16 => ?_) (fun c16 => ?_)
          · replace hM := if_t c16 hM
            refine lv_aload_n hx hb dX2_scanPlace_121 rfl (lv_at hl 4 rfl) ?_
            refine lv_iconst (v := 3) hx hb dX2_scanPlace_122 (by decide) ?_
            refine lv_iload_n hx hb dX2_scanPlace_123 rfl (lv_at hl 3 rfl) ?_
            refine lv_sipush (v := 256) hx hb dX2_scanPlace_124 (by decide) ?_
            refine lv_iload_n hx hb dX2_scanPlace_127 rfl (lv_at hl 2 rfl) ?_
            refine lv_imul hx hb dX2_scanPlace_128 ?_
            refine lv_lload_n hx hb dX2_scanPlace_129 rfl (lv_at hl 1 rfl) ?_
            refine lv_l2i hx hb dX2_scanPlace_130 rfl ?_
            refine lv_iadd hx hb dX2_scanPlace_131 ?_
            obtain ⟨r17, hcr17, hM⟩ := ob_use hM
            refine cl_V (As := [.int 3, .int o_this.2.1, .int ((256 * r5) + r6.1.toInt32)]) (rest := []) (wK cI ad r17 ++ wB cI (ad 1) (ad 2) 8192 o_text) [] ⟨hx, hb, hml, hown, hts⟩ (c_Tokens_add l D cI sd ad r6.2 3 o_this.2.1 ((256 * r5) + r6.1.toInt32) r17 hcr17) (cwV2 hts q535 mvX2_add rfl rfl ⟨(Nat.le_of_ble_eq_true rfl), (Nat.le_of_ble_eq_true rfl)⟩) hK hE hA hP hD hS 0 (T := TX2) (N := 7) (ci := 2) rfl rfl [0, 1, 2, 3] rfl (by decide) rfl rfl rfl rfl rfl rfl hl.1 (Nat.le_of_ble_eq_true rfl) dX2_scanPlace_132 ⟨Nat.zero_le _, Nat.zero_le _⟩ (fun H locs hP hD hS => ?_)
            cases hM
            exact rt_v hx hb hr hlk hP hD hS rfl dX2_scanPlace_135
          · replace hM := if_f c16 hM
            refine lv_aload_n hx hb dX2_scanPlace_111 rfl (lv_at hl 4 rfl) ?_
            refine lv_iconst (v := 5) hx hb dX2_scanPlace_112 (by decide) ?_
            refine lv_iload_n hx hb dX2_scanPlace_113 rfl (lv_at hl 3 rfl) ?_
            refine lv_iconst (v := 5) hx hb dX2_scanPlace_114 (by decide) ?_
            obtain ⟨r18, hcr18, hM⟩ := ob_use hM
            refine cl_V (As := [.int 5, .int o_this.2.1, .int 5]) (rest := []) (wK cI ad r18 ++ wB cI (ad 1) (ad 2) 8192 o_text) [] ⟨hx, hb, hml, hown, hts⟩ (c_Tokens_add l D cI sd ad r6.2 5 o_this.2.1 5 r18 hcr18) (cwV2 hts q535 mvX2_add rfl rfl ⟨(Nat.le_of_ble_eq_true rfl), (Nat.le_of_ble_eq_true rfl)⟩) hK hE hA hP hD hS 0 (T := TX2) (N := 7) (ci := 2) rfl rfl [0, 1, 2, 3] rfl (by decide) rfl rfl rfl rfl rfl rfl hl.1 (Nat.le_of_ble_eq_true rfl) dX2_scanPlace_115 ⟨Nat.zero_le _, Nat.zero_le _⟩ (fun H locs hP hD hS => ?_)
            refine lv_goto (tgt := 135) hx hb dX2_scanPlace_118 (by decide) ?_
            cases hM
            exact rt_v hx hb hr hlk hP hD hS rfl dX2_scanPlace_135
  · replace hM := if_f c7 hM
    refine lv_sipush (v := 255) hx hb dX2_scanPlace_63 (by decide) ?_
    refine lv_goto (tgt := 71) hx hb dX2_scanPlace_66 (by decide) ?_
    refine lv_istore (lv' := [(5, .int 255), (3, .long r6.1), (2, .int r5), (1, .int o_this.2.1), (0, .ref (ad 10))]) hx hb dX2_scanPlace_71 hl (by decide) rfl (fun ls hl => ?_)
    refine lv_iload_n hx hb dX2_scanPlace_73 rfl (lv_at hl 2 rfl) ?_
    refine lv_iconst (v := (-1)) hx hb dX2_scanPlace_74 (by decide) ?_
    refine lv_icmp_eq (tgt := 111) hx hb dX2_scanPlace_75 (by decide) (fun c19 => ?_) (fun c19 => ?_)
    · replace hM := if_t c19 hM
      refine lv_aload_n hx hb dX2_scanPlace_111 rfl (lv_at hl 4 rfl) ?_
      refine lv_iconst (v := 5) hx hb dX2_scanPlace_112 (by decide) ?_
      refine lv_iload_n hx hb dX2_scanPlace_113 rfl (lv_at hl 3 rfl) ?_
      refine lv_iconst (v := 5) hx hb dX2_scanPlace_114 (by decide) ?_
      obtain ⟨r20, hcr20, hM⟩ := ob_use hM
      refine cl_V (As := [.int 5, .int o_this.2.1, .int 5]) (rest := []) (wK cI ad r20 ++ wB cI (ad 1) (ad 2) 8192 o_text) [] ⟨hx, hb, hml, hown, hts⟩ (c_Tokens_add l D cI sd ad r6.2 5 o_this.2.1 5 r20 hcr20) (cwV2 hts q535 mvX2_add rfl rfl ⟨(Nat.le_of_ble_eq_true rfl), (Nat.le_of_ble_eq_true rfl)⟩) hK hE hA hP hD hS 0 (T := TX2) (N := 7) (ci := 2) rfl rfl [0, 1, 2, 3] rfl (by decide) rfl rfl rfl rfl rfl rfl hl.1 (Nat.le_of_ble_eq_true rfl) dX2_scanPlace_115 ⟨Nat.zero_le _, Nat.zero_le _⟩ (fun H locs hP hD hS => ?_)
      refine lv_goto (tgt := 135) hx hb dX2_scanPlace_118 (by decide) ?_
      cases hM
      exact rt_v hx hb hr hlk hP hD hS rfl dX2_scanPlace_135
    · replace hM := if_f c19 hM
      refine lv_lload_n hx hb dX2_scanPlace_78 rfl (lv_at hl 1 rfl) ?_
      refine lv_ldc2 (v := (-1)) hx hb hown (hts _ (inA q558)) dX2_scanPlace_79 ?_
      refine W.lcmp hx hb dX2_scanPlace_82 ?_
      refine lv_if_eq (tgt := 111) hx hb dX2_scanPlace_83 (by decide) (fun c21 => ?_) (fun c21 => ?_)
      · replace hM := if_t c21 hM
        refine lv_aload_n hx hb dX2_scanPlace_111 rfl (lv_at hl 4 rfl) ?_
        refine lv_iconst (v := 5) hx hb dX2_scanPlace_112 (by decide) ?_
        refine lv_iload_n hx hb dX2_scanPlace_113 rfl (lv_at hl 3 rfl) ?_
        refine lv_iconst (v := 5) hx hb dX2_scanPlace_114 (by decide) ?_
        obtain ⟨r22, hcr22, hM⟩ := ob_use hM
        refine cl_V (As := [.int 5, .int o_this.2.1, .int 5]) (rest := []) (wK cI ad r22 ++ wB cI (ad 1) (ad 2) 8192 o_text) [] ⟨hx, hb, hml, hown, hts⟩ (c_Tokens_add l D cI sd ad r6.2 5 o_this.2.1 5 r22 hcr22) (cwV2 hts q535 mvX2_add rfl rfl ⟨(Nat.le_of_ble_eq_true rfl), (Nat.le_of_ble_eq_true rfl)⟩) hK hE hA hP hD hS 0 (T := TX2) (N := 7) (ci := 2) rfl rfl [0, 1, 2, 3] rfl (by decide) rfl rfl rfl rfl rfl rfl hl.1 (Nat.le_of_ble_eq_true rfl) dX2_scanPlace_115 ⟨Nat.zero_le _, Nat.zero_le _⟩ (fun H locs hP hD hS => ?_)
        refine lv_goto (tgt := 135) hx hb dX2_scanPlace_118 (by decide) ?_
        cases hM
        exact rt_v hx hb hr hlk hP hD hS rfl dX2_scanPlace_135
      · replace hM := if_f c21 hM
        refine lv_lload_n hx hb dX2_scanPlace_86 rfl (lv_at hl 1 rfl) ?_
        refine lv_iload hx hb dX2_scanPlace_87 (lv_at hl 0 rfl) ?_
        refine lv_i2l hx hb dX2_scanPlace_89 rfl ?_
        refine W.lcmp hx hb dX2_scanPlace_90 ?_
        refine lv_if_gt (tgt := 111) hx hb dX2_scanPlace_91 (by decide) (fun c23 => ?_) (fun c23 => ?_)
        · replace hM := if_t c23 hM
          refine lv_aload_n hx hb dX2_scanPlace_111 rfl (lv_at hl 4 rfl) ?_
          refine lv_iconst (v := 5) hx hb dX2_scanPlace_112 (by decide) ?_
          refine lv_iload_n hx hb dX2_scanPlace_113 rfl (lv_at hl 3 rfl) ?_
          refine lv_iconst (v := 5) hx hb dX2_scanPlace_114 (by decide) ?_
          obtain ⟨r24, hcr24, hM⟩ := ob_use hM
          refine cl_V (As := [.int 5, .int o_this.2.1, .int 5]) (rest := []) (wK cI ad r24 ++ wB cI (ad 1) (ad 2) 8192 o_text) [] ⟨hx, hb, hml, hown, hts⟩ (c_Tokens_add l D cI sd ad r6.2 5 o_this.2.1 5 r24 hcr24) (cwV2 hts q535 mvX2_add rfl rfl ⟨(Nat.le_of_ble_eq_true rfl), (Nat.le_of_ble_eq_true rfl)⟩) hK hE hA hP hD hS 0 (T := TX2) (N := 7) (ci := 2) rfl rfl [0, 1, 2, 3] rfl (by decide) rfl rfl rfl rfl rfl rfl hl.1 (Nat.le_of_ble_eq_true rfl) dX2_scanPlace_115 ⟨Nat.zero_le _, Nat.zero_le _⟩ (fun H locs hP hD hS => ?_)
          refine lv_goto (tgt := 135) hx hb dX2_scanPlace_118 (by decide) ?_
          cases hM
          exact rt_v hx hb hr hlk hP hD hS rfl dX2_scanPlace_135
        · replace hM := if_f c23 hM
          refine lv_aload_n hx hb dX2_scanPlace_94 rfl (lv_at hl 4 rfl) ?_
          refine va_get (D := D) (ci := 2) (v := .ref (ad 1)) (C := RX2) (T := TX2) (N := 7) hx hb hts layX2 hown hK hP 0 rfl rfl 0 (by decide) (hts _ (inA q331)) (fun _ h9 => h9) rfl dX2_scanPlace_95 ?_
          refine lv_aload_n hx hb dX2_scanPlace_98 rfl (lv_at hl 4 rfl) ?_
          refine va_get (D := D) (ci := 2) (v := .int r6.2.2.1) (C := RX2) (T := TX2) (N := 7) hx hb hts layX2 hown hK hP 0 rfl rfl 6 (by decide) (hts _ (inA q341)) (fun _ h9 => h9) rfl dX2_scanPlace_99 ?_
          obtain ⟨r25, hcr25, hM⟩ := ob_use hM
          refine cl_V (As := [.int r6.2.2.1]) (rest := []) (wK cI ad r6.2 ++ wB cI (ad 1) (ad 2) 8192 o_text) (.int r25 :: []) ⟨hx, hb, hml, hown, hts⟩ (c_Bytes_get l D cI sd (ad 1) (ad 2) 8192 o_text r6.2.2.1 r25 hcr25) (cwV2 hts q530 mvX0_get rfl rfl ⟨(Nat.le_of_ble_eq_true rfl), (Nat.le_of_ble_eq_true rfl)⟩) hK hE hA hP hD hS 4 (T := TX0) (N := 2) (ci := 0) rfl rfl [4, 5] rfl (by decide) rfl rfl rfl rfl rfl rfl hl.1 (Nat.le_of_ble_eq_true rfl) dX2_scanPlace_102 ⟨Nat.zero_le _, Nat.zero_le _⟩ (fun H locs hP hD hS => ?_)
          obtain ⟨r26, hcr26, hM⟩ := ob_use hM
          refine cl_SN (As := [.int r25]) (rest := []) (wK cI ad r6.2 ++ wB cI (ad 1) (ad 2) 8192 o_text) (.int r26 :: []) ⟨hx, hb, hml, hown, hts⟩ (c_Top_isNameByte l D cI sd ad r25 r26 hcr26) (cwSN2 hts (nmE4 hE) mvX6_isNameByte rfl rfl ⟨(Nat.le_of_ble_eq_true rfl), (Nat.le_of_ble_eq_true rfl)⟩) hK hE hA hP hD hS [] rfl (by decide) rfl rfl rfl rfl rfl rfl hl.1 (Nat.le_of_ble_eq_true rfl) dX2_scanPlace_105 ⟨Nat.zero_le _, Nat.zero_le _⟩ (fun H locs hP hD hS => ?_)
          refine lv_if_eq (tgt := 121) hx hb dX2_scanPlace_108 (by decide) (fun c27 => ?_) (fun c27 => ?_)
          · replace hM := if_t c27 hM
            refine lv_aload_n hx hb dX2_scanPlace_121 rfl (lv_at hl 4 rfl) ?_
            refine lv_iconst (v := 3) hx hb dX2_scanPlace_122 (by decide) ?_
            refine lv_iload_n hx hb dX2_scanPlace_123 rfl (lv_at hl 3 rfl) ?_
            refine lv_sipush (v := 256) hx hb dX2_scanPlace_124 (by decide) ?_
            refine lv_iload_n hx hb dX2_scanPlace_127 rfl (lv_at hl 2 rfl) ?_
            refine lv_imul hx hb dX2_scanPlace_128 ?_
            refine lv_lload_n hx hb dX2_scanPlace_129 rfl (lv_at hl 1 rfl) ?_
            refine lv_l2i hx hb dX2_scanPlace_130 rfl ?_
            refine lv_iadd hx hb dX2_scanPlace_131 ?_
            obtain ⟨r28, hcr28, hM⟩ := ob_use hM
            refine cl_V (As := [.int 3, .int o_this.2.1, .int ((256 * r5) + r6.1.toInt32)]) (rest := []) (wK cI ad r28 ++ wB cI (ad 1) (ad 2) 8192 o_text) [] ⟨hx, hb, hml, hown, hts⟩ (c_Tokens_add l D cI sd ad r6.2 3 o_this.2.1 ((256 * r5) + r6.1.toInt32) r28 hcr28) (cwV2 hts q535 mvX2_add rfl rfl ⟨(Nat.le_of_ble_eq_true rfl), (Nat.le_of_ble_eq_true rfl)⟩) hK hE hA hP hD hS 0 (T := TX2) (N := 7) (ci := 2) rfl rfl [0, 1, 2, 3] rfl (by decide) rfl rfl rfl rfl rfl rfl hl.1 (Nat.le_of_ble_eq_true rfl) dX2_scanPlace_132 ⟨Nat.zero_le _, Nat.zero_le _⟩ (fun H locs hP hD hS => ?_)
            cases hM
            exact rt_v hx hb hr hlk hP hD hS rfl dX2_scanPlace_135
          · replace hM := if_f c27 hM
            refine lv_aload_n hx hb dX2_scanPlace_111 rfl (lv_at hl 4 rfl) ?_
            refine lv_iconst (v := 5) hx hb dX2_scanPlace_112 (by decide) ?_
            refine lv_iload_n hx hb dX2_scanPlace_113 rfl (lv_at hl 3 rfl) ?_
            refine lv_iconst (v := 5) hx hb dX2_scanPlace_114 (by decide) ?_
            obtain ⟨r29, hcr29, hM⟩ := ob_use hM
            refine cl_V (As := [.int 5, .int o_this.2.1, .int 5]) (rest := []) (wK cI ad r29 ++ wB cI (ad 1) (ad 2) 8192 o_text) [] ⟨hx, hb, hml, hown, hts⟩ (c_Tokens_add l D cI sd ad r6.2 5 o_this.2.1 5 r29 hcr29) (cwV2 hts q535 mvX2_add rfl rfl ⟨(Nat.le_of_ble_eq_true rfl), (Nat.le_of_ble_eq_true rfl)⟩) hK hE hA hP hD hS 0 (T := TX2) (N := 7) (ci := 2) rfl rfl [0, 1, 2, 3] rfl (by decide) rfl rfl rfl rfl rfl rfl hl.1 (Nat.le_of_ble_eq_true rfl) dX2_scanPlace_115 ⟨Nat.zero_le _, Nat.zero_le _⟩ (fun H locs hP hD hS => ?_)
            refine lv_goto (tgt := 135) hx hb dX2_scanPlace_118 (by decide) ?_
            cases hM
            exact rt_v hx hb hr hlk hP hD hS rfl dX2_scanPlace_135

set_option maxHeartbeats 4000000 in
set_option maxRecDepth 100000 in
theorem c_Tokens_isSignOfOne (l : Launch) (D : va_G) (cI : ClassId) (sd : Nat → Nat) (ad : Nat → Nat) (a1 : Int32) (res : Int32) (hM : f_Tokens_isSignOfOne a1 = some res) : Ctr l D cI sd yX2_isSignOfOne (wsM yX2_isSignOfOne cX2_isSignOfOne 1 (Option.some Jvm.ClassFile.FieldType.boolean)) { frames := 0, cells := 0, slots := 0, locals := 0 } [.int a1] (([] : va_W)) (([] : va_W)) (some (.int res)) := by
  refine Ctr.of (cc := cX2_isSignOfOne) (maxL := 1) (own := RX2) (by decide +kernel) rfl rfl (Nat.le_of_ble_eq_true rfl) ?_
  intro p e s m below meth c A ls hx hb hr hml hown hts hlk hK hE hA hP hD hS hl
  have hl : lv_has ls 1 [(0, .int a1)] := hl
  unfold f_Tokens_isSignOfOne at hM
  refine lv_iload_n hx hb dX2_isSignOfOne_0 rfl (lv_at hl 0 rfl) ?_
  by_cases c1 : a1 = 38
  · replace hM := if_t c1 hM
    refine lv_lookup (off := 147) (tgt := 148) hx hb dX2_isSignOfOne_1 (by decide) (by exact sw_hit c1 (by decide)) (by decide) ?_
    refine lv_iconst (v := 1) hx hb dX2_isSignOfOne_148 (by decide) ?_
    cases hM
    exact rt_z hx hb hr hlk (by decide) hP hD hS rfl dX2_isSignOfOne_149
  replace hM := if_f c1 hM
  by_cases c2 : a1 = 40
  · replace hM := if_t c2 hM
    refine lv_lookup (off := 147) (tgt := 148) hx hb dX2_isSignOfOne_1 (by decide) (by rw [lv_osw c1 (by decide)]; exact sw_hit c2 (by decide)) (by decide) ?_
    refine lv_iconst (v := 1) hx hb dX2_isSignOfOne_148 (by decide) ?_
    cases hM
    exact rt_z hx hb hr hlk (by decide) hP hD hS rfl dX2_isSignOfOne_149
  replace hM := if_f c2 hM
  by_cases c3 : a1 = 41
  · replace hM := if_t c3 hM
    refine lv_lookup (off := 147) (tgt := 148) hx hb dX2_isSignOfOne_1 (by decide) (by rw [lv_osw c1 (by decide)]; rw [lv_osw c2 (by decide)]; exact sw_hit c3 (by decide)) (by decide) ?_
    refine lv_iconst (v := 1) hx hb dX2_isSignOfOne_148 (by decide) ?_
    cases hM
    exact rt_z hx hb hr hlk (by decide) hP hD hS rfl dX2_isSignOfOne_149
  replace hM := if_f c3 hM
  by_cases c4 : a1 = 42
  · replace hM := if_t c4 hM
    refine lv_lookup (off := 147) (tgt := 148) hx hb dX2_isSignOfOne_1 (by decide) (by rw [lv_osw c1 (by decide)]; rw [lv_osw c2 (by decide)]; rw [lv_osw c3 (by decide)]; exact sw_hit c4 (by decide)) (by decide) ?_
    refine lv_iconst (v := 1) hx hb dX2_isSignOfOne_148 (by decide) ?_
    cases hM
    exact rt_z hx hb hr hlk (by decide) hP hD hS rfl dX2_isSignOfOne_149
  replace hM := if_f c4 hM
  by_cases c5 : a1 = 43
  · replace hM := if_t c5 hM
    refine lv_lookup (off := 147) (tgt := 148) hx hb dX2_isSignOfOne_1 (by decide) (by rw [lv_osw c1 (by decide)]; rw [lv_osw c2 (by decide)]; rw [lv_osw c3 (by decide)]; rw [lv_osw c4 (by decide)]; exact sw_hit c5 (by decide)) (by decide) ?_
    refine lv_iconst (v := 1) hx hb dX2_isSignOfOne_148 (by decide) ?_
    cases hM
    exact rt_z hx hb hr hlk (by decide) hP hD hS rfl dX2_isSignOfOne_149
  replace hM := if_f c5 hM
  by_cases c6 : a1 = 44
  · replace hM := if_t c6 hM
    refine lv_lookup (off := 147) (tgt := 148) hx hb dX2_isSignOfOne_1 (by decide) (by rw [lv_osw c1 (by decide)]; rw [lv_osw c2 (by decide)]; rw [lv_osw c3 (by decide)]; rw [lv_osw c4 (by decide)]; rw [lv_osw c5 (by decide)]; exact sw_hit c6 (by decide)) (by decide) ?_
    refine lv_iconst (v := 1) hx hb dX2_isSignOfOne_148 (by decide) ?_
    cases hM
    exact rt_z hx hb hr hlk (by decide) hP hD hS rfl dX2_isSignOfOne_149
  replace hM := if_f c6 hM
  by_cases c7 : a1 = 45
  · replace hM := if_t c7 hM
    refine lv_lookup (off := 147) (tgt := 148) hx hb dX2_isSignOfOne_1 (by decide) (by rw [lv_osw c1 (by decide)]; rw [lv_osw c2 (by decide)]; rw [lv_osw c3 (by decide)]; rw [lv_osw c4 (by decide)]; rw [lv_osw c5 (by decide)]; rw [lv_osw c6 (by decide)]; exact sw_hit c7 (by decide)) (by decide) ?_
    refine lv_iconst (v := 1) hx hb dX2_isSignOfOne_148 (by decide) ?_
    cases hM
    exact rt_z hx hb hr hlk (by decide) hP hD hS rfl dX2_isSignOfOne_149
  replace hM := if_f c7 hM
  by_cases c8 : a1 = 46
  · replace hM := if_t c8 hM
    refine lv_lookup (off := 147) (tgt := 148) hx hb dX2_isSignOfOne_1 (by decide) (by rw [lv_osw c1 (by decide)]; rw [lv_osw c2 (by decide)]; rw [lv_osw c3 (by decide)]; rw [lv_osw c4 (by decide)]; rw [lv_osw c5 (by decide)]; rw [lv_osw c6 (by decide)]; rw [lv_osw c7 (by decide)]; exact sw_hit c8 (by decide)) (by decide) ?_
    refine lv_iconst (v := 1) hx hb dX2_isSignOfOne_148 (by decide) ?_
    cases hM
    exact rt_z hx hb hr hlk (by decide) hP hD hS rfl dX2_isSignOfOne_149
  replace hM := if_f c8 hM
  by_cases c9 : a1 = 47
  · replace hM := if_t c9 hM
    refine lv_lookup (off := 147) (tgt := 148) hx hb dX2_isSignOfOne_1 (by decide) (by rw [lv_osw c1 (by decide)]; rw [lv_osw c2 (by decide)]; rw [lv_osw c3 (by decide)]; rw [lv_osw c4 (by decide)]; rw [lv_osw c5 (by decide)]; rw [lv_osw c6 (by decide)]; rw [lv_osw c7 (by decide)]; rw [lv_osw c8 (by decide)]; exact sw_hit c9 (by decide)) (by decide) ?_
    refine lv_iconst (v := 1) hx hb dX2_isSignOfOne_148 (by decide) ?_
    cases hM
    exact rt_z hx hb hr hlk (by decide) hP hD hS rfl dX2_isSignOfOne_149
  replace hM := if_f c9 hM
  by_cases c10 : a1 = 58
  · replace hM := if_t c10 hM
    refine lv_lookup (off := 147) (tgt := 148) hx hb dX2_isSignOfOne_1 (by decide) (by rw [lv_osw c1 (by decide)]; rw [lv_osw c2 (by decide)]; rw [lv_osw c3 (by decide)]; rw [lv_osw c4 (by decide)]; rw [lv_osw c5 (by decide)]; rw [lv_osw c6 (by decide)]; rw [lv_osw c7 (by decide)]; rw [lv_osw c8 (by decide)]; rw [lv_osw c9 (by decide)]; exact sw_hit c10 (by decide)) (by decide) ?_
    refine lv_iconst (v := 1) hx hb dX2_isSignOfOne_148 (by decide) ?_
    cases hM
    exact rt_z hx hb hr hlk (by decide) hP hD hS rfl dX2_isSignOfOne_149
  replace hM := if_f c10 hM
  by_cases c11 : a1 = 59
  · replace hM := if_t c11 hM
    refine lv_lookup (off := 147) (tgt := 148) hx hb dX2_isSignOfOne_1 (by decide) (by rw [lv_osw c1 (by decide)]; rw [lv_osw c2 (by decide)]; rw [lv_osw c3 (by decide)]; rw [lv_osw c4 (by decide)]; rw [lv_osw c5 (by decide)]; rw [lv_osw c6 (by decide)]; rw [lv_osw c7 (by decide)]; rw [lv_osw c8 (by decide)]; rw [lv_osw c9 (by decide)]; rw [lv_osw c10 (by decide)]; exact sw_hit c11 (by decide)) (by decide) ?_
    refine lv_iconst (v := 1) hx hb dX2_isSignOfOne_148 (by decide) ?_
    cases hM
    exact rt_z hx hb hr hlk (by decide) hP hD hS rfl dX2_isSignOfOne_149
  replace hM := if_f c11 hM
  by_cases c12 : a1 = 60
  · replace hM := if_t c12 hM
    refine lv_lookup (off := 147) (tgt := 148) hx hb dX2_isSignOfOne_1 (by decide) (by rw [lv_osw c1 (by decide)]; rw [lv_osw c2 (by decide)]; rw [lv_osw c3 (by decide)]; rw [lv_osw c4 (by decide)]; rw [lv_osw c5 (by decide)]; rw [lv_osw c6 (by decide)]; rw [lv_osw c7 (by decide)]; rw [lv_osw c8 (by decide)]; rw [lv_osw c9 (by decide)]; rw [lv_osw c10 (by decide)]; rw [lv_osw c11 (by decide)]; exact sw_hit c12 (by decide)) (by decide) ?_
    refine lv_iconst (v := 1) hx hb dX2_isSignOfOne_148 (by decide) ?_
    cases hM
    exact rt_z hx hb hr hlk (by decide) hP hD hS rfl dX2_isSignOfOne_149
  replace hM := if_f c12 hM
  by_cases c13 : a1 = 61
  · replace hM := if_t c13 hM
    refine lv_lookup (off := 147) (tgt := 148) hx hb dX2_isSignOfOne_1 (by decide) (by rw [lv_osw c1 (by decide)]; rw [lv_osw c2 (by decide)]; rw [lv_osw c3 (by decide)]; rw [lv_osw c4 (by decide)]; rw [lv_osw c5 (by decide)]; rw [lv_osw c6 (by decide)]; rw [lv_osw c7 (by decide)]; rw [lv_osw c8 (by decide)]; rw [lv_osw c9 (by decide)]; rw [lv_osw c10 (by decide)]; rw [lv_osw c11 (by decide)]; rw [lv_osw c12 (by decide)]; exact sw_hit c13 (by decide)) (by decide) ?_
    refine lv_iconst (v := 1) hx hb dX2_isSignOfOne_148 (by decide) ?_
    cases hM
    exact rt_z hx hb hr hlk (by decide) hP hD hS rfl dX2_isSignOfOne_149
  replace hM := if_f c13 hM
  by_cases c14 : a1 = 62
  · replace hM := if_t c14 hM
    refine lv_lookup (off := 147) (tgt := 148) hx hb dX2_isSignOfOne_1 (by decide) (by rw [lv_osw c1 (by decide)]; rw [lv_osw c2 (by decide)]; rw [lv_osw c3 (by decide)]; rw [lv_osw c4 (by decide)]; rw [lv_osw c5 (by decide)]; rw [lv_osw c6 (by decide)]; rw [lv_osw c7 (by decide)]; rw [lv_osw c8 (by decide)]; rw [lv_osw c9 (by decide)]; rw [lv_osw c10 (by decide)]; rw [lv_osw c11 (by decide)]; rw [lv_osw c12 (by decide)]; rw [lv_osw c13 (by decide)]; exact sw_hit c14 (by decide)) (by decide) ?_
    refine lv_iconst (v := 1) hx hb dX2_isSignOfOne_148 (by decide) ?_
    cases hM
    exact rt_z hx hb hr hlk (by decide) hP hD hS rfl dX2_isSignOfOne_149
  replace hM := if_f c14 hM
  by_cases c15 : a1 = 91
  · replace hM := if_t c15 hM
    refine lv_lookup (off := 147) (tgt := 148) hx hb dX2_isSignOfOne_1 (by decide) (by rw [lv_osw c1 (by decide)]; rw [lv_osw c2 (by decide)]; rw [lv_osw c3 (by decide)]; rw [lv_osw c4 (by decide)]; rw [lv_osw c5 (by decide)]; rw [lv_osw c6 (by decide)]; rw [lv_osw c7 (by decide)]; rw [lv_osw c8 (by decide)]; rw [lv_osw c9 (by decide)]; rw [lv_osw c10 (by decide)]; rw [lv_osw c11 (by decide)]; rw [lv_osw c12 (by decide)]; rw [lv_osw c13 (by decide)]; rw [lv_osw c14 (by decide)]; exact sw_hit c15 (by decide)) (by decide) ?_
    refine lv_iconst (v := 1) hx hb dX2_isSignOfOne_148 (by decide) ?_
    cases hM
    exact rt_z hx hb hr hlk (by decide) hP hD hS rfl dX2_isSignOfOne_149
  replace hM := if_f c15 hM
  by_cases c16 : a1 = 93
  · replace hM := if_t c16 hM
    refine lv_lookup (off := 147) (tgt := 148) hx hb dX2_isSignOfOne_1 (by decide) (by rw [lv_osw c1 (by decide)]; rw [lv_osw c2 (by decide)]; rw [lv_osw c3 (by decide)]; rw [lv_osw c4 (by decide)]; rw [lv_osw c5 (by decide)]; rw [lv_osw c6 (by decide)]; rw [lv_osw c7 (by decide)]; rw [lv_osw c8 (by decide)]; rw [lv_osw c9 (by decide)]; rw [lv_osw c10 (by decide)]; rw [lv_osw c11 (by decide)]; rw [lv_osw c12 (by decide)]; rw [lv_osw c13 (by decide)]; rw [lv_osw c14 (by decide)]; rw [lv_osw c15 (by decide)]; exact sw_hit c16 (by decide)) (by decide) ?_
    refine lv_iconst (v := 1) hx hb dX2_isSignOfOne_148 (by decide) ?_
    cases hM
    exact rt_z hx hb hr hlk (by decide) hP hD hS rfl dX2_isSignOfOne_149
  replace hM := if_f c16 hM
  by_cases c17 : a1 = 124
  · replace hM := if_t c17 hM
    refine lv_lookup (off := 147) (tgt := 148) hx hb dX2_isSignOfOne_1 (by decide) (by rw [lv_osw c1 (by decide)]; rw [lv_osw c2 (by decide)]; rw [lv_osw c3 (by decide)]; rw [lv_osw c4 (by decide)]; rw [lv_osw c5 (by decide)]; rw [lv_osw c6 (by decide)]; rw [lv_osw c7 (by decide)]; rw [lv_osw c8 (by decide)]; rw [lv_osw c9 (by decide)]; rw [lv_osw c10 (by decide)]; rw [lv_osw c11 (by decide)]; rw [lv_osw c12 (by decide)]; rw [lv_osw c13 (by decide)]; rw [lv_osw c14 (by decide)]; rw [lv_osw c15 (by decide)]; rw [lv_osw c16 (by decide)]; exact sw_hit c17 (by decide)) (by decide) ?_
    refine lv_iconst (v := 1) hx hb dX2_isSignOfOne_148 (by decide) ?_
    cases hM
    exact rt_z hx hb hr hlk (by decide) hP hD hS rfl dX2_isSignOfOne_149
  replace hM := if_f c17 hM
  refine lv_lookup (off := 149) (tgt := 150) hx hb dX2_isSignOfOne_1 (by decide) (by rw [lv_osw c1 (by decide)]; rw [lv_osw c2 (by decide)]; rw [lv_osw c3 (by decide)]; rw [lv_osw c4 (by decide)]; rw [lv_osw c5 (by decide)]; rw [lv_osw c6 (by decide)]; rw [lv_osw c7 (by decide)]; rw [lv_osw c8 (by decide)]; rw [lv_osw c9 (by decide)]; rw [lv_osw c10 (by decide)]; rw [lv_osw c11 (by decide)]; rw [lv_osw c12 (by decide)]; rw [lv_osw c13 (by decide)]; rw [lv_osw c14 (by decide)]; rw [lv_osw c15 (by decide)]; rw [lv_osw c16 (by decide)]; rw [lv_osw c17 (by decide)]; rfl) (by decide) ?_
  refine lv_iconst (v := 0) hx hb dX2_isSignOfOne_150 (by decide) ?_
  cases hM
  exact rt_z hx hb hr hlk (by decide) hP hD hS rfl dX2_isSignOfOne_151

set_option maxHeartbeats 4000000 in
set_option maxRecDepth 100000 in
theorem c_Tokens_isSignOfTwo (l : Launch) (D : va_G) (cI : ClassId) (sd : Nat → Nat) (ad : Nat → Nat) (a1 : Int32) (res : Int32) (hM : f_Tokens_isSignOfTwo a1 = some res) : Ctr l D cI sd yX2_isSignOfTwo (wsM yX2_isSignOfTwo cX2_isSignOfTwo 1 (Option.some Jvm.ClassFile.FieldType.boolean)) { frames := 0, cells := 0, slots := 0, locals := 0 } [.int a1] (([] : va_W)) (([] : va_W)) (some (.int res)) := by
  refine Ctr.of (cc := cX2_isSignOfTwo) (maxL := 1) (own := RX2) (by decide +kernel) rfl rfl (Nat.le_of_ble_eq_true rfl) ?_
  intro p e s m below meth c A ls hx hb hr hml hown hts hlk hK hE hA hP hD hS hl
  have hl : lv_has ls 1 [(0, .int a1)] := hl
  unfold f_Tokens_isSignOfTwo at hM
  refine lv_iload_n hx hb dX2_isSignOfTwo_0 rfl (lv_at hl 0 rfl) ?_
  refine lv_sipush (v := 14909) hx hb dX2_isSignOfTwo_1 (by decide) ?_
  refine lv_icmp_eq (tgt := 35) hx hb dX2_isSignOfTwo_4 (by decide) (fun c1 => ?_) (fun c1 => ?_)
  · replace hM := if_t c1 hM
    refine lv_iconst (v := 1) hx hb dX2_isSignOfTwo_35 (by decide) ?_
    refine lv_goto (tgt := 40) hx hb dX2_isSignOfTwo_36 (by decide) ?_
    cases hM
    exact rt_z hx hb hr hlk (by decide) hP hD hS rfl dX2_isSignOfTwo_40
  · replace hM := if_f c1 hM
    refine lv_iload_n hx hb dX2_isSignOfTwo_7 rfl (lv_at hl 0 rfl) ?_
    refine lv_sipush (v := 11822) hx hb dX2_isSignOfTwo_8 (by decide) ?_
    refine lv_icmp_eq (tgt := 35) hx hb dX2_isSignOfTwo_11 (by decide) (fun c2 => ?_) (fun c2 => ?_)
    · replace hM := if_t c2 hM
      refine lv_iconst (v := 1) hx hb dX2_isSignOfTwo_35 (by decide) ?_
      refine lv_goto (tgt := 40) hx hb dX2_isSignOfTwo_36 (by decide) ?_
      cases hM
      exact rt_z hx hb hr hlk (by decide) hP hD hS rfl dX2_isSignOfTwo_40
    · replace hM := if_f c2 hM
      refine lv_iload_n hx hb dX2_isSignOfTwo_14 rfl (lv_at hl 0 rfl) ?_
      refine lv_sipush (v := 15421) hx hb dX2_isSignOfTwo_15 (by decide) ?_
      refine lv_icmp_eq (tgt := 35) hx hb dX2_isSignOfTwo_18 (by decide) (fun c3 => ?_) (fun c3 => ?_)
      · replace hM := if_t c3 hM
        refine lv_iconst (v := 1) hx hb dX2_isSignOfTwo_35 (by decide) ?_
        refine lv_goto (tgt := 40) hx hb dX2_isSignOfTwo_36 (by decide) ?_
        cases hM
        exact rt_z hx hb hr hlk (by decide) hP hD hS rfl dX2_isSignOfTwo_40
      · replace hM := if_f c3 hM
        refine lv_iload_n hx hb dX2_isSignOfTwo_21 rfl (lv_at hl 0 rfl) ?_
        refine lv_sipush (v := 15933) hx hb dX2_isSignOfTwo_22 (by decide) ?_
        refine lv_icmp_eq (tgt := 35) hx hb dX2_isSignOfTwo_25 (by decide) (fun c4 => ?_) (fun c4 => ?_)
        · replace hM := if_t c4 hM
          refine lv_iconst (v := 1) hx hb dX2_isSignOfTwo_35 (by decide) ?_
          refine lv_goto (tgt := 40) hx hb dX2_isSignOfTwo_36 (by decide) ?_
          cases hM
          exact rt_z hx hb hr hlk (by decide) hP hD hS rfl dX2_isSignOfTwo_40
        · replace hM := if_f c4 hM
          refine lv_iload_n hx hb dX2_isSignOfTwo_28 rfl (lv_at hl 0 rfl) ?_
          refine lv_sipush (v := 15422) hx hb dX2_isSignOfTwo_29 (by decide) ?_
          refine lv_icmp_ne (tgt := 39) hx hb dX2_isSignOfTwo_32 (by decide) (fun c5 => ?_) (fun c5 => ?_)
          · replace hM := if_f c5 hM
            refine lv_iconst (v := 0) hx hb dX2_isSignOfTwo_39 (by decide) ?_
            cases hM
            exact rt_z hx hb hr hlk (by decide) hP hD hS rfl dX2_isSignOfTwo_40
          · replace hM := if_t c5 hM
            refine lv_iconst (v := 1) hx hb dX2_isSignOfTwo_35 (by decide) ?_
            refine lv_goto (tgt := 40) hx hb dX2_isSignOfTwo_36 (by decide) ?_
            cases hM
            exact rt_z hx hb hr hlk (by decide) hP hD hS rfl dX2_isSignOfTwo_40

set_option maxHeartbeats 4000000 in
set_option maxRecDepth 100000 in
theorem c_Tokens_scanSign (l : Launch) (D : va_G) (cI : ClassId) (sd : Nat → Nat) (ad : Nat → Nat) (o_this : S_Tokens) (o_text : S_Bytes) (res : S_Tokens) (hM : f_Tokens_scanSign o_this o_text = some res) : Ctr l D cI sd yX2_scanSign (wsM yX2_scanSign cX2_scanSign 4 (Option.none : Option Jvm.ClassFile.FieldType)) { frames := 1, cells := 0, slots := 0, locals := 23 } [.ref (ad 10)] (wK cI ad o_this ++ wB cI (ad 1) (ad 2) 8192 o_text) (wK cI ad res ++ wB cI (ad 1) (ad 2) 8192 o_text) none := by
  refine Ctr.of (cc := cX2_scanSign) (maxL := 4) (own := RX2) (by decide +kernel) rfl rfl (Nat.le_of_ble_eq_true rfl) ?_
  intro p e s m below meth c A ls hx hb hr hml hown hts hlk hK hE hA hP hD hS hl
  have hl : lv_has ls 4 [(0, .ref (ad 10))] := hl
  unfold f_Tokens_scanSign at hM
  refine lv_aload_n hx hb dX2_scanSign_0 rfl (lv_at hl 0 rfl) ?_
  refine va_get (D := D) (ci := 2) (v := .int o_this.2.1) (C := RX2) (T := TX2) (N := 7) hx hb hts layX2 hown hK hP 0 rfl rfl 6 (by decide) (hts _ (inA q341)) (fun _ h9 => h9) rfl dX2_scanSign_1 ?_
  refine lv_istore_n (lv' := [(1, .int o_this.2.1), (0, .ref (ad 10))]) hx hb dX2_scanSign_4 rfl hl (by decide) rfl (fun ls hl => ?_)
  refine lv_aload_n hx hb dX2_scanSign_5 rfl (lv_at hl 1 rfl) ?_
  refine va_get (D := D) (ci := 2) (v := .ref (ad 1)) (C := RX2) (T := TX2) (N := 7) hx hb hts layX2 hown hK hP 0 rfl rfl 0 (by decide) (hts _ (inA q331)) (fun _ h9 => h9) rfl dX2_scanSign_6 ?_
  refine lv_aload_n hx hb dX2_scanSign_9 rfl (lv_at hl 1 rfl) ?_
  refine va_get (D := D) (ci := 2) (v := .int o_this.2.1) (C := RX2) (T := TX2) (N := 7) hx hb hts layX2 hown hK hP 0 rfl rfl 6 (by decide) (hts _ (inA q341)) (fun _ h9 => h9) rfl dX2_scanSign_10 ?_
  obtain ⟨r1, hcr1, hM⟩ := ob_use hM
  refine cl_V (As := [.int o_this.2.1]) (rest := []) (wK cI ad o_this ++ wB cI (ad 1) (ad 2) 8192 o_text) (.int r1 :: []) ⟨hx, hb, hml, hown, hts⟩ (c_Bytes_get l D cI sd (ad 1) (ad 2) 8192 o_text o_this.2.1 r1 hcr1) (cwV2 hts q530 mvX0_get rfl rfl ⟨(Nat.le_of_ble_eq_true rfl), (Nat.le_of_ble_eq_true rfl)⟩) hK hE hA hP hD hS 4 (T := TX0) (N := 2) (ci := 0) rfl rfl [4, 5] rfl (by decide) rfl rfl rfl rfl rfl rfl hl.1 (Nat.le_of_ble_eq_true rfl) dX2_scanSign_13 ⟨Nat.zero_le _, Nat.zero_le _⟩ (fun H locs hP hD hS => ?_)
  refine lv_istore_n (lv' := [(2, .int r1), (1, .int o_this.2.1), (0, .ref (ad 10))]) hx hb dX2_scanSign_16 rfl hl (by decide) rfl (fun ls hl => ?_)
  refine lv_iload_n hx hb dX2_scanSign_17 rfl (lv_at hl 0 rfl) ?_
  refine lv_bipush (v := 8) hx hb dX2_scanSign_18 (by decide) ?_
  refine lv_ishl hx hb dX2_scanSign_20 ?_
  refine lv_iconst (v := 0) hx hb dX2_scanSign_21 (by decide) ?_
  refine lv_aload_n hx hb dX2_scanSign_22 rfl (lv_at hl 2 rfl) ?_
  refine va_get (D := D) (ci := 2) (v := .ref (ad 1)) (C := RX2) (T := TX2) (N := 7) hx hb hts layX2 hown hK hP 0 rfl rfl 0 (by decide) (hts _ (inA q331)) (fun _ h9 => h9) rfl dX2_scanSign_23 ?_
  refine lv_aload_n hx hb dX2_scanSign_26 rfl (lv_at hl 2 rfl) ?_
  refine va_get (D := D) (ci := 2) (v := .int o_this.2.1) (C := RX2) (T := TX2) (N := 7) hx hb hts layX2 hown hK hP 0 rfl rfl 6 (by decide) (hts _ (inA q341)) (fun _ h9 => h9) rfl dX2_scanSign_27 ?_
  refine lv_iconst (v := 1) hx hb dX2_scanSign_30 (by decide) ?_
  refine lv_iadd hx hb dX2_scanSign_31 ?_
  obtain ⟨r2, hcr2, hM⟩ := ob_use hM
  refine cl_V (As := [.int (o_this.2.1 + 1)]) (rest := [.int 0, .int (r1 <<< (8 &&& 31))]) (wK cI ad o_this ++ wB cI (ad 1) (ad 2) 8192 o_text) (.int r2 :: [.int 0, .int (r1 <<< (8 &&& 31))]) ⟨hx, hb, hml, hown, hts⟩ (c_Bytes_get l D cI sd (ad 1) (ad 2) 8192 o_text (o_this.2.1 + 1) r2 hcr2) (cwV2 hts q530 mvX0_get rfl rfl ⟨(Nat.le_of_ble_eq_true rfl), (Nat.le_of_ble_eq_true rfl)⟩) hK hE hA hP hD hS 4 (T := TX0) (N := 2) (ci := 0) rfl rfl [4, 5] rfl (by decide) rfl rfl rfl rfl rfl rfl hl.1 (Nat.le_of_ble_eq_true rfl) dX2_scanSign_32 ⟨Nat.zero_le _, Nat.zero_le _⟩ (fun H locs hP hD hS => ?_)
  obtain ⟨r3, hcr3, hM⟩ := ob_use hM
  refine cl_S (As := [.int 0, .int r2]) (rest := [.int (r1 <<< (8 &&& 31))]) (wK cI ad o_this ++ wB cI (ad 1) (ad 2) 8192 o_text) (.int r3 :: [.int (r1 <<< (8 &&& 31))]) ⟨hx, hb, hml, hown, hts⟩ (c_Math_max l D cI sd ad 0 r2 r3 hcr3) (cwS2 hts q597 mvX10_max rfl rfl ⟨(Nat.le_of_ble_eq_true rfl), (Nat.le_of_ble_eq_true rfl)⟩) hK hE hA hP hD hS [] rfl (by decide) rfl rfl rfl rfl rfl rfl hl.1 (Nat.le_of_ble_eq_true rfl) dX2_scanSign_35 ⟨Nat.zero_le _, Nat.zero_le _⟩ (fun H locs hP hD hS => ?_)
  refine lv_ior hx hb dX2_scanSign_38 ?_
  refine lv_topi (fun x4 ex4 => ?_)
  replace hM := nm_use ex4 hM
  refine lv_istore_n (lv' := [(3, .int x4), (2, .int r1), (1, .int o_this.2.1), (0, .ref (ad 10))]) hx hb dX2_scanSign_39 rfl hl (by decide) rfl (fun ls hl => ?_)
  refine lv_iload_n hx hb dX2_scanSign_40 rfl (lv_at hl 0 rfl) ?_
  obtain ⟨r5, hcr5, hM⟩ := ob_use hM
  refine cl_S (As := [.int x4]) (rest := []) (wK cI ad o_this ++ wB cI (ad 1) (ad 2) 8192 o_text) (.int r5 :: []) ⟨hx, hb, hml, hown, hts⟩ (c_Tokens_isSignOfTwo l D cI sd ad x4 r5 hcr5) (cwS2 hts q600 mvX2_isSignOfTwo rfl rfl ⟨(Nat.le_of_ble_eq_true rfl), (Nat.le_of_ble_eq_true rfl)⟩) hK hE hA hP hD hS [] rfl (by decide) rfl rfl rfl rfl rfl rfl hl.1 (Nat.le_of_ble_eq_true rfl) dX2_scanSign_41 ⟨Nat.zero_le _, Nat.zero_le _⟩ (fun H locs hP hD hS => ?_)
  refine lv_if_eq (tgt := 67) hx hb dX2_scanSign_44 (by decide) (fun c6 => ?_) (fun c6 => ?_)
  · replace hM := if_t c6 hM
    refine lv_iload_n hx hb dX2_scanSign_67 rfl (lv_at hl 1 rfl) ?_
    obtain ⟨r7, hcr7, hM⟩ := ob_use hM
    refine cl_S (As := [.int r1]) (rest := []) (wK cI ad o_this ++ wB cI (ad 1) (ad 2) 8192 o_text) (.int r7 :: []) ⟨hx, hb, hml, hown, hts⟩ (c_Tokens_isSignOfOne l D cI sd ad r1 r7 hcr7) (cwS2 hts q603 mvX2_isSignOfOne rfl rfl ⟨(Nat.le_of_ble_eq_true rfl), (Nat.le_of_ble_eq_true rfl)⟩) hK hE hA hP hD hS [] rfl (by decide) rfl rfl rfl rfl rfl rfl hl.1 (Nat.le_of_ble_eq_true rfl) dX2_scanSign_68 ⟨Nat.zero_le _, Nat.zero_le _⟩ (fun H locs hP hD hS => ?_)
    refine lv_if_eq (tgt := 94) hx hb dX2_scanSign_71 (by decide) (fun c8 => ?_) (fun c8 => ?_)
    · replace hM := if_t c8 hM
      refine lv_aload_n hx hb dX2_scanSign_94 rfl (lv_at hl 3 rfl) ?_
      refine lv_iconst (v := 5) hx hb dX2_scanSign_95 (by decide) ?_
      refine lv_iload_n hx hb dX2_scanSign_96 rfl (lv_at hl 2 rfl) ?_
      refine lv_iconst (v := 1) hx hb dX2_scanSign_97 (by decide) ?_
      obtain ⟨r9, hcr9, hM⟩ := ob_use hM
      refine cl_V (As := [.int 5, .int o_this.2.1, .int 1]) (rest := []) (wK cI ad r9 ++ wB cI (ad 1) (ad 2) 8192 o_text) [] ⟨hx, hb, hml, hown, hts⟩ (c_Tokens_add l D cI sd ad o_this 5 o_this.2.1 1 r9 hcr9) (cwV2 hts q535 mvX2_add rfl rfl ⟨(Nat.le_of_ble_eq_true rfl), (Nat.le_of_ble_eq_true rfl)⟩) hK hE hA hP hD hS 0 (T := TX2) (N := 7) (ci := 2) rfl rfl [0, 1, 2, 3] rfl (by decide) rfl rfl rfl rfl rfl rfl hl.1 (Nat.le_of_ble_eq_true rfl) dX2_scanSign_98 ⟨Nat.zero_le _, Nat.zero_le _⟩ (fun H locs hP hD hS => ?_)
      cases hM
      exact rt_v hx hb hr hlk hP hD hS rfl dX2_scanSign_101
    · replace hM := if_f c8 hM
      refine lv_aload_n hx hb dX2_scanSign_74 rfl (lv_at hl 3 rfl) ?_
      refine lv_dup hx hb dX2_scanSign_75 rfl ?_
      refine va_get (D := D) (ci := 2) (v := .int o_this.2.1) (C := RX2) (T := TX2) (N := 7) hx hb hts layX2 hown hK hP 0 rfl rfl 6 (by decide) (hts _ (inA q341)) (fun _ h9 => h9) rfl dX2_scanSign_76 ?_
      refine lv_iconst (v := 1) hx hb dX2_scanSign_79 (by decide) ?_
      refine lv_iadd hx hb dX2_scanSign_80 ?_
      refine va_put (D := D) (ci := 2) (v := .int (o_this.2.1 + 1)) (ty := .int) (C := RX2) (T := TX2) (N := 7) hx hb hts layX2 tyX2 tyX2_ok nmX2 hown hK hP hD hS 0 rfl rfl 6 (by decide) (hts _ (inA q341)) (fun _ h9 => h9) rfl (by decide +kernel) rfl rfl (Nat.le_of_ble_eq_true rfl) dX2_scanSign_81 (fun H locs hP hD hS => ?_)
      have hP : va_P D vwCl (wK cI ad (o_this.1, o_this.2.1 + 1, o_this.2.2) ++ wB cI (ad 1) (ad 2) 8192 o_text) H := hP
      have hD : va_D A (wK cI ad (o_this.1, o_this.2.1 + 1, o_this.2.2) ++ wB cI (ad 1) (ad 2) 8192 o_text) := hD
      refine lv_aload_n hx hb dX2_scanSign_84 rfl (lv_at hl 3 rfl) ?_
      refine lv_iload_n hx hb dX2_scanSign_85 rfl (lv_at hl 1 rfl) ?_
      refine lv_iload_n hx hb dX2_scanSign_86 rfl (lv_at hl 2 rfl) ?_
      refine lv_iconst (v := 0) hx hb dX2_scanSign_87 (by decide) ?_
      obtain ⟨r10, hcr10, hM⟩ := ob_use hM
      refine cl_V (As := [.int r1, .int o_this.2.1, .int 0]) (rest := []) (wK cI ad r10 ++ wB cI (ad 1) (ad 2) 8192 o_text) [] ⟨hx, hb, hml, hown, hts⟩ (c_Tokens_add l D cI sd ad (o_this.1, o_this.2.1 + 1, o_this.2.2) r1 o_this.2.1 0 r10 hcr10) (cwV2 hts q535 mvX2_add rfl rfl ⟨(Nat.le_of_ble_eq_true rfl), (Nat.le_of_ble_eq_true rfl)⟩) hK hE hA hP hD hS 0 (T := TX2) (N := 7) (ci := 2) rfl rfl [0, 1, 2, 3] rfl (by decide) rfl rfl rfl rfl rfl rfl hl.1 (Nat.le_of_ble_eq_true rfl) dX2_scanSign_88 ⟨Nat.zero_le _, Nat.zero_le _⟩ (fun H locs hP hD hS => ?_)
      refine lv_goto (tgt := 101) hx hb dX2_scanSign_91 (by decide) ?_
      cases hM
      exact rt_v hx hb hr hlk hP hD hS rfl dX2_scanSign_101
  · replace hM := if_f c6 hM
    refine lv_aload_n hx hb dX2_scanSign_47 rfl (lv_at hl 3 rfl) ?_
    refine lv_dup hx hb dX2_scanSign_48 rfl ?_
    refine va_get (D := D) (ci := 2) (v := .int o_this.2.1) (C := RX2) (T := TX2) (N := 7) hx hb hts layX2 hown hK hP 0 rfl rfl 6 (by decide) (hts _ (inA q341)) (fun _ h9 => h9) rfl dX2_scanSign_49 ?_
    refine lv_iconst (v := 2) hx hb dX2_scanSign_52 (by decide) ?_
    refine lv_iadd hx hb dX2_scanSign_53 ?_
    refine va_put (D := D) (ci := 2) (v := .int (o_this.2.1 + 2)) (ty := .int) (C := RX2) (T := TX2) (N := 7) hx hb hts layX2 tyX2 tyX2_ok nmX2 hown hK hP hD hS 0 rfl rfl 6 (by decide) (hts _ (inA q341)) (fun _ h9 => h9) rfl (by decide +kernel) rfl rfl (Nat.le_of_ble_eq_true rfl) dX2_scanSign_54 (fun H locs hP hD hS => ?_)
    have hP : va_P D vwCl (wK cI ad (o_this.1, o_this.2.1 + 2, o_this.2.2) ++ wB cI (ad 1) (ad 2) 8192 o_text) H := hP
    have hD : va_D A (wK cI ad (o_this.1, o_this.2.1 + 2, o_this.2.2) ++ wB cI (ad 1) (ad 2) 8192 o_text) := hD
    refine lv_aload_n hx hb dX2_scanSign_57 rfl (lv_at hl 3 rfl) ?_
    refine lv_iload_n hx hb dX2_scanSign_58 rfl (lv_at hl 0 rfl) ?_
    refine lv_iload_n hx hb dX2_scanSign_59 rfl (lv_at hl 2 rfl) ?_
    refine lv_iconst (v := 0) hx hb dX2_scanSign_60 (by decide) ?_
    obtain ⟨r11, hcr11, hM⟩ := ob_use hM
    refine cl_V (As := [.int x4, .int o_this.2.1, .int 0]) (rest := []) (wK cI ad r11 ++ wB cI (ad 1) (ad 2) 8192 o_text) [] ⟨hx, hb, hml, hown, hts⟩ (c_Tokens_add l D cI sd ad (o_this.1, o_this.2.1 + 2, o_this.2.2) x4 o_this.2.1 0 r11 hcr11) (cwV2 hts q535 mvX2_add rfl rfl ⟨(Nat.le_of_ble_eq_true rfl), (Nat.le_of_ble_eq_true rfl)⟩) hK hE hA hP hD hS 0 (T := TX2) (N := 7) (ci := 2) rfl rfl [0, 1, 2, 3] rfl (by decide) rfl rfl rfl rfl rfl rfl hl.1 (Nat.le_of_ble_eq_true rfl) dX2_scanSign_61 ⟨Nat.zero_le _, Nat.zero_le _⟩ (fun H locs hP hD hS => ?_)
    refine lv_goto (tgt := 101) hx hb dX2_scanSign_64 (by decide) ?_
    cases hM
    exact rt_v hx hb hr hlk hP hD hS rfl dX2_scanSign_101

set_option maxHeartbeats 4000000 in
set_option maxRecDepth 100000 in
theorem c_Tokens_unit (l : Launch) (D : va_G) (cI : ClassId) (sd : Nat → Nat) (ad : Nat → Nat) (o_this : S_Tokens) (o_text : S_Bytes) (res : Int64 × S_Tokens) (hM : f_Tokens_unit o_this o_text = some res) : Ctr l D cI sd yX2_unit (wsM yX2_unit cX2_unit 2 (Option.some Jvm.ClassFile.FieldType.long)) { frames := 1, cells := 0, slots := 0, locals := 21 } [.ref (ad 10)] (wK cI ad o_this ++ wB cI (ad 1) (ad 2) 8192 o_text) (wK cI ad res.2 ++ wB cI (ad 1) (ad 2) 8192 o_text) (some (.long res.1)) := by
  refine Ctr.of (cc := cX2_unit) (maxL := 2) (own := RX2) (by decide +kernel) rfl rfl (Nat.le_of_ble_eq_true rfl) ?_
  intro p e s m below meth c A ls hx hb hr hml hown hts hlk hK hE hA hP hD hS hl
  have hl : lv_has ls 2 [(0, .ref (ad 10))] := hl
  unfold f_Tokens_unit at hM
  refine lv_aload_n hx hb dX2_unit_0 rfl (lv_at hl 0 rfl) ?_
  refine va_get (D := D) (ci := 2) (v := .ref (ad 1)) (C := RX2) (T := TX2) (N := 7) hx hb hts layX2 hown hK hP 0 rfl rfl 0 (by decide) (hts _ (inA q331)) (fun _ h9 => h9) rfl dX2_unit_1 ?_
  refine lv_aload_n hx hb dX2_unit_4 rfl (lv_at hl 0 rfl) ?_
  refine va_get (D := D) (ci := 2) (v := .int o_this.2.1) (C := RX2) (T := TX2) (N := 7) hx hb hts layX2 hown hK hP 0 rfl rfl 6 (by decide) (hts _ (inA q341)) (fun _ h9 => h9) rfl dX2_unit_5 ?_
  obtain ⟨r1, hcr1, hM⟩ := ob_use hM
  refine cl_V (As := [.int o_this.2.1]) (rest := []) (wK cI ad o_this ++ wB cI (ad 1) (ad 2) 8192 o_text) (.int r1 :: []) ⟨hx, hb, hml, hown, hts⟩ (c_Bytes_get l D cI sd (ad 1) (ad 2) 8192 o_text o_this.2.1 r1 hcr1) (cwV2 hts q530 mvX0_get rfl rfl ⟨(Nat.le_of_ble_eq_true rfl), (Nat.le_of_ble_eq_true rfl)⟩) hK hE hA hP hD hS 4 (T := TX0) (N := 2) (ci := 0) rfl rfl [4, 5] rfl (by decide) rfl rfl rfl rfl rfl rfl hl.1 (Nat.le_of_ble_eq_true rfl) dX2_unit_8 ⟨Nat.zero_le _, Nat.zero_le _⟩ (fun H locs hP hD hS => ?_)
  obtain ⟨r2, hcr2, hM⟩ := ob_use hM
  refine cl_SN (As := [.int r1]) (rest := []) (wK cI ad o_this ++ wB cI (ad 1) (ad 2) 8192 o_text) (.int r2 :: []) ⟨hx, hb, hml, hown, hts⟩ (c_Top_great l D cI sd ad r1 r2 hcr2) (cwSN2 hts (nmE2 hE) mvX6_great rfl rfl ⟨(Nat.le_of_ble_eq_true rfl), (Nat.le_of_ble_eq_true rfl)⟩) hK hE hA hP hD hS [] rfl (by decide) rfl rfl rfl rfl rfl rfl hl.1 (Nat.le_of_ble_eq_true rfl) dX2_unit_11 ⟨Nat.zero_le _, Nat.zero_le _⟩ (fun H locs hP hD hS => ?_)
  refine lv_istore_n (lv' := [(1, .int r2), (0, .ref (ad 10))]) hx hb dX2_unit_14 rfl hl (by decide) rfl (fun ls hl => ?_)
  refine lv_iload_n hx hb dX2_unit_15 rfl (lv_at hl 0 rfl) ?_
  refine lv_bipush (v := 77) hx hb dX2_unit_16 (by decide) ?_
  refine lv_icmp_ne (tgt := 54) hx hb dX2_unit_18 (by decide) (fun c3 => ?_) (fun c3 => ?_)
  · replace hM := if_f c3 hM
    refine lv_aload_n hx hb dX2_unit_54 rfl (lv_at hl 1 rfl) ?_
    refine lv_dup hx hb dX2_unit_55 rfl ?_
    refine va_get (D := D) (ci := 2) (v := .int o_this.2.1) (C := RX2) (T := TX2) (N := 7) hx hb hts layX2 hown hK hP 0 rfl rfl 6 (by decide) (hts _ (inA q341)) (fun _ h9 => h9) rfl dX2_unit_56 ?_
    refine lv_iconst (v := 1) hx hb dX2_unit_59 (by decide) ?_
    refine lv_iadd hx hb dX2_unit_60 ?_
    refine va_put (D := D) (ci := 2) (v := .int (o_this.2.1 + 1)) (ty := .int) (C := RX2) (T := TX2) (N := 7) hx hb hts layX2 tyX2 tyX2_ok nmX2 hown hK hP hD hS 0 rfl rfl 6 (by decide) (hts _ (inA q341)) (fun _ h9 => h9) rfl (by decide +kernel) rfl rfl (Nat.le_of_ble_eq_true rfl) dX2_unit_61 (fun H locs hP hD hS => ?_)
    have hP : va_P D vwCl (wK cI ad (o_this.1, o_this.2.1 + 1, o_this.2.2) ++ wB cI (ad 1) (ad 2) 8192 o_text) H := hP
    have hD : va_D A (wK cI ad (o_this.1, o_this.2.1 + 1, o_this.2.2) ++ wB cI (ad 1) (ad 2) 8192 o_text) := hD
    refine lv_iload_n hx hb dX2_unit_64 rfl (lv_at hl 0 rfl) ?_
    by_cases c4 : r2 = 72
    · replace hM := if_t c4 hM
      refine lv_lookup (off := 43) (tgt := 108) hx hb dX2_unit_65 (by decide) (by exact sw_hit c4 (by decide)) (by decide) ?_
      refine lv_ldc2 (v := 3600000) hx hb hown (hts _ (inA q565)) dX2_unit_108 ?_
      cases hM
      exact rt_l hx hb hr hlk hP hD hS rfl dX2_unit_111
    replace hM := if_f c4 hM
    by_cases c5 : r2 = 77
    · replace hM := if_t c5 hM
      refine lv_lookup (off := 39) (tgt := 104) hx hb dX2_unit_65 (by decide) (by rw [lv_osw c4 (by decide)]; exact sw_hit c5 (by decide)) (by decide) ?_
      refine lv_ldc2 (v := 60000) hx hb hown (hts _ (inA q564)) dX2_unit_104 ?_
      cases hM
      exact rt_l hx hb hr hlk hP hD hS rfl dX2_unit_107
    replace hM := if_f c5 hM
    by_cases c6 : r2 = 83
    · replace hM := if_t c6 hM
      refine lv_lookup (off := 35) (tgt := 100) hx hb dX2_unit_65 (by decide) (by rw [lv_osw c4 (by decide)]; rw [lv_osw c5 (by decide)]; exact sw_hit c6 (by decide)) (by decide) ?_
      refine lv_ldc2 (v := 1000) hx hb hown (hts _ (inA q563)) dX2_unit_100 ?_
      cases hM
      exact rt_l hx hb hr hlk hP hD hS rfl dX2_unit_103
    replace hM := if_f c6 hM
    refine lv_lookup (off := 47) (tgt := 112) hx hb dX2_unit_65 (by decide) (by rw [lv_osw c4 (by decide)]; rw [lv_osw c5 (by decide)]; rw [lv_osw c6 (by decide)]; rfl) (by decide) ?_
    refine lv_ldc2 (v := (-1)) hx hb hown (hts _ (inA q558)) dX2_unit_112 ?_
    cases hM
    exact rt_l hx hb hr hlk hP hD hS rfl dX2_unit_115
  · replace hM := if_t c3 hM
    refine lv_aload_n hx hb dX2_unit_21 rfl (lv_at hl 1 rfl) ?_
    refine va_get (D := D) (ci := 2) (v := .ref (ad 1)) (C := RX2) (T := TX2) (N := 7) hx hb hts layX2 hown hK hP 0 rfl rfl 0 (by decide) (hts _ (inA q331)) (fun _ h9 => h9) rfl dX2_unit_22 ?_
    refine lv_aload_n hx hb dX2_unit_25 rfl (lv_at hl 1 rfl) ?_
    refine va_get (D := D) (ci := 2) (v := .int o_this.2.1) (C := RX2) (T := TX2) (N := 7) hx hb hts layX2 hown hK hP 0 rfl rfl 6 (by decide) (hts _ (inA q341)) (fun _ h9 => h9) rfl dX2_unit_26 ?_
    refine lv_iconst (v := 1) hx hb dX2_unit_29 (by decide) ?_
    refine lv_iadd hx hb dX2_unit_30 ?_
    obtain ⟨r7, hcr7, hM⟩ := ob_use hM
    refine cl_V (As := [.int (o_this.2.1 + 1)]) (rest := []) (wK cI ad o_this ++ wB cI (ad 1) (ad 2) 8192 o_text) (.int r7 :: []) ⟨hx, hb, hml, hown, hts⟩ (c_Bytes_get l D cI sd (ad 1) (ad 2) 8192 o_text (o_this.2.1 + 1) r7 hcr7) (cwV2 hts q530 mvX0_get rfl rfl ⟨(Nat.le_of_ble_eq_true rfl), (Nat.le_of_ble_eq_true rfl)⟩) hK hE hA hP hD hS 4 (T := TX0) (N := 2) (ci := 0) rfl rfl [4, 5] rfl (by decide) rfl rfl rfl rfl rfl rfl hl.1 (Nat.le_of_ble_eq_true rfl) dX2_unit_31 ⟨Nat.zero_le _, Nat.zero_le _⟩ (fun H locs hP hD hS => ?_)
    obtain ⟨r8, hcr8, hM⟩ := ob_use hM
    refine cl_SN (As := [.int r7]) (rest := []) (wK cI ad o_this ++ wB cI (ad 1) (ad 2) 8192 o_text) (.int r8 :: []) ⟨hx, hb, hml, hown, hts⟩ (c_Top_great l D cI sd ad r7 r8 hcr8) (cwSN2 hts (nmE2 hE) mvX6_great rfl rfl ⟨(Nat.le_of_ble_eq_true rfl), (Nat.le_of_ble_eq_true rfl)⟩) hK hE hA hP hD hS [] rfl (by decide) rfl rfl rfl rfl rfl rfl hl.1 (Nat.le_of_ble_eq_true rfl) dX2_unit_34 ⟨Nat.zero_le _, Nat.zero_le _⟩ (fun H locs hP hD hS => ?_)
    refine lv_bipush (v := 83) hx hb dX2_unit_37 (by decide) ?_
    refine lv_icmp_ne (tgt := 54) hx hb dX2_unit_39 (by decide) (fun c9 => ?_) (fun c9 => ?_)
    · replace hM := if_f c9 hM
      refine lv_aload_n hx hb dX2_unit_54 rfl (lv_at hl 1 rfl) ?_
      refine lv_dup hx hb dX2_unit_55 rfl ?_
      refine va_get (D := D) (ci := 2) (v := .int o_this.2.1) (C := RX2) (T := TX2) (N := 7) hx hb hts layX2 hown hK hP 0 rfl rfl 6 (by decide) (hts _ (inA q341)) (fun _ h9 => h9) rfl dX2_unit_56 ?_
      refine lv_iconst (v := 1) hx hb dX2_unit_59 (by decide) ?_
      refine lv_iadd hx hb dX2_unit_60 ?_
      refine va_put (D := D) (ci := 2) (v := .int (o_this.2.1 + 1)) (ty := .int) (C := RX2) (T := TX2) (N := 7) hx hb hts layX2 tyX2 tyX2_ok nmX2 hown hK hP hD hS 0 rfl rfl 6 (by decide) (hts _ (inA q341)) (fun _ h9 => h9) rfl (by decide +kernel) rfl rfl (Nat.le_of_ble_eq_true rfl) dX2_unit_61 (fun H locs hP hD hS => ?_)
      have hP : va_P D vwCl (wK cI ad (o_this.1, o_this.2.1 + 1, o_this.2.2) ++ wB cI (ad 1) (ad 2) 8192 o_text) H := hP
      have hD : va_D A (wK cI ad (o_this.1, o_this.2.1 + 1, o_this.2.2) ++ wB cI (ad 1) (ad 2) 8192 o_text) := hD
      refine lv_iload_n hx hb dX2_unit_64 rfl (lv_at hl 0 rfl) ?_
      by_cases c10 : r2 = 72
      · replace hM := if_t c10 hM
        refine lv_lookup (off := 43) (tgt := 108) hx hb dX2_unit_65 (by decide) (by exact sw_hit c10 (by decide)) (by decide) ?_
        refine lv_ldc2 (v := 3600000) hx hb hown (hts _ (inA q565)) dX2_unit_108 ?_
        cases hM
        exact rt_l hx hb hr hlk hP hD hS rfl dX2_unit_111
      replace hM := if_f c10 hM
      by_cases c11 : r2 = 77
      · replace hM := if_t c11 hM
        refine lv_lookup (off := 39) (tgt := 104) hx hb dX2_unit_65 (by decide) (by rw [lv_osw c10 (by decide)]; exact sw_hit c11 (by decide)) (by decide) ?_
        refine lv_ldc2 (v := 60000) hx hb hown (hts _ (inA q564)) dX2_unit_104 ?_
        cases hM
        exact rt_l hx hb hr hlk hP hD hS rfl dX2_unit_107
      replace hM := if_f c11 hM
      by_cases c12 : r2 = 83
      · replace hM := if_t c12 hM
        refine lv_lookup (off := 35) (tgt := 100) hx hb dX2_unit_65 (by decide) (by rw [lv_osw c10 (by decide)]; rw [lv_osw c11 (by decide)]; exact sw_hit c12 (by decide)) (by decide) ?_
        refine lv_ldc2 (v := 1000) hx hb hown (hts _ (inA q563)) dX2_unit_100 ?_
        cases hM
        exact rt_l hx hb hr hlk hP hD hS rfl dX2_unit_103
      replace hM := if_f c12 hM
      refine lv_lookup (off := 47) (tgt := 112) hx hb dX2_unit_65 (by decide) (by rw [lv_osw c10 (by decide)]; rw [lv_osw c11 (by decide)]; rw [lv_osw c12 (by decide)]; rfl) (by decide) ?_
      refine lv_ldc2 (v := (-1)) hx hb hown (hts _ (inA q558)) dX2_unit_112 ?_
      cases hM
      exact rt_l hx hb hr hlk hP hD hS rfl dX2_unit_115
    · replace hM := if_t c9 hM
      refine lv_aload_n hx hb dX2_unit_42 rfl (lv_at hl 1 rfl) ?_
      refine lv_dup hx hb dX2_unit_43 rfl ?_
      refine va_get (D := D) (ci := 2) (v := .int o_this.2.1) (C := RX2) (T := TX2) (N := 7) hx hb hts layX2 hown hK hP 0 rfl rfl 6 (by decide) (hts _ (inA q341)) (fun _ h9 => h9) rfl dX2_unit_44 ?_
      refine lv_iconst (v := 2) hx hb dX2_unit_47 (by decide) ?_
      refine lv_iadd hx hb dX2_unit_48 ?_
      refine va_put (D := D) (ci := 2) (v := .int (o_this.2.1 + 2)) (ty := .int) (C := RX2) (T := TX2) (N := 7) hx hb hts layX2 tyX2 tyX2_ok nmX2 hown hK hP hD hS 0 rfl rfl 6 (by decide) (hts _ (inA q341)) (fun _ h9 => h9) rfl (by decide +kernel) rfl rfl (Nat.le_of_ble_eq_true rfl) dX2_unit_49 (fun H locs hP hD hS => ?_)
      have hP : va_P D vwCl (wK cI ad (o_this.1, o_this.2.1 + 2, o_this.2.2) ++ wB cI (ad 1) (ad 2) 8192 o_text) H := hP
      have hD : va_D A (wK cI ad (o_this.1, o_this.2.1 + 2, o_this.2.2) ++ wB cI (ad 1) (ad 2) 8192 o_text) := hD
      refine lv_lconst (v := 1) hx hb dX2_unit_52 (by decide) ?_
      cases hM
      exact rt_l hx hb hr hlk hP hD hS rfl dX2_unit_53

set_option maxHeartbeats 4000000 in
set_option maxRecDepth 100000 in
theorem c_Tokens_scanTime (l : Launch) (D : va_G) (cI : ClassId) (sd : Nat → Nat) (ad : Nat → Nat) (o_this : S_Tokens) (o_text : S_Bytes) (res : S_Tokens) (hM : f_Tokens_scanTime o_this o_text = some res) : Ctr l D cI sd yX2_scanTime (wsM yX2_scanTime cX2_scanTime 6 (Option.none : Option Jvm.ClassFile.FieldType)) { frames := 3, cells := 0, slots := 0, locals := 67 } [.ref (ad 10)] (wK cI ad o_this ++ wB cI (ad 1) (ad 2) 8192 o_text) (wK cI ad res ++ wB cI (ad 1) (ad 2) 8192 o_text) none := by
  refine Ctr.of (cc := cX2_scanTime) (maxL := 6) (own := RX2) (by decide +kernel) rfl rfl (Nat.le_of_ble_eq_true rfl) ?_
  intro p e s m below meth c A ls hx hb hr hml hown hts hlk hK hE hA hP hD hS hl
  have hl : lv_has ls 6 [(0, .ref (ad 10))] := hl
  unfold f_Tokens_scanTime at hM
  refine lv_aload_n hx hb dX2_scanTime_0 rfl (lv_at hl 0 rfl) ?_
  refine va_get (D := D) (ci := 2) (v := .int o_this.2.1) (C := RX2) (T := TX2) (N := 7) hx hb hts layX2 hown hK hP 0 rfl rfl 6 (by decide) (hts _ (inA q341)) (fun _ h9 => h9) rfl dX2_scanTime_1 ?_
  refine lv_istore_n (lv' := [(1, .int o_this.2.1), (0, .ref (ad 10))]) hx hb dX2_scanTime_4 rfl hl (by decide) rfl (fun ls hl => ?_)
  refine lv_aload_n hx hb dX2_scanTime_5 rfl (lv_at hl 1 rfl) ?_
  refine lv_dup hx hb dX2_scanTime_6 rfl ?_
  refine va_get (D := D) (ci := 2) (v := .int o_this.2.1) (C := RX2) (T := TX2) (N := 7) hx hb hts layX2 hown hK hP 0 rfl rfl 6 (by decide) (hts _ (inA q341)) (fun _ h9 => h9) rfl dX2_scanTime_7 ?_
  refine lv_iconst (v := 2) hx hb dX2_scanTime_10 (by decide) ?_
  refine lv_iadd hx hb dX2_scanTime_11 ?_
  refine va_put (D := D) (ci := 2) (v := .int (o_this.2.1 + 2)) (ty := .int) (C := RX2) (T := TX2) (N := 7) hx hb hts layX2 tyX2 tyX2_ok nmX2 hown hK hP hD hS 0 rfl rfl 6 (by decide) (hts _ (inA q341)) (fun _ h9 => h9) rfl (by decide +kernel) rfl rfl (Nat.le_of_ble_eq_true rfl) dX2_scanTime_12 (fun H locs hP hD hS => ?_)
  have hP : va_P D vwCl (wK cI ad (o_this.1, o_this.2.1 + 2, o_this.2.2) ++ wB cI (ad 1) (ad 2) 8192 o_text) H := hP
  have hD : va_D A (wK cI ad (o_this.1, o_this.2.1 + 2, o_this.2.2) ++ wB cI (ad 1) (ad 2) 8192 o_text) := hD
  refine lv_aload_n hx hb dX2_scanTime_15 rfl (lv_at hl 1 rfl) ?_
  refine lv_bipush (v := 10) hx hb dX2_scanTime_16 (by decide) ?_
  obtain ⟨r1, hcr1, hM⟩ := ob_use hM
  refine cl_V (As := [.int 10]) (rest := []) (wK cI ad r1.2 ++ wB cI (ad 1) (ad 2) 8192 o_text) (.long r1.1 :: []) ⟨hx, hb, hml, hown, hts⟩ (c_Tokens_digits l D cI sd ad (o_this.1, o_this.2.1 + 2, o_this.2.2) o_text 10 r1 hcr1) (cwV2 hts q544 mvX2_digits rfl rfl ⟨(Nat.le_of_ble_eq_true rfl), (Nat.le_of_ble_eq_true rfl)⟩) hK hE hA hP hD hS 0 (T := TX2) (N := 7) (ci := 2) rfl rfl [0, 1, 2, 3, 4, 5] rfl (by decide) rfl rfl rfl rfl rfl rfl hl.1 (Nat.le_of_ble_eq_true rfl) dX2_scanTime_18 ⟨Nat.zero_le _, Nat.zero_le _⟩ (fun H locs hP hD hS => ?_)
  refine lv_lstore_n (lv' := [(2, .long r1.1), (1, .int o_this.2.1), (0, .ref (ad 10))]) hx hb dX2_scanTime_21 rfl hl (by decide) rfl (fun ls hl => ?_)
  refine lv_aload_n hx hb dX2_scanTime_22 rfl (lv_at hl 2 rfl) ?_
  obtain ⟨r2, hcr2, hM⟩ := ob_use hM
  refine cl_V (As := []) (rest := []) (wK cI ad r2.2 ++ wB cI (ad 1) (ad 2) 8192 o_text) (.long r2.1 :: []) ⟨hx, hb, hml, hown, hts⟩ (c_Tokens_unit l D cI sd ad r1.2 o_text r2 hcr2) (cwV2 hts q559 mvX2_unit rfl rfl ⟨(Nat.le_of_ble_eq_true rfl), (Nat.le_of_ble_eq_true rfl)⟩) hK hE hA hP hD hS 0 (T := TX2) (N := 7) (ci := 2) rfl rfl [0, 1, 2, 3, 4, 5] rfl (by decide) rfl rfl rfl rfl rfl rfl hl.1 (Nat.le_of_ble_eq_true rfl) dX2_scanTime_23 ⟨Nat.zero_le _, Nat.zero_le _⟩ (fun H locs hP hD hS => ?_)
  refine lv_lstore (lv' := [(4, .long r2.1), (2, .long r1.1), (1, .int o_this.2.1), (0, .ref (ad 10))]) hx hb dX2_scanTime_26 hl (by decide) rfl (fun ls hl => ?_)
  refine lv_aload_n hx hb dX2_scanTime_28 rfl (lv_at hl 3 rfl) ?_
  refine lv_iload_n hx hb dX2_scanTime_29 rfl (lv_at hl 2 rfl) ?_
  refine lv_lload_n hx hb dX2_scanTime_30 rfl (lv_at hl 1 rfl) ?_
  refine lv_ldc2 (v := (-1)) hx hb hown (hts _ (inA q558)) dX2_scanTime_31 ?_
  refine W.lcmp hx hb dX2_scanTime_34 ?_
  refine lv_if_eq (tgt := 47) hx hb dX2_scanTime_35 (by decide) (fun c3 => ?_) (fun c3 => ?_)
  · replace hM := if_t c3 hM
    refine lv_ldc2 (v := (-1)) hx hb hown (hts _ (inA q558)) dX2_scanTime_47 ?_
    refine lv_goto (tgt := 57) hx hb dX2_scanTime_50 (by decide) ?_
    obtain ⟨r4, hcr4, hM⟩ := ob_use hM
    refine cl_V (As := [.int o_this.2.1, .long (-1)]) (rest := []) (wK cI ad r4 ++ wB cI (ad 1) (ad 2) 8192 o_text) [] ⟨hx, hb, hml, hown, hts⟩ (c_Tokens_addNumber l D cI sd ad r2.2 o_text o_this.2.1 (-1) r4 hcr4) (cwV2 hts q566 mvX2_addNumber rfl rfl ⟨(Nat.le_of_ble_eq_true rfl), (Nat.le_of_ble_eq_true rfl)⟩) hK hE hA hP hD hS 0 (T := TX2) (N := 7) (ci := 2) rfl rfl [0, 1, 2, 3, 4, 5] rfl (by decide) rfl rfl rfl rfl rfl rfl hl.1 (Nat.le_of_ble_eq_true rfl) dX2_scanTime_57 ⟨Nat.zero_le _, Nat.zero_le _⟩ (fun H locs hP hD hS => ?_)
    cases hM
    exact rt_v hx hb hr hlk hP hD hS rfl dX2_scanTime_60
  · replace hM := if_f c3 hM
    refine lv_lload hx hb dX2_scanTime_38 (lv_at hl 0 rfl) ?_
    refine lv_ldc2 (v := (-1)) hx hb hown (hts _ (inA q558)) dX2_scanTime_40 ?_
    refine W.lcmp hx hb dX2_scanTime_43 ?_
    refine lv_if_ne (tgt := 53) hx hb dX2_scanTime_44 (by decide) (fun c5 => ?_) (fun c5 => ?_)
    · replace hM := if_f c5 hM
      refine lv_lload_n hx hb dX2_scanTime_53 rfl (lv_at hl 1 rfl) ?_
      refine lv_lload hx hb dX2_scanTime_54 (lv_at hl 0 rfl) ?_
      refine lv_lmul hx hb dX2_scanTime_56 ?_
      obtain ⟨r6, hcr6, hM⟩ := ob_use hM
      refine cl_V (As := [.int o_this.2.1, .long (r1.1 * r2.1)]) (rest := []) (wK cI ad r6 ++ wB cI (ad 1) (ad 2) 8192 o_text) [] ⟨hx, hb, hml, hown, hts⟩ (c_Tokens_addNumber l D cI sd ad r2.2 o_text o_this.2.1 (r1.1 * r2.1) r6 hcr6) (cwV2 hts q566 mvX2_addNumber rfl rfl ⟨(Nat.le_of_ble_eq_true rfl), (Nat.le_of_ble_eq_true rfl)⟩) hK hE hA hP hD hS 0 (T := TX2) (N := 7) (ci := 2) rfl rfl [0, 1, 2, 3, 4, 5] rfl (by decide) rfl rfl rfl rfl rfl rfl hl.1 (Nat.le_of_ble_eq_true rfl) dX2_scanTime_57 ⟨Nat.zero_le _, Nat.zero_le _⟩ (fun H locs hP hD hS => ?_)
      cases hM
      exact rt_v hx hb hr hlk hP hD hS rfl dX2_scanTime_60
    · replace hM := if_t c5 hM
      refine lv_ldc2 (v := (-1)) hx hb hown (hts _ (inA q558)) dX2_scanTime_47 ?_
      refine lv_goto (tgt := 57) hx hb dX2_scanTime_50 (by decide) ?_
      obtain ⟨r7, hcr7, hM⟩ := ob_use hM
      refine cl_V (As := [.int o_this.2.1, .long (-1)]) (rest := []) (wK cI ad r7 ++ wB cI (ad 1) (ad 2) 8192 o_text) [] ⟨hx, hb, hml, hown, hts⟩ (c_Tokens_addNumber l D cI sd ad r2.2 o_text o_this.2.1 (-1) r7 hcr7) (cwV2 hts q566 mvX2_addNumber rfl rfl ⟨(Nat.le_of_ble_eq_true rfl), (Nat.le_of_ble_eq_true rfl)⟩) hK hE hA hP hD hS 0 (T := TX2) (N := 7) (ci := 2) rfl rfl [0, 1, 2, 3, 4, 5] rfl (by decide) rfl rfl rfl rfl rfl rfl hl.1 (Nat.le_of_ble_eq_true rfl) dX2_scanTime_57 ⟨Nat.zero_le _, Nat.zero_le _⟩ (fun H locs hP hD hS => ?_)
      cases hM
      exact rt_v hx hb hr hlk hP hD hS rfl dX2_scanTime_60

set_option maxHeartbeats 4000000 in
set_option maxRecDepth 100000 in
theorem c_Tokens_endOfComment (l : Launch) (D : va_G) (cI : ClassId) (sd : Nat → Nat) (ad : Nat → Nat) (o_this : S_Tokens) (o_text : S_Bytes) (a1 : Int32) (res : Int32) (hM : f_Tokens_endOfComment o_this o_text a1 = some res) : Ctr l D cI sd yX2_endOfComment (wsM yX2_endOfComment cX2_endOfComment 3 (Option.some Jvm.ClassFile.FieldType.int)) { frames := 1, cells := 0, slots := 0, locals := 21 } [.ref (ad 10), .int a1] (wK cI ad o_this ++ wB cI (ad 1) (ad 2) 8192 o_text) (wK cI ad o_this ++ wB cI (ad 1) (ad 2) 8192 o_text) (some (.int res)) := by
  refine Ctr.of (cc := cX2_endOfComment) (maxL := 3) (own := RX2) (by decide +kernel) rfl rfl (Nat.le_of_ble_eq_true rfl) ?_
  intro p e s m below meth c A ls hx hb hr hml hown hts hlk hK hE hA hP hD hS hl
  have hl : lv_has ls 3 [(0, .ref (ad 10)), (1, .int a1)] := hl
  unfold f_Tokens_endOfComment at hM
  refine lv_iload_n hx hb dX2_endOfComment_0 rfl (lv_at hl 1 rfl) ?_
  refine lv_istore_n (lv' := [(2, .int a1), (0, .ref (ad 10)), (1, .int a1)]) hx hb dX2_endOfComment_1 rfl hl (by decide) rfl (fun ls hl => ?_)
  have lp_L2 : ∀ (n : Nat) (v2_L2 : Int32) (H : Heap) (locs : List Loc) (ls : Array Slot), f_Tokens_endOfComment_L2 o_text n v2_L2 = some res → va_P D vwCl (wK cI ad o_this ++ wB cI (ad 1) (ad 2) 8192 o_text) H → va_D A (wK cI ad o_this ++ wB cI (ad 1) (ad 2) 8192 o_text) → va_S A s.heap H locs → lv_has ls 3 [(2, .int v2_L2), (0, .ref (ad 10))] → W p l e { frames := 1, cells := 0, slots := 0, locals := 21 } s m [.ref (ad 10), .int a1].toArray below meth c H locs 0 0 (MQ below (CQ D A (wK cI ad o_this ++ wB cI (ad 1) (ad 2) 8192 o_text) (some (.int res))) [.ref (ad 10), .int a1].toArray s 0 0 A) (F0 m 2 ls []) := by
    intro n
    induction n with
    | zero => intro v2_L2 H locs ls hM; exact absurd (show none = some _ from hM) (by simp)
    | succ n ih_L2 =>
      intro v2_L2 H locs ls hM hP hD hS hl
      rw [f_Tokens_endOfComment_L2] at hM
      refine lv_iload_n hx hb dX2_endOfComment_2 rfl (lv_at hl 0 rfl) ?_
      refine lv_aload_n hx hb dX2_endOfComment_3 rfl (lv_at hl 1 rfl) ?_
      refine va_get (D := D) (ci := 2) (v := .ref (ad 1)) (C := RX2) (T := TX2) (N := 7) hx hb hts layX2 hown hK hP 0 rfl rfl 0 (by decide) (hts _ (inA q331)) (fun _ h9 => h9) rfl dX2_endOfComment_4 ?_
      refine va_getN (D := D) (ci := 0) (v := .int o_text.1) (C := RX0) (T := TX0) (N := 2) hx hb hts layX0 hown hK hP 4 rfl rfl 1 (by decide) (nfE1 hE) (fun _ h9 => h9) rfl dX2_endOfComment_7 ?_
      refine lv_icmp_ge (tgt := 51) hx hb dX2_endOfComment_10 (by decide) (fun c1 => ?_) (fun c1 => ?_)
      · replace hM := if_t c1 hM
        refine lv_iconst (v := (-1)) hx hb dX2_endOfComment_51 (by decide) ?_
        cases hM
        exact rt_i hx hb hr hlk hP hD hS rfl dX2_endOfComment_52
      · replace hM := if_f c1 hM
        refine lv_aload_n hx hb dX2_endOfComment_13 rfl (lv_at hl 1 rfl) ?_
        refine va_get (D := D) (ci := 2) (v := .ref (ad 1)) (C := RX2) (T := TX2) (N := 7) hx hb hts layX2 hown hK hP 0 rfl rfl 0 (by decide) (hts _ (inA q331)) (fun _ h9 => h9) rfl dX2_endOfComment_14 ?_
        refine lv_iload_n hx hb dX2_endOfComment_17 rfl (lv_at hl 0 rfl) ?_
        obtain ⟨r2, hcr2, hM⟩ := ob_use hM
        refine cl_V (As := [.int v2_L2]) (rest := []) (wK cI ad o_this ++ wB cI (ad 1) (ad 2) 8192 o_text) (.int r2 :: []) ⟨hx, hb, hml, hown, hts⟩ (c_Bytes_get l D cI sd (ad 1) (ad 2) 8192 o_text v2_L2 r2 hcr2) (cwV2 hts q530 mvX0_get rfl rfl ⟨(Nat.le_of_ble_eq_true rfl), (Nat.le_of_ble_eq_true rfl)⟩) hK hE hA hP hD hS 4 (T := TX0) (N := 2) (ci := 0) rfl rfl [4, 5] rfl (by decide) rfl rfl rfl rfl rfl rfl hl.1 (Nat.le_of_ble_eq_true rfl) dX2_endOfComment_18 ⟨Nat.zero_le _, Nat.zero_le _⟩ (fun H locs hP hD hS => ?_)
        refine lv_bipush (v := 42) hx hb dX2_endOfComment_21 (by decide) ?_
        refine lv_icmp_ne (tgt := 45) hx hb dX2_endOfComment_23 (by decide) (fun c3 => ?_) (fun c3 => ?_)
        · replace hM := if_f c3 hM
          obtain ⟨x4, ex4⟩ : ∃ y : Int32, y = v2_L2 + 1 := ⟨_, rfl⟩
          replace hM := nm_use ex4 hM
          refine lv_iinc (v := x4) (lv' := [(2, .int x4), (0, .ref (ad 10))]) hx hb dX2_endOfComment_45 hl (k := 0) rfl (by rw [ex4]; rfl) (by decide) rfl (fun ls hl => ?_)
          refine lv_goto (tgt := 2) hx hb dX2_endOfComment_48 (by decide) ?_
          exact ih_L2 x4 _ _ _ hM hP hD hS (lv_sub hl [0, 1] rfl)
        · replace hM := if_t c3 hM
          refine lv_aload_n hx hb dX2_endOfComment_26 rfl (lv_at hl 1 rfl) ?_
          refine va_get (D := D) (ci := 2) (v := .ref (ad 1)) (C := RX2) (T := TX2) (N := 7) hx hb hts layX2 hown hK hP 0 rfl rfl 0 (by decide) (hts _ (inA q331)) (fun _ h9 => h9) rfl dX2_endOfComment_27 ?_
          refine lv_iload_n hx hb dX2_endOfComment_30 rfl (lv_at hl 0 rfl) ?_
          refine lv_iconst (v := 1) hx hb dX2_endOfComment_31 (by decide) ?_
          refine lv_iadd hx hb dX2_endOfComment_32 ?_
          obtain ⟨r5, hcr5, hM⟩ := ob_use hM
          refine cl_V (As := [.int (v2_L2 + 1)]) (rest := []) (wK cI ad o_this ++ wB cI (ad 1) (ad 2) 8192 o_text) (.int r5 :: []) ⟨hx, hb, hml, hown, hts⟩ (c_Bytes_get l D cI sd (ad 1) (ad 2) 8192 o_text (v2_L2 + 1) r5 hcr5) (cwV2 hts q530 mvX0_get rfl rfl ⟨(Nat.le_of_ble_eq_true rfl), (Nat.le_of_ble_eq_true rfl)⟩) hK hE hA hP hD hS 4 (T := TX0) (N := 2) (ci := 0) rfl rfl [4, 5] rfl (by decide) rfl rfl rfl rfl rfl rfl hl.1 (Nat.le_of_ble_eq_true rfl) dX2_endOfComment_33 ⟨Nat.zero_le _, Nat.zero_le _⟩ (fun H locs hP hD hS => ?_)
          refine lv_bipush (v := 41) hx hb dX2_endOfComment_36 (by decide) ?_
          refine lv_icmp_ne (tgt := 45) hx hb dX2_endOfComment_38 (by decide) (fun c6 => ?_) (fun c6 => ?_)
          · replace hM := if_f c6 hM
            obtain ⟨x7, ex7⟩ : ∃ y : Int32, y = v2_L2 + 1 := ⟨_, rfl⟩
            replace hM := nm_use ex7 hM
            refine lv_iinc (v := x7) (lv' := [(2, .int x7), (0, .ref (ad 10))]) hx hb dX2_endOfComment_45 hl (k := 0) rfl (by rw [ex7]; rfl) (by decide) rfl (fun ls hl => ?_)
            refine lv_goto (tgt := 2) hx hb dX2_endOfComment_48 (by decide) ?_
            exact ih_L2 x7 _ _ _ hM hP hD hS (lv_sub hl [0, 1] rfl)
          · replace hM := if_t c6 hM
            refine lv_iload_n hx hb dX2_endOfComment_41 rfl (lv_at hl 0 rfl) ?_
            refine lv_iconst (v := 2) hx hb dX2_endOfComment_42 (by decide) ?_
            refine lv_iadd hx hb dX2_endOfComment_43 ?_
            cases hM
            exact rt_i hx hb hr hlk hP hD hS rfl dX2_endOfComment_44
  exact lp_L2 FU a1 _ _ _ hM hP hD hS (lv_sub hl [0, 1] rfl)

set_option maxHeartbeats 4000000 in
set_option maxRecDepth 100000 in
theorem c_Tokens_skipBlanks (l : Launch) (D : va_G) (cI : ClassId) (sd : Nat → Nat) (ad : Nat → Nat) (o_this : S_Tokens) (o_text : S_Bytes) (res : Int32 × S_Tokens) (hM : f_Tokens_skipBlanks o_this o_text = some res) : Ctr l D cI sd yX2_skipBlanks (wsM yX2_skipBlanks cX2_skipBlanks 4 (Option.some Jvm.ClassFile.FieldType.boolean)) { frames := 2, cells := 0, slots := 0, locals := 43 } [.ref (ad 10)] (wK cI ad o_this ++ wB cI (ad 1) (ad 2) 8192 o_text) (wK cI ad res.2 ++ wB cI (ad 1) (ad 2) 8192 o_text) (some (.int res.1)) := by
  refine Ctr.of (cc := cX2_skipBlanks) (maxL := 4) (own := RX2) (by decide +kernel) rfl rfl (Nat.le_of_ble_eq_true rfl) ?_
  intro p e s m below meth c A ls hx hb hr hml hown hts hlk hK hE hA hP hD hS hl
  have hl : lv_has ls 4 [(0, .ref (ad 10))] := hl
  unfold f_Tokens_skipBlanks at hM
  refine lv_iconst (v := 0) hx hb dX2_skipBlanks_0 (by decide) ?_
  refine lv_istore_n (lv' := [(1, .int 0), (0, .ref (ad 10))]) hx hb dX2_skipBlanks_1 rfl hl (by decide) rfl (fun ls hl => ?_)
  have lp_L2 : ∀ (n : Nat) (v1_L2 : Int32) (o_this_L2 : S_Tokens) (H : Heap) (locs : List Loc) (ls : Array Slot), f_Tokens_skipBlanks_L2 o_text n v1_L2 o_this_L2 = some res → va_P D vwCl (wK cI ad o_this_L2 ++ wB cI (ad 1) (ad 2) 8192 o_text) H → va_D A (wK cI ad o_this_L2 ++ wB cI (ad 1) (ad 2) 8192 o_text) → va_S A s.heap H locs → lv_has ls 4 [(1, .int v1_L2), (0, .ref (ad 10))] → W p l e { frames := 2, cells := 0, slots := 0, locals := 43 } s m [.ref (ad 10)].toArray below meth c H locs 0 0 (MQ below (CQ D A (wK cI ad res.2 ++ wB cI (ad 1) (ad 2) 8192 o_text) (some (.int res.1))) [.ref (ad 10)].toArray s 0 0 A) (F0 m 2 ls []) := by
    intro n
    induction n with
    | zero => intro v1_L2 o_this_L2 H locs ls hM; exact absurd (show none = some _ from hM) (by simp)
    | succ n ih_L2 =>
      intro v1_L2 o_this_L2 H locs ls hM hP hD hS hl
      rw [f_Tokens_skipBlanks_L2] at hM
      refine lv_iload_n hx hb dX2_skipBlanks_2 rfl (lv_at hl 0 rfl) ?_
      refine lv_sipush (v := 8192) hx hb dX2_skipBlanks_3 (by decide) ?_
      refine lv_icmp_gt (tgt := 116) hx hb dX2_skipBlanks_6 (by decide) (fun c1 => ?_) (fun c1 => ?_)
      · replace hM := if_t c1 hM
        refine lv_iconst (v := 1) hx hb dX2_skipBlanks_116 (by decide) ?_
        cases hM
        exact rt_z hx hb hr hlk (by decide) hP hD hS rfl dX2_skipBlanks_117
      · replace hM := if_f c1 hM
        refine lv_aload_n hx hb dX2_skipBlanks_9 rfl (lv_at hl 1 rfl) ?_
        refine va_get (D := D) (ci := 2) (v := .ref (ad 1)) (C := RX2) (T := TX2) (N := 7) hx hb hts layX2 hown hK hP 0 rfl rfl 0 (by decide) (hts _ (inA q331)) (fun _ h9 => h9) rfl dX2_skipBlanks_10 ?_
        refine lv_aload_n hx hb dX2_skipBlanks_13 rfl (lv_at hl 1 rfl) ?_
        refine va_get (D := D) (ci := 2) (v := .int o_this_L2.2.1) (C := RX2) (T := TX2) (N := 7) hx hb hts layX2 hown hK hP 0 rfl rfl 6 (by decide) (hts _ (inA q341)) (fun _ h9 => h9) rfl dX2_skipBlanks_14 ?_
        obtain ⟨r2, hcr2, hM⟩ := ob_use hM
        refine cl_V (As := [.int o_this_L2.2.1]) (rest := []) (wK cI ad o_this_L2 ++ wB cI (ad 1) (ad 2) 8192 o_text) (.int r2 :: []) ⟨hx, hb, hml, hown, hts⟩ (c_Bytes_get l D cI sd (ad 1) (ad 2) 8192 o_text o_this_L2.2.1 r2 hcr2) (cwV2 hts q530 mvX0_get rfl rfl ⟨(Nat.le_of_ble_eq_true rfl), (Nat.le_of_ble_eq_true rfl)⟩) hK hE hA hP hD hS 4 (T := TX0) (N := 2) (ci := 0) rfl rfl [4, 5] rfl (by decide) rfl rfl rfl rfl rfl rfl hl.1 (Nat.le_of_ble_eq_true rfl) dX2_skipBlanks_17 ⟨Nat.zero_le _, Nat.zero_le _⟩ (fun H locs hP hD hS => ?_)
        refine lv_istore_n (lv' := [(2, .int r2), (1, .int v1_L2), (0, .ref (ad 10))]) hx hb dX2_skipBlanks_20 rfl hl (by decide) rfl (fun ls hl => ?_)
        refine lv_iload_n hx hb dX2_skipBlanks_21 rfl (lv_at hl 0 rfl) ?_
        refine lv_bipush (v := 40) hx hb dX2_skipBlanks_22 (by decide) ?_
        refine lv_icmp_ne (tgt := 71) hx hb dX2_skipBlanks_24 (by decide) (fun c3 => ?_) (fun c3 => ?_)
        · replace hM := if_f c3 hM
          refine lv_iload_n hx hb dX2_skipBlanks_71 rfl (lv_at hl 0 rfl) ?_
          refine lv_bipush (v := 9) hx hb dX2_skipBlanks_72 (by decide) ?_
          refine lv_icmp_eq (tgt := 95) hx hb dX2_skipBlanks_74 (by decide) (fun c4 => ?_) (fun c4 => ?_)
          · replace hM := if_t c4 hM
            refine lv_aload_n hx hb dX2_skipBlanks_95 rfl (lv_at hl 2 rfl) ?_
            refine lv_dup hx hb dX2_skipBlanks_96 rfl ?_
            refine va_get (D := D) (ci := 2) (v := .int o_this_L2.2.1) (C := RX2) (T := TX2) (N := 7) hx hb hts layX2 hown hK hP 0 rfl rfl 6 (by decide) (hts _ (inA q341)) (fun _ h9 => h9) rfl dX2_skipBlanks_97 ?_
            refine lv_iconst (v := 1) hx hb dX2_skipBlanks_100 (by decide) ?_
            refine lv_iadd hx hb dX2_skipBlanks_101 ?_
            refine va_put (D := D) (ci := 2) (v := .int (o_this_L2.2.1 + 1)) (ty := .int) (C := RX2) (T := TX2) (N := 7) hx hb hts layX2 tyX2 tyX2_ok nmX2 hown hK hP hD hS 0 rfl rfl 6 (by decide) (hts _ (inA q341)) (fun _ h9 => h9) rfl (by decide +kernel) rfl rfl (Nat.le_of_ble_eq_true rfl) dX2_skipBlanks_102 (fun H locs hP hD hS => ?_)
            have hP : va_P D vwCl (wK cI ad (o_this_L2.1, o_this_L2.2.1 + 1, o_this_L2.2.2) ++ wB cI (ad 1) (ad 2) 8192 o_text) H := hP
            have hD : va_D A (wK cI ad (o_this_L2.1, o_this_L2.2.1 + 1, o_this_L2.2.2) ++ wB cI (ad 1) (ad 2) 8192 o_text) := hD
            refine lv_goto (tgt := 110) hx hb dX2_skipBlanks_105 (by decide) ?_
            obtain ⟨x5, ex5⟩ : ∃ y : Int32, y = v1_L2 + 1 := ⟨_, rfl⟩
            replace hM := nm_use ex5 hM
            refine lv_iinc (v := x5) (lv' := [(1, .int x5), (2, .int r2), (0, .ref (ad 10))]) hx hb dX2_skipBlanks_110 hl (k := 1) rfl (by rw [ex5]; rfl) (by decide) rfl (fun ls hl => ?_)
            refine lv_goto (tgt := 2) hx hb dX2_skipBlanks_113 (by decide) ?_
            exact ih_L2 x5 (o_this_L2.1, o_this_L2.2.1 + 1, o_this_L2.2.2) _ _ _ hM hP hD hS (lv_sub hl [0, 2] rfl)
          · replace hM := if_f c4 hM
            refine lv_iload_n hx hb dX2_skipBlanks_77 rfl (lv_at hl 0 rfl) ?_
            refine lv_bipush (v := 10) hx hb dX2_skipBlanks_78 (by decide) ?_
            refine lv_icmp_eq (tgt := 95) hx hb dX2_skipBlanks_80 (by decide) (fun c6 => ?_) (fun c6 => ?_)
            · replace hM := if_t c6 hM
              refine lv_aload_n hx hb dX2_skipBlanks_95 rfl (lv_at hl 2 rfl) ?_
              refine lv_dup hx hb dX2_skipBlanks_96 rfl ?_
              refine va_get (D := D) (ci := 2) (v := .int o_this_L2.2.1) (C := RX2) (T := TX2) (N := 7) hx hb hts layX2 hown hK hP 0 rfl rfl 6 (by decide) (hts _ (inA q341)) (fun _ h9 => h9) rfl dX2_skipBlanks_97 ?_
              refine lv_iconst (v := 1) hx hb dX2_skipBlanks_100 (by decide) ?_
              refine lv_iadd hx hb dX2_skipBlanks_101 ?_
              refine va_put (D := D) (ci := 2) (v := .int (o_this_L2.2.1 + 1)) (ty := .int) (C := RX2) (T := TX2) (N := 7) hx hb hts layX2 tyX2 tyX2_ok nmX2 hown hK hP hD hS 0 rfl rfl 6 (by decide) (hts _ (inA q341)) (fun _ h9 => h9) rfl (by decide +kernel) rfl rfl (Nat.le_of_ble_eq_true rfl) dX2_skipBlanks_102 (fun H locs hP hD hS => ?_)
              have hP : va_P D vwCl (wK cI ad (o_this_L2.1, o_this_L2.2.1 + 1, o_this_L2.2.2) ++ wB cI (ad 1) (ad 2) 8192 o_text) H := hP
              have hD : va_D A (wK cI ad (o_this_L2.1, o_this_L2.2.1 + 1, o_this_L2.2.2) ++ wB cI (ad 1) (ad 2) 8192 o_text) := hD
              refine lv_goto (tgt := 110) hx hb dX2_skipBlanks_105 (by decide) ?_
              obtain ⟨x7, ex7⟩ : ∃ y : Int32, y = v1_L2 + 1 := ⟨_, rfl⟩
              replace hM := nm_use ex7 hM
              refine lv_iinc (v := x7) (lv' := [(1, .int x7), (2, .int r2), (0, .ref (ad 10))]) hx hb dX2_skipBlanks_110 hl (k := 1) rfl (by rw [ex7]; rfl) (by decide) rfl (fun ls hl => ?_)
              refine lv_goto (tgt := 2) hx hb dX2_skipBlanks_113 (by decide) ?_
              exact ih_L2 x7 (o_this_L2.1, o_this_L2.2.1 + 1, o_this_L2.2.2) _ _ _ hM hP hD hS (lv_sub hl [0, 2] rfl)
            · replace hM := if_f c6 hM
              refine lv_iload_n hx hb dX2_skipBlanks_83 rfl (lv_at hl 0 rfl) ?_
              refine lv_bipush (v := 13) hx hb dX2_skipBlanks_84 (by decide) ?_
              refine lv_icmp_eq (tgt := 95) hx hb dX2_skipBlanks_86 (by decide) (fun c8 => ?_) (fun c8 => ?_)
              · replace hM := if_t c8 hM
                refine lv_aload_n hx hb dX2_skipBlanks_95 rfl (lv_at hl 2 rfl) ?_
                refine lv_dup hx hb dX2_skipBlanks_96 rfl ?_
                refine va_get (D := D) (ci := 2) (v := .int o_this_L2.2.1) (C := RX2) (T := TX2) (N := 7) hx hb hts layX2 hown hK hP 0 rfl rfl 6 (by decide) (hts _ (inA q341)) (fun _ h9 => h9) rfl dX2_skipBlanks_97 ?_
                refine lv_iconst (v := 1) hx hb dX2_skipBlanks_100 (by decide) ?_
                refine lv_iadd hx hb dX2_skipBlanks_101 ?_
                refine va_put (D := D) (ci := 2) (v := .int (o_this_L2.2.1 + 1)) (ty := .int) (C := RX2) (T := TX2) (N := 7) hx hb hts layX2 tyX2 tyX2_ok nmX2 hown hK hP hD hS 0 rfl rfl 6 (by decide) (hts _ (inA q341)) (fun _ h9 => h9) rfl (by decide +kernel) rfl rfl (Nat.le_of_ble_eq_true rfl) dX2_skipBlanks_102 (fun H locs hP hD hS => ?_)
                have hP : va_P D vwCl (wK cI ad (o_this_L2.1, o_this_L2.2.1 + 1, o_this_L2.2.2) ++ wB cI (ad 1) (ad 2) 8192 o_text) H := hP
                have hD : va_D A (wK cI ad (o_this_L2.1, o_this_L2.2.1 + 1, o_this_L2.2.2) ++ wB cI (ad 1) (ad 2) 8192 o_text) := hD
                refine lv_goto (tgt := 110) hx hb dX2_skipBlanks_105 (by decide) ?_
                obtain ⟨x9, ex9⟩ : ∃ y : Int32, y = v1_L2 + 1 := ⟨_, rfl⟩
                replace hM := nm_use ex9 hM
                refine lv_iinc (v := x9) (lv' := [(1, .int x9), (2, .int r2), (0, .ref (ad 10))]) hx hb dX2_skipBlanks_110 hl (k := 1) rfl (by rw [ex9]; rfl) (by decide) rfl (fun ls hl => ?_)
                refine lv_goto (tgt := 2) hx hb dX2_skipBlanks_113 (by decide) ?_
                exact ih_L2 x9 (o_this_L2.1, o_this_L2.2.1 + 1, o_this_L2.2.2) _ _ _ hM hP hD hS (lv_sub hl [0, 2] rfl)
              · replace hM := if_f c8 hM
                refine lv_iload_n hx hb dX2_skipBlanks_89 rfl (lv_at hl 0 rfl) ?_
                refine lv_bipush (v := 32) hx hb dX2_skipBlanks_90 (by decide) ?_
                refine lv_icmp_ne (tgt := 108) hx hb dX2_skipBlanks_92 (by decide) (fun c10 => ?_) (fun c10 => ?_)
                · replace hM := if_f c10 hM
                  refine lv_iconst (v := 1) hx hb dX2_skipBlanks_108 (by decide) ?_
                  cases hM
                  exact rt_z hx hb hr hlk (by decide) hP hD hS rfl dX2_skipBlanks_109
                · replace hM := if_t c10 hM
                  refine lv_aload_n hx hb dX2_skipBlanks_95 rfl (lv_at hl 2 rfl) ?_
                  refine lv_dup hx hb dX2_skipBlanks_96 rfl ?_
                  refine va_get (D := D) (ci := 2) (v := .int o_this_L2.2.1) (C := RX2) (T := TX2) (N := 7) hx hb hts layX2 hown hK hP 0 rfl rfl 6 (by decide) (hts _ (inA q341)) (fun _ h9 => h9) rfl dX2_skipBlanks_97 ?_
                  refine lv_iconst (v := 1) hx hb dX2_skipBlanks_100 (by decide) ?_
                  refine lv_iadd hx hb dX2_skipBlanks_101 ?_
                  refine va_put (D := D) (ci := 2) (v := .int (o_this_L2.2.1 + 1)) (ty := .int) (C := RX2) (T := TX2) (N := 7) hx hb hts layX2 tyX2 tyX2_ok nmX2 hown hK hP hD hS 0 rfl rfl 6 (by decide) (hts _ (inA q341)) (fun _ h9 => h9) rfl (by decide +kernel) rfl rfl (Nat.le_of_ble_eq_true rfl) dX2_skipBlanks_102 (fun H locs hP hD hS => ?_)
                  have hP : va_P D vwCl (wK cI ad (o_this_L2.1, o_this_L2.2.1 + 1, o_this_L2.2.2) ++ wB cI (ad 1) (ad 2) 8192 o_text) H := hP
                  have hD : va_D A (wK cI ad (o_this_L2.1, o_this_L2.2.1 + 1, o_this_L2.2.2) ++ wB cI (ad 1) (ad 2) 8192 o_text) := hD
                  refine lv_goto (tgt := 110) hx hb dX2_skipBlanks_105 (by decide) ?_
                  obtain ⟨x11, ex11⟩ : ∃ y : Int32, y = v1_L2 + 1 := ⟨_, rfl⟩
                  replace hM := nm_use ex11 hM
                  refine lv_iinc (v := x11) (lv' := [(1, .int x11), (2, .int r2), (0, .ref (ad 10))]) hx hb dX2_skipBlanks_110 hl (k := 1) rfl (by rw [ex11]; rfl) (by decide) rfl (fun ls hl => ?_)
                  refine lv_goto (tgt := 2) hx hb dX2_skipBlanks_113 (by decide) ?_
                  exact ih_L2 x11 (o_this_L2.1, o_this_L2.2.1 + 1, o_this_L2.2.2) _ _ _ hM hP hD hS (lv_sub hl [0, 2] rfl)
        · replace hM := if_t c3 hM
          refine lv_aload_n hx hb dX2_skipBlanks_27 rfl (lv_at hl 2 rfl) ?_
          refine va_get (D := D) (ci := 2) (v := .ref (ad 1)) (C := RX2) (T := TX2) (N := 7) hx hb hts layX2 hown hK hP 0 rfl rfl 0 (by decide) (hts _ (inA q331)) (fun _ h9 => h9) rfl dX2_skipBlanks_28 ?_
          refine lv_aload_n hx hb dX2_skipBlanks_31 rfl (lv_at hl 2 rfl) ?_
          refine va_get (D := D) (ci := 2) (v := .int o_this_L2.2.1) (C := RX2) (T := TX2) (N := 7) hx hb hts layX2 hown hK hP 0 rfl rfl 6 (by decide) (hts _ (inA q341)) (fun _ h9 => h9) rfl dX2_skipBlanks_32 ?_
          refine lv_iconst (v := 1) hx hb dX2_skipBlanks_35 (by decide) ?_
          refine lv_iadd hx hb dX2_skipBlanks_36 ?_
          obtain ⟨r12, hcr12, hM⟩ := ob_use hM
          refine cl_V (As := [.int (o_this_L2.2.1 + 1)]) (rest := []) (wK cI ad o_this_L2 ++ wB cI (ad 1) (ad 2) 8192 o_text) (.int r12 :: []) ⟨hx, hb, hml, hown, hts⟩ (c_Bytes_get l D cI sd (ad 1) (ad 2) 8192 o_text (o_this_L2.2.1 + 1) r12 hcr12) (cwV2 hts q530 mvX0_get rfl rfl ⟨(Nat.le_of_ble_eq_true rfl), (Nat.le_of_ble_eq_true rfl)⟩) hK hE hA hP hD hS 4 (T := TX0) (N := 2) (ci := 0) rfl rfl [4, 5] rfl (by decide) rfl rfl rfl rfl rfl rfl hl.1 (Nat.le_of_ble_eq_true rfl) dX2_skipBlanks_37 ⟨Nat.zero_le _, Nat.zero_le _⟩ (fun H locs hP hD hS => ?_)
          refine lv_bipush (v := 42) hx hb dX2_skipBlanks_40 (by decide) ?_
          refine lv_icmp_ne (tgt := 71) hx hb dX2_skipBlanks_42 (by decide) (fun c13 => ?_) (fun c13 => ?_)
          · replace hM := if_f c13 hM
            refine lv_iload_n hx hb dX2_skipBlanks_71 rfl (lv_at hl 0 rfl) ?_
            refine lv_bipush (v := 9) hx hb dX2_skipBlanks_72 (by decide) ?_
            refine lv_icmp_eq (tgt := 95) hx hb dX2_skipBlanks_74 (by decide) (fun c14 => ?_) (fun c14 => ?_)
            · replace hM := if_t c14 hM
              refine lv_aload_n hx hb dX2_skipBlanks_95 rfl (lv_at hl 2 rfl) ?_
              refine lv_dup hx hb dX2_skipBlanks_96 rfl ?_
              refine va_get (D := D) (ci := 2) (v := .int o_this_L2.2.1) (C := RX2) (T := TX2) (N := 7) hx hb hts layX2 hown hK hP 0 rfl rfl 6 (by decide) (hts _ (inA q341)) (fun _ h9 => h9) rfl dX2_skipBlanks_97 ?_
              refine lv_iconst (v := 1) hx hb dX2_skipBlanks_100 (by decide) ?_
              refine lv_iadd hx hb dX2_skipBlanks_101 ?_
              refine va_put (D := D) (ci := 2) (v := .int (o_this_L2.2.1 + 1)) (ty := .int) (C := RX2) (T := TX2) (N := 7) hx hb hts layX2 tyX2 tyX2_ok nmX2 hown hK hP hD hS 0 rfl rfl 6 (by decide) (hts _ (inA q341)) (fun _ h9 => h9) rfl (by decide +kernel) rfl rfl (Nat.le_of_ble_eq_true rfl) dX2_skipBlanks_102 (fun H locs hP hD hS => ?_)
              have hP : va_P D vwCl (wK cI ad (o_this_L2.1, o_this_L2.2.1 + 1, o_this_L2.2.2) ++ wB cI (ad 1) (ad 2) 8192 o_text) H := hP
              have hD : va_D A (wK cI ad (o_this_L2.1, o_this_L2.2.1 + 1, o_this_L2.2.2) ++ wB cI (ad 1) (ad 2) 8192 o_text) := hD
              refine lv_goto (tgt := 110) hx hb dX2_skipBlanks_105 (by decide) ?_
              obtain ⟨x15, ex15⟩ : ∃ y : Int32, y = v1_L2 + 1 := ⟨_, rfl⟩
              replace hM := nm_use ex15 hM
              refine lv_iinc (v := x15) (lv' := [(1, .int x15), (2, .int r2), (0, .ref (ad 10))]) hx hb dX2_skipBlanks_110 hl (k := 1) rfl (by rw [ex15]; rfl) (by decide) rfl (fun ls hl => ?_)
              refine lv_goto (tgt := 2) hx hb dX2_skipBlanks_113 (by decide) ?_
              exact ih_L2 x15 (o_this_L2.1, o_this_L2.2.1 + 1, o_this_L2.2.2) _ _ _ hM hP hD hS (lv_sub hl [0, 2] rfl)
            · replace hM := if_f c14 hM
              refine lv_iload_n hx hb dX2_skipBlanks_77 rfl (lv_at hl 0 rfl) ?_
              refine lv_bipush (v := 10) hx hb dX2_skipBlanks_78 (by decide) ?_
              refine lv_icmp_eq (tgt := 95) hx hb dX2_skipBlanks_80 (by decide) (fun c16 => ?_) (fun c16 => ?_)
              · replace hM := if_t c16 hM
                refine lv_aload_n hx hb dX2_skipBlanks_95 rfl (lv_at hl 2 rfl) ?_
                refine lv_dup hx hb dX2_skipBlanks_96 rfl ?_
                refine va_get (D := D) (ci := 2) (v := .int o_this_L2.2.1) (C := RX2) (T := TX2) (N := 7) hx hb hts layX2 hown hK hP 0 rfl rfl 6 (by decide) (hts _ (inA q341)) (fun _ h9 => h9) rfl dX2_skipBlanks_97 ?_
                refine lv_iconst (v := 1) hx hb dX2_skipBlanks_100 (by decide) ?_
                refine lv_iadd hx hb dX2_skipBlanks_101 ?_
                refine va_put (D := D) (ci := 2) (v := .int (o_this_L2.2.1 + 1)) (ty := .int) (C := RX2) (T := TX2) (N := 7) hx hb hts layX2 tyX2 tyX2_ok nmX2 hown hK hP hD hS 0 rfl rfl 6 (by decide) (hts _ (inA q341)) (fun _ h9 => h9) rfl (by decide +kernel) rfl rfl (Nat.le_of_ble_eq_true rfl) dX2_skipBlanks_102 (fun H locs hP hD hS => ?_)
                have hP : va_P D vwCl (wK cI ad (o_this_L2.1, o_this_L2.2.1 + 1, o_this_L2.2.2) ++ wB cI (ad 1) (ad 2) 8192 o_text) H := hP
                have hD : va_D A (wK cI ad (o_this_L2.1, o_this_L2.2.1 + 1, o_this_L2.2.2) ++ wB cI (ad 1) (ad 2) 8192 o_text) := hD
                refine lv_goto (tgt := 110) hx hb dX2_skipBlanks_105 (by decide) ?_
                obtain ⟨x17, ex17⟩ : ∃ y : Int32, y = v1_L2 + 1 := ⟨_, rfl⟩
                replace hM := nm_use ex17 hM
                refine lv_iinc (v := x17) (lv' := [(1, .int x17), (2, .int r2), (0, .ref (ad 10))]) hx hb dX2_skipBlanks_110 hl (k := 1) rfl (by rw [ex17]; rfl) (by decide) rfl (fun ls hl => ?_)
                refine lv_goto (tgt := 2) hx hb dX2_skipBlanks_113 (by decide) ?_
                exact ih_L2 x17 (o_this_L2.1, o_this_L2.2.1 + 1, o_this_L2.2.2) _ _ _ hM hP hD hS (lv_sub hl [0, 2] rfl)
              · replace hM := if_f c16 hM
                refine lv_iload_n hx hb dX2_skipBlanks_83 rfl (lv_at hl 0 rfl) ?_
                refine lv_bipush (v := 13) hx hb dX2_skipBlanks_84 (by decide) ?_
                refine lv_icmp_eq (tgt := 95) hx hb dX2_skipBlanks_86 (by decide) (fun c18 => ?_) (fun c18 => ?_)
                · replace hM := if_t c18 hM
                  refine lv_aload_n hx hb dX2_skipBlanks_95 rfl (lv_at hl 2 rfl) ?_
                  refine lv_dup hx hb dX2_skipBlanks_96 rfl ?_
                  refine va_get (D := D) (ci := 2) (v := .int o_this_L2.2.1) (C := RX2) (T := TX2) (N := 7) hx hb hts layX2 hown hK hP 0 rfl rfl 6 (by decide) (hts _ (inA q341)) (fun _ h9 => h9) rfl dX2_skipBlanks_97 ?_
                  refine lv_iconst (v := 1) hx hb dX2_skipBlanks_100 (by decide) ?_
                  refine lv_iadd hx hb dX2_skipBlanks_101 ?_
                  refine va_put (D := D) (ci := 2) (v := .int (o_this_L2.2.1 + 1)) (ty := .int) (C := RX2) (T := TX2) (N := 7) hx hb hts layX2 tyX2 tyX2_ok nmX2 hown hK hP hD hS 0 rfl rfl 6 (by decide) (hts _ (inA q341)) (fun _ h9 => h9) rfl (by decide +kernel) rfl rfl (Nat.le_of_ble_eq_true rfl) dX2_skipBlanks_102 (fun H locs hP hD hS => ?_)
                  have hP : va_P D vwCl (wK cI ad (o_this_L2.1, o_this_L2.2.1 + 1, o_this_L2.2.2) ++ wB cI (ad 1) (ad 2) 8192 o_text) H := hP
                  have hD : va_D A (wK cI ad (o_this_L2.1, o_this_L2.2.1 + 1, o_this_L2.2.2) ++ wB cI (ad 1) (ad 2) 8192 o_text) := hD
                  refine lv_goto (tgt := 110) hx hb dX2_skipBlanks_105 (by decide) ?_
                  obtain ⟨x19, ex19⟩ : ∃ y : Int32, y = v1_L2 + 1 := ⟨_, rfl⟩
                  replace hM := nm_use ex19 hM
                  refine lv_iinc (v := x19) (lv' := [(1, .int x19), (2, .int r2), (0, .ref (ad 10))]) hx hb dX2_skipBlanks_110 hl (k := 1) rfl (by rw [ex19]; rfl) (by decide) rfl (fun ls hl => ?_)
                  refine lv_goto (tgt := 2) hx hb dX2_skipBlanks_113 (by decide) ?_
                  exact ih_L2 x19 (o_this_L2.1, o_this_L2.2.1 + 1, o_this_L2.2.2) _ _ _ hM hP hD hS (lv_sub hl [0, 2] rfl)
                · replace hM := if_f c18 hM
                  refine lv_iload_n hx hb dX2_skipBlanks_89 rfl (lv_at hl 0 rfl) ?_
                  refine lv_bipush (v := 32) hx hb dX2_skipBlanks_90 (by decide) ?_
                  refine lv_icmp_ne (tgt := 108) hx hb dX2_skipBlanks_92 (by decide) (fun c20 => ?_) (fun c20 => ?_)
                  · replace hM := if_f c20 hM
                    refine lv_iconst (v := 1) hx hb dX2_skipBlanks_108 (by decide) ?_
                    cases hM
                    exact rt_z hx hb hr hlk (by decide) hP hD hS rfl dX2_skipBlanks_109
                  · replace hM := if_t c20 hM
                    refine lv_aload_n hx hb dX2_skipBlanks_95 rfl (lv_at hl 2 rfl) ?_
                    refine lv_dup hx hb dX2_skipBlanks_96 rfl ?_
                    refine va_get (D := D) (ci := 2) (v := .int o_this_L2.2.1) (C := RX2) (T := TX2) (N := 7) hx hb hts layX2 hown hK hP 0 rfl rfl 6 (by decide) (hts _ (inA q341)) (fun _ h9 => h9) rfl dX2_skipBlanks_97 ?_
                    refine lv_iconst (v := 1) hx hb dX2_skipBlanks_100 (by decide) ?_
                    refine lv_iadd hx hb dX2_skipBlanks_101 ?_
                    refine va_put (D := D) (ci := 2) (v := .int (o_this_L2.2.1 + 1)) (ty := .int) (C := RX2) (T := TX2) (N := 7) hx hb hts layX2 tyX2 tyX2_ok nmX2 hown hK hP hD hS 0 rfl rfl 6 (by decide) (hts _ (inA q341)) (fun _ h9 => h9) rfl (by decide +kernel) rfl rfl (Nat.le_of_ble_eq_true rfl) dX2_skipBlanks_102 (fun H locs hP hD hS => ?_)
                    have hP : va_P D vwCl (wK cI ad (o_this_L2.1, o_this_L2.2.1 + 1, o_this_L2.2.2) ++ wB cI (ad 1) (ad 2) 8192 o_text) H := hP
                    have hD : va_D A (wK cI ad (o_this_L2.1, o_this_L2.2.1 + 1, o_this_L2.2.2) ++ wB cI (ad 1) (ad 2) 8192 o_text) := hD
                    refine lv_goto (tgt := 110) hx hb dX2_skipBlanks_105 (by decide) ?_
                    obtain ⟨x21, ex21⟩ : ∃ y : Int32, y = v1_L2 + 1 := ⟨_, rfl⟩
                    replace hM := nm_use ex21 hM
                    refine lv_iinc (v := x21) (lv' := [(1, .int x21), (2, .int r2), (0, .ref (ad 10))]) hx hb dX2_skipBlanks_110 hl (k := 1) rfl (by rw [ex21]; rfl) (by decide) rfl (fun ls hl => ?_)
                    refine lv_goto (tgt := 2) hx hb dX2_skipBlanks_113 (by decide) ?_
                    exact ih_L2 x21 (o_this_L2.1, o_this_L2.2.1 + 1, o_this_L2.2.2) _ _ _ hM hP hD hS (lv_sub hl [0, 2] rfl)
          · replace hM := if_t c13 hM
            refine lv_aload_n hx hb dX2_skipBlanks_45 rfl (lv_at hl 2 rfl) ?_
            refine lv_aload_n hx hb dX2_skipBlanks_46 rfl (lv_at hl 2 rfl) ?_
            refine va_get (D := D) (ci := 2) (v := .int o_this_L2.2.1) (C := RX2) (T := TX2) (N := 7) hx hb hts layX2 hown hK hP 0 rfl rfl 6 (by decide) (hts _ (inA q341)) (fun _ h9 => h9) rfl dX2_skipBlanks_47 ?_
            refine lv_iconst (v := 2) hx hb dX2_skipBlanks_50 (by decide) ?_
            refine lv_iadd hx hb dX2_skipBlanks_51 ?_
            obtain ⟨r22, hcr22, hM⟩ := ob_use hM
            refine cl_V (As := [.int (o_this_L2.2.1 + 2)]) (rest := []) (wK cI ad o_this_L2 ++ wB cI (ad 1) (ad 2) 8192 o_text) (.int r22 :: []) ⟨hx, hb, hml, hown, hts⟩ (c_Tokens_endOfComment l D cI sd ad o_this_L2 o_text (o_this_L2.2.1 + 2) r22 hcr22) (cwV2 hts q531 mvX2_endOfComment rfl rfl ⟨(Nat.le_of_ble_eq_true rfl), (Nat.le_of_ble_eq_true rfl)⟩) hK hE hA hP hD hS 0 (T := TX2) (N := 7) (ci := 2) rfl rfl [0, 1, 2, 3, 4, 5] rfl (by decide) rfl rfl rfl rfl rfl rfl hl.1 (Nat.le_of_ble_eq_true rfl) dX2_skipBlanks_52 ⟨Nat.zero_le _, Nat.zero_le _⟩ (fun H locs hP hD hS => ?_)
            refine lv_istore_n (lv' := [(3, .int r22), (2, .int r2), (1, .int v1_L2), (0, .ref (ad 10))]) hx hb dX2_skipBlanks_55 rfl hl (by decide) rfl (fun ls hl => ?_)
            refine lv_iload_n hx hb dX2_skipBlanks_56 rfl (lv_at hl 0 rfl) ?_
            refine lv_iconst (v := (-1)) hx hb dX2_skipBlanks_57 (by decide) ?_
            refine lv_icmp_ne (tgt := 63) hx hb dX2_skipBlanks_58 (by decide) (fun c23 => ?_) (fun c23 => ?_)
            · replace hM := if_f c23 hM
              refine lv_aload_n hx hb dX2_skipBlanks_63 rfl (lv_at hl 3 rfl) ?_
              refine lv_iload_n hx hb dX2_skipBlanks_64 rfl (lv_at hl 0 rfl) ?_
              refine va_put (D := D) (ci := 2) (v := .int r22) (ty := .int) (C := RX2) (T := TX2) (N := 7) hx hb hts layX2 tyX2 tyX2_ok nmX2 hown hK hP hD hS 0 rfl rfl 6 (by decide) (hts _ (inA q341)) (fun _ h9 => h9) rfl (by decide +kernel) rfl rfl (Nat.le_of_ble_eq_true rfl) dX2_skipBlanks_65 (fun H locs hP hD hS => ?_)
              have hP : va_P D vwCl (wK cI ad (o_this_L2.1, r22, o_this_L2.2.2) ++ wB cI (ad 1) (ad 2) 8192 o_text) H := hP
              have hD : va_D A (wK cI ad (o_this_L2.1, r22, o_this_L2.2.2) ++ wB cI (ad 1) (ad 2) 8192 o_text) := hD
              refine lv_goto (tgt := 110) hx hb dX2_skipBlanks_68 (by decide) ?_
              obtain ⟨x24, ex24⟩ : ∃ y : Int32, y = v1_L2 + 1 := ⟨_, rfl⟩
              replace hM := nm_use ex24 hM
              refine lv_iinc (v := x24) (lv' := [(1, .int x24), (3, .int r22), (2, .int r2), (0, .ref (ad 10))]) hx hb dX2_skipBlanks_110 hl (k := 2) rfl (by rw [ex24]; rfl) (by decide) rfl (fun ls hl => ?_)
              refine lv_goto (tgt := 2) hx hb dX2_skipBlanks_113 (by decide) ?_
              exact ih_L2 x24 (o_this_L2.1, r22, o_this_L2.2.2) _ _ _ hM hP hD hS (lv_sub hl [0, 3] rfl)
            · replace hM := if_t c23 hM
              refine lv_iconst (v := 0) hx hb dX2_skipBlanks_61 (by decide) ?_
              cases hM
              exact rt_z hx hb hr hlk (by decide) hP hD hS rfl dX2_skipBlanks_62
  exact lp_L2 FU 0 o_this _ _ _ hM hP hD hS (lv_sub hl [0, 1] rfl)

set_option maxHeartbeats 4000000 in
set_option maxRecDepth 100000 in
theorem c_Tokens_scanToken (l : Launch) (D : va_G) (cI : ClassId) (sd : Nat → Nat) (ad : Nat → Nat) (o_this : S_Tokens) (o_text : S_Bytes) (o_names : S_Names) (res : S_Tokens × S_Names) (hM : f_Tokens_scanToken o_this o_text o_names = some res) : Ctr l D cI sd yX2_scanToken (wsM yX2_scanToken cX2_scanToken 3 (Option.none : Option Jvm.ClassFile.FieldType)) { frames := 4, cells := 0, slots := 0, locals := 92 } [.ref (ad 10)] (wK cI ad o_this ++ wB cI (ad 1) (ad 2) 8192 o_text ++ wN cI ad o_names) (wK cI ad res.1 ++ wB cI (ad 1) (ad 2) 8192 o_text ++ wN cI ad res.2) none := by
  refine Ctr.of (cc := cX2_scanToken) (maxL := 3) (own := RX2) (by decide +kernel) rfl rfl (Nat.le_of_ble_eq_true rfl) ?_
  intro p e s m below meth c A ls hx hb hr hml hown hts hlk hK hE hA hP hD hS hl
  have hl : lv_has ls 3 [(0, .ref (ad 10))] := hl
  unfold f_Tokens_scanToken at hM
  refine lv_aload_n hx hb dX2_scanToken_0 rfl (lv_at hl 0 rfl) ?_
  obtain ⟨r1, hcr1, hM⟩ := ob_use hM
  refine cl_V (As := []) (rest := []) (wK cI ad r1.2 ++ wB cI (ad 1) (ad 2) 8192 o_text ++ wN cI ad o_names) (.int r1.1 :: []) ⟨hx, hb, hml, hown, hts⟩ (c_Tokens_skipBlanks l D cI sd ad o_this o_text r1 hcr1) (cwV2 hts q526 mvX2_skipBlanks rfl rfl ⟨(Nat.le_of_ble_eq_true rfl), (Nat.le_of_ble_eq_true rfl)⟩) hK hE hA hP hD hS 0 (T := TX2) (N := 7) (ci := 2) rfl rfl [0, 1, 2, 3, 4, 5] rfl (by decide) rfl rfl rfl rfl rfl rfl hl.1 (Nat.le_of_ble_eq_true rfl) dX2_scanToken_1 ⟨Nat.zero_le _, Nat.zero_le _⟩ (fun H locs hP hD hS => ?_)
  refine lv_istore_n (lv' := [(1, .int r1.1), (0, .ref (ad 10))]) hx hb dX2_scanToken_4 rfl hl (by decide) rfl (fun ls hl => ?_)
  refine lv_aload_n hx hb dX2_scanToken_5 rfl (lv_at hl 1 rfl) ?_
  refine va_get (D := D) (ci := 2) (v := .ref (ad 1)) (C := RX2) (T := TX2) (N := 7) hx hb hts layX2 hown hK hP 0 rfl rfl 0 (by decide) (hts _ (inA q331)) (fun _ h9 => h9) rfl dX2_scanToken_6 ?_
  refine lv_aload_n hx hb dX2_scanToken_9 rfl (lv_at hl 1 rfl) ?_
  refine va_get (D := D) (ci := 2) (v := .int r1.2.2.1) (C := RX2) (T := TX2) (N := 7) hx hb hts layX2 hown hK hP 0 rfl rfl 6 (by decide) (hts _ (inA q341)) (fun _ h9 => h9) rfl dX2_scanToken_10 ?_
  obtain ⟨r2, hcr2, hM⟩ := ob_use hM
  refine cl_V (As := [.int r1.2.2.1]) (rest := []) (wK cI ad r1.2 ++ wB cI (ad 1) (ad 2) 8192 o_text ++ wN cI ad o_names) (.int r2 :: []) ⟨hx, hb, hml, hown, hts⟩ (c_Bytes_get l D cI sd (ad 1) (ad 2) 8192 o_text r1.2.2.1 r2 hcr2) (cwV2 hts q530 mvX0_get rfl rfl ⟨(Nat.le_of_ble_eq_true rfl), (Nat.le_of_ble_eq_true rfl)⟩) hK hE hA hP hD hS 4 (T := TX0) (N := 2) (ci := 0) rfl rfl [4, 5] rfl (by decide) rfl rfl rfl rfl rfl rfl hl.1 (Nat.le_of_ble_eq_true rfl) dX2_scanToken_13 ⟨Nat.zero_le _, Nat.zero_le _⟩ (fun H locs hP hD hS => ?_)
  refine lv_istore_n (lv' := [(2, .int r2), (1, .int r1.1), (0, .ref (ad 10))]) hx hb dX2_scanToken_16 rfl hl (by decide) rfl (fun ls hl => ?_)
  refine lv_iload_n hx hb dX2_scanToken_17 rfl (lv_at hl 1 rfl) ?_
  refine lv_if_ne (tgt := 34) hx hb dX2_scanToken_18 (by decide) (fun c3 => ?_) (fun c3 => ?_)
  · replace hM := if_f c3 hM
    refine lv_iload_n hx hb dX2_scanToken_34 rfl (lv_at hl 0 rfl) ?_
    refine lv_iconst (v := (-1)) hx hb dX2_scanToken_35 (by decide) ?_
    refine lv_icmp_ne (tgt := 52) hx hb dX2_scanToken_36 (by decide) (fun c4 => ?_) (fun c4 => ?_)
    · replace hM := if_f c4 hM
      refine lv_iload_n hx hb dX2_scanToken_52 rfl (lv_at hl 0 rfl) ?_
      obtain ⟨r5, hcr5, hM⟩ := ob_use hM
      refine cl_SN (As := [.int r2]) (rest := []) (wK cI ad r1.2 ++ wB cI (ad 1) (ad 2) 8192 o_text ++ wN cI ad o_names) (.int r5 :: []) ⟨hx, hb, hml, hown, hts⟩ (c_Top_great l D cI sd ad r2 r5 hcr5) (cwSN2 hts (nmE2 hE) mvX6_great rfl rfl ⟨(Nat.le_of_ble_eq_true rfl), (Nat.le_of_ble_eq_true rfl)⟩) hK hE hA hP hD hS [] rfl (by decide) rfl rfl rfl rfl rfl rfl hl.1 (Nat.le_of_ble_eq_true rfl) dX2_scanToken_53 ⟨Nat.zero_le _, Nat.zero_le _⟩ (fun H locs hP hD hS => ?_)
      refine lv_bipush (v := 84) hx hb dX2_scanToken_56 (by decide) ?_
      refine lv_icmp_ne (tgt := 86) hx hb dX2_scanToken_58 (by decide) (fun c6 => ?_) (fun c6 => ?_)
      · replace hM := if_f c6 hM
        refine lv_iload_n hx hb dX2_scanToken_86 rfl (lv_at hl 0 rfl) ?_
        obtain ⟨r7, hcr7, hM⟩ := ob_use hM
        refine cl_SN (As := [.int r2]) (rest := []) (wK cI ad r1.2 ++ wB cI (ad 1) (ad 2) 8192 o_text ++ wN cI ad o_names) (.int r7 :: []) ⟨hx, hb, hml, hown, hts⟩ (c_Top_isDigit l D cI sd ad r2 r7 hcr7) (cwSN2 hts (nmE3 hE) mvX6_isDigit rfl rfl ⟨(Nat.le_of_ble_eq_true rfl), (Nat.le_of_ble_eq_true rfl)⟩) hK hE hA hP hD hS [] rfl (by decide) rfl rfl rfl rfl rfl rfl hl.1 (Nat.le_of_ble_eq_true rfl) dX2_scanToken_87 ⟨Nat.zero_le _, Nat.zero_le _⟩ (fun H locs hP hD hS => ?_)
        refine lv_if_eq (tgt := 100) hx hb dX2_scanToken_90 (by decide) (fun c8 => ?_) (fun c8 => ?_)
        · replace hM := if_t c8 hM
          refine lv_iload_n hx hb dX2_scanToken_100 rfl (lv_at hl 0 rfl) ?_
          obtain ⟨r9, hcr9, hM⟩ := ob_use hM
          refine cl_SN (As := [.int r2]) (rest := []) (wK cI ad r1.2 ++ wB cI (ad 1) (ad 2) 8192 o_text ++ wN cI ad o_names) (.int r9 :: []) ⟨hx, hb, hml, hown, hts⟩ (c_Top_isNameByte l D cI sd ad r2 r9 hcr9) (cwSN2 hts (nmE4 hE) mvX6_isNameByte rfl rfl ⟨(Nat.le_of_ble_eq_true rfl), (Nat.le_of_ble_eq_true rfl)⟩) hK hE hA hP hD hS [] rfl (by decide) rfl rfl rfl rfl rfl rfl hl.1 (Nat.le_of_ble_eq_true rfl) dX2_scanToken_101 ⟨Nat.zero_le _, Nat.zero_le _⟩ (fun H locs hP hD hS => ?_)
          refine lv_if_eq (tgt := 114) hx hb dX2_scanToken_104 (by decide) (fun c10 => ?_) (fun c10 => ?_)
          · replace hM := if_t c10 hM
            refine lv_iload_n hx hb dX2_scanToken_114 rfl (lv_at hl 0 rfl) ?_
            refine lv_bipush (v := 37) hx hb dX2_scanToken_115 (by decide) ?_
            refine lv_icmp_ne (tgt := 127) hx hb dX2_scanToken_117 (by decide) (fun c11 => ?_) (fun c11 => ?_)
            · replace hM := if_f c11 hM
              refine lv_aload_n hx hb dX2_scanToken_127 rfl (lv_at hl 2 rfl) ?_
              obtain ⟨r12, hcr12, hM⟩ := ob_use hM
              refine cl_V (As := []) (rest := []) (wK cI ad r12 ++ wB cI (ad 1) (ad 2) 8192 o_text ++ wN cI ad o_names) [] ⟨hx, hb, hml, hown, hts⟩ (c_Tokens_scanSign l D cI sd ad r1.2 o_text r12 hcr12) (cwV2 hts q593 mvX2_scanSign rfl rfl ⟨(Nat.le_of_ble_eq_true rfl), (Nat.le_of_ble_eq_true rfl)⟩) hK hE hA hP hD hS 0 (T := TX2) (N := 7) (ci := 2) rfl rfl [0, 1, 2, 3, 4, 5] rfl (by decide) rfl rfl rfl rfl rfl rfl hl.1 (Nat.le_of_ble_eq_true rfl) dX2_scanToken_128 ⟨Nat.zero_le _, Nat.zero_le _⟩ (fun H locs hP hD hS => ?_)
              cases hM
              exact rt_v hx hb hr hlk hP hD hS rfl dX2_scanToken_131
            · replace hM := if_t c11 hM
              refine lv_aload_n hx hb dX2_scanToken_120 rfl (lv_at hl 2 rfl) ?_
              obtain ⟨r13, hcr13, hM⟩ := ob_use hM
              refine cl_V (As := []) (rest := []) (wK cI ad r13 ++ wB cI (ad 1) (ad 2) 8192 o_text ++ wN cI ad o_names) [] ⟨hx, hb, hml, hown, hts⟩ (c_Tokens_scanPlace l D cI sd ad r1.2 o_text r13 hcr13) (cwV2 hts q586 mvX2_scanPlace rfl rfl ⟨(Nat.le_of_ble_eq_true rfl), (Nat.le_of_ble_eq_true rfl)⟩) hK hE hA hP hD hS 0 (T := TX2) (N := 7) (ci := 2) rfl rfl [0, 1, 2, 3, 4, 5] rfl (by decide) rfl rfl rfl rfl rfl rfl hl.1 (Nat.le_of_ble_eq_true rfl) dX2_scanToken_121 ⟨Nat.zero_le _, Nat.zero_le _⟩ (fun H locs hP hD hS => ?_)
              refine lv_goto (tgt := 131) hx hb dX2_scanToken_124 (by decide) ?_
              cases hM
              exact rt_v hx hb hr hlk hP hD hS rfl dX2_scanToken_131
          · replace hM := if_f c10 hM
            refine lv_aload_n hx hb dX2_scanToken_107 rfl (lv_at hl 2 rfl) ?_
            obtain ⟨r14, hcr14, hM⟩ := ob_use hM
            refine cl_V (As := []) (rest := []) (wK cI ad r14.1 ++ wB cI (ad 1) (ad 2) 8192 o_text ++ wN cI ad r14.2) [] ⟨hx, hb, hml, hown, hts⟩ (c_Tokens_scanName l D cI sd ad r1.2 o_text o_names r14 hcr14) (cwV2 hts q580 mvX2_scanName rfl rfl ⟨(Nat.le_of_ble_eq_true rfl), (Nat.le_of_ble_eq_true rfl)⟩) hK hE hA hP hD hS 0 (T := TX2) (N := 7) (ci := 2) rfl rfl [0, 1, 2, 3, 4, 5, 6, 7, 8, 9, 10] rfl (by decide) rfl rfl rfl rfl rfl rfl hl.1 (Nat.le_of_ble_eq_true rfl) dX2_scanToken_108 ⟨Nat.zero_le _, Nat.zero_le _⟩ (fun H locs hP hD hS => ?_)
            refine lv_goto (tgt := 131) hx hb dX2_scanToken_111 (by decide) ?_
            cases hM
            exact rt_v hx hb hr hlk hP hD hS rfl dX2_scanToken_131
        · replace hM := if_f c8 hM
          refine lv_aload_n hx hb dX2_scanToken_93 rfl (lv_at hl 2 rfl) ?_
          obtain ⟨r15, hcr15, hM⟩ := ob_use hM
          refine cl_V (As := []) (rest := []) (wK cI ad r15 ++ wB cI (ad 1) (ad 2) 8192 o_text ++ wN cI ad o_names) [] ⟨hx, hb, hml, hown, hts⟩ (c_Tokens_scanNumber l D cI sd ad r1.2 o_text r15 hcr15) (cwV2 hts q574 mvX2_scanNumber rfl rfl ⟨(Nat.le_of_ble_eq_true rfl), (Nat.le_of_ble_eq_true rfl)⟩) hK hE hA hP hD hS 0 (T := TX2) (N := 7) (ci := 2) rfl rfl [0, 1, 2, 3, 4, 5] rfl (by decide) rfl rfl rfl rfl rfl rfl hl.1 (Nat.le_of_ble_eq_true rfl) dX2_scanToken_94 ⟨Nat.zero_le _, Nat.zero_le _⟩ (fun H locs hP hD hS => ?_)
          refine lv_goto (tgt := 131) hx hb dX2_scanToken_97 (by decide) ?_
          cases hM
          exact rt_v hx hb hr hlk hP hD hS rfl dX2_scanToken_131
      · replace hM := if_t c6 hM
        refine lv_aload_n hx hb dX2_scanToken_61 rfl (lv_at hl 2 rfl) ?_
        refine va_get (D := D) (ci := 2) (v := .ref (ad 1)) (C := RX2) (T := TX2) (N := 7) hx hb hts layX2 hown hK hP 0 rfl rfl 0 (by decide) (hts _ (inA q331)) (fun _ h9 => h9) rfl dX2_scanToken_62 ?_
        refine lv_aload_n hx hb dX2_scanToken_65 rfl (lv_at hl 2 rfl) ?_
        refine va_get (D := D) (ci := 2) (v := .int r1.2.2.1) (C := RX2) (T := TX2) (N := 7) hx hb hts layX2 hown hK hP 0 rfl rfl 6 (by decide) (hts _ (inA q341)) (fun _ h9 => h9) rfl dX2_scanToken_66 ?_
        refine lv_iconst (v := 1) hx hb dX2_scanToken_69 (by decide) ?_
        refine lv_iadd hx hb dX2_scanToken_70 ?_
        obtain ⟨r16, hcr16, hM⟩ := ob_use hM
        refine cl_V (As := [.int (r1.2.2.1 + 1)]) (rest := []) (wK cI ad r1.2 ++ wB cI (ad 1) (ad 2) 8192 o_text ++ wN cI ad o_names) (.int r16 :: []) ⟨hx, hb, hml, hown, hts⟩ (c_Bytes_get l D cI sd (ad 1) (ad 2) 8192 o_text (r1.2.2.1 + 1) r16 hcr16) (cwV2 hts q530 mvX0_get rfl rfl ⟨(Nat.le_of_ble_eq_true rfl), (Nat.le_of_ble_eq_true rfl)⟩) hK hE hA hP hD hS 4 (T := TX0) (N := 2) (ci := 0) rfl rfl [4, 5] rfl (by decide) rfl rfl rfl rfl rfl rfl hl.1 (Nat.le_of_ble_eq_true rfl) dX2_scanToken_71 ⟨Nat.zero_le _, Nat.zero_le _⟩ (fun H locs hP hD hS => ?_)
        refine lv_bipush (v := 35) hx hb dX2_scanToken_74 (by decide) ?_
        refine lv_icmp_ne (tgt := 86) hx hb dX2_scanToken_76 (by decide) (fun c17 => ?_) (fun c17 => ?_)
        · replace hM := if_f c17 hM
          refine lv_iload_n hx hb dX2_scanToken_86 rfl (lv_at hl 0 rfl) ?_
          obtain ⟨r18, hcr18, hM⟩ := ob_use hM
          refine cl_SN (As := [.int r2]) (rest := []) (wK cI ad r1.2 ++ wB cI (ad 1) (ad 2) 8192 o_text ++ wN cI ad o_names) (.int r18 :: []) ⟨hx, hb, hml, hown, hts⟩ (c_Top_isDigit l D cI sd ad r2 r18 hcr18) (cwSN2 hts (nmE3 hE) mvX6_isDigit rfl rfl ⟨(Nat.le_of_ble_eq_true rfl), (Nat.le_of_ble_eq_true rfl)⟩) hK hE hA hP hD hS [] rfl (by decide) rfl rfl rfl rfl rfl rfl hl.1 (Nat.le_of_ble_eq_true rfl) dX2_scanToken_87 ⟨Nat.zero_le _, Nat.zero_le _⟩ (fun H locs hP hD hS => ?_)
          refine lv_if_eq (tgt := 100) hx hb dX2_scanToken_90 (by decide) (fun c19 => ?_) (fun c19 => ?_)
          · replace hM := if_t c19 hM
            refine lv_iload_n hx hb dX2_scanToken_100 rfl (lv_at hl 0 rfl) ?_
            obtain ⟨r20, hcr20, hM⟩ := ob_use hM
            refine cl_SN (As := [.int r2]) (rest := []) (wK cI ad r1.2 ++ wB cI (ad 1) (ad 2) 8192 o_text ++ wN cI ad o_names) (.int r20 :: []) ⟨hx, hb, hml, hown, hts⟩ (c_Top_isNameByte l D cI sd ad r2 r20 hcr20) (cwSN2 hts (nmE4 hE) mvX6_isNameByte rfl rfl ⟨(Nat.le_of_ble_eq_true rfl), (Nat.le_of_ble_eq_true rfl)⟩) hK hE hA hP hD hS [] rfl (by decide) rfl rfl rfl rfl rfl rfl hl.1 (Nat.le_of_ble_eq_true rfl) dX2_scanToken_101 ⟨Nat.zero_le _, Nat.zero_le _⟩ (fun H locs hP hD hS => ?_)
            refine lv_if_eq (tgt := 114) hx hb dX2_scanToken_104 (by decide) (fun c21 => ?_) (fun c21 => ?_)
            · replace hM := if_t c21 hM
              refine lv_iload_n hx hb dX2_scanToken_114 rfl (lv_at hl 0 rfl) ?_
              refine lv_bipush (v := 37) hx hb dX2_scanToken_115 (by decide) ?_
              refine lv_icmp_ne (tgt := 127) hx hb dX2_scanToken_117 (by decide) (fun c22 => ?_) (fun c22 => ?_)
              · replace hM := if_f c22 hM
                refine lv_aload_n hx hb dX2_scanToken_127 rfl (lv_at hl 2 rfl) ?_
                obtain ⟨r23, hcr23, hM⟩ := ob_use hM
                refine cl_V (As := []) (rest := []) (wK cI ad r23 ++ wB cI (ad 1) (ad 2) 8192 o_text ++ wN cI ad o_names) [] ⟨hx, hb, hml, hown, hts⟩ (c_Tokens_scanSign l D cI sd ad r1.2 o_text r23 hcr23) (cwV2 hts q593 mvX2_scanSign rfl rfl ⟨(Nat.le_of_ble_eq_true rfl), (Nat.le_of_ble_eq_true rfl)⟩) hK hE hA hP hD hS 0 (T := TX2) (N := 7) (ci := 2) rfl rfl [0, 1, 2, 3, 4, 5] rfl (by decide) rfl rfl rfl rfl rfl rfl hl.1 (Nat.le_of_ble_eq_true rfl) dX2_scanToken_128 ⟨Nat.zero_le _, Nat.zero_le _⟩ (fun H locs hP hD hS => ?_)
                cases hM
                exact rt_v hx hb hr hlk hP hD hS rfl dX2_scanToken_131
              · replace hM := if_t c22 hM
                refine lv_aload_n hx hb dX2_scanToken_120 rfl (lv_at hl 2 rfl) ?_
                obtain ⟨r24, hcr24, hM⟩ := ob_use hM
                refine cl_V (As := []) (rest := []) (wK cI ad r24 ++ wB cI (ad 1) (ad 2) 8192 o_text ++ wN cI ad o_names) [] ⟨hx, hb, hml, hown, hts⟩ (c_Tokens_scanPlace l D cI sd ad r1.2 o_text r24 hcr24) (cwV2 hts q586 mvX2_scanPlace rfl rfl ⟨(Nat.le_of_ble_eq_true rfl), (Nat.le_of_ble_eq_true rfl)⟩) hK hE hA hP hD hS 0 (T := TX2) (N := 7) (ci := 2) rfl rfl [0, 1, 2, 3, 4, 5] rfl (by decide) rfl rfl rfl rfl rfl rfl hl.1 (Nat.le_of_ble_eq_true rfl) dX2_scanToken_121 ⟨Nat.zero_le _, Nat.zero_le _⟩ (fun H locs hP hD hS => ?_)
                refine lv_goto (tgt := 131) hx hb dX2_scanToken_124 (by decide) ?_
                cases hM
                exact rt_v hx hb hr hlk hP hD hS rfl dX2_scanToken_131
            · replace hM := if_f c21 hM
              refine lv_aload_n hx hb dX2_scanToken_107 rfl (lv_at hl 2 rfl) ?_
              obtain ⟨r25, hcr25, hM⟩ := ob_use hM
              refine cl_V (As := []) (rest := []) (wK cI ad r25.1 ++ wB cI (ad 1) (ad 2) 8192 o_text ++ wN cI ad r25.2) [] ⟨hx, hb, hml, hown, hts⟩ (c_Tokens_scanName l D cI sd ad r1.2 o_text o_names r25 hcr25) (cwV2 hts q580 mvX2_scanName rfl rfl ⟨(Nat.le_of_ble_eq_true rfl), (Nat.le_of_ble_eq_true rfl)⟩) hK hE hA hP hD hS 0 (T := TX2) (N := 7) (ci := 2) rfl rfl [0, 1, 2, 3, 4, 5, 6, 7, 8, 9, 10] rfl (by decide) rfl rfl rfl rfl rfl rfl hl.1 (Nat.le_of_ble_eq_true rfl) dX2_scanToken_108 ⟨Nat.zero_le _, Nat.zero_le _⟩ (fun H locs hP hD hS => ?_)
              refine lv_goto (tgt := 131) hx hb dX2_scanToken_111 (by decide) ?_
              cases hM
              exact rt_v hx hb hr hlk hP hD hS rfl dX2_scanToken_131
          · replace hM := if_f c19 hM
            refine lv_aload_n hx hb dX2_scanToken_93 rfl (lv_at hl 2 rfl) ?_
            obtain ⟨r26, hcr26, hM⟩ := ob_use hM
            refine cl_V (As := []) (rest := []) (wK cI ad r26 ++ wB cI (ad 1) (ad 2) 8192 o_text ++ wN cI ad o_names) [] ⟨hx, hb, hml, hown, hts⟩ (c_Tokens_scanNumber l D cI sd ad r1.2 o_text r26 hcr26) (cwV2 hts q574 mvX2_scanNumber rfl rfl ⟨(Nat.le_of_ble_eq_true rfl), (Nat.le_of_ble_eq_true rfl)⟩) hK hE hA hP hD hS 0 (T := TX2) (N := 7) (ci := 2) rfl rfl [0, 1, 2, 3, 4, 5] rfl (by decide) rfl rfl rfl rfl rfl rfl hl.1 (Nat.le_of_ble_eq_true rfl) dX2_scanToken_94 ⟨Nat.zero_le _, Nat.zero_le _⟩ (fun H locs hP hD hS => ?_)
            refine lv_goto (tgt := 131) hx hb dX2_scanToken_97 (by decide) ?_
            cases hM
            exact rt_v hx hb hr hlk hP hD hS rfl dX2_scanToken_131
        · replace hM := if_t c17 hM
          refine lv_aload_n hx hb dX2_scanToken_79 rfl (lv_at hl 2 rfl) ?_
          obtain ⟨r27, hcr27, hM⟩ := ob_use hM
          refine cl_V (As := []) (rest := []) (wK cI ad r27 ++ wB cI (ad 1) (ad 2) 8192 o_text ++ wN cI ad o_names) [] ⟨hx, hb, hml, hown, hts⟩ (c_Tokens_scanTime l D cI sd ad r1.2 o_text r27 hcr27) (cwV2 hts q540 mvX2_scanTime rfl rfl ⟨(Nat.le_of_ble_eq_true rfl), (Nat.le_of_ble_eq_true rfl)⟩) hK hE hA hP hD hS 0 (T := TX2) (N := 7) (ci := 2) rfl rfl [0, 1, 2, 3, 4, 5] rfl (by decide) rfl rfl rfl rfl rfl rfl hl.1 (Nat.le_of_ble_eq_true rfl) dX2_scanToken_80 ⟨Nat.zero_le _, Nat.zero_le _⟩ (fun H locs hP hD hS => ?_)
          refine lv_goto (tgt := 131) hx hb dX2_scanToken_83 (by decide) ?_
          cases hM
          exact rt_v hx hb hr hlk hP hD hS rfl dX2_scanToken_131
    · replace hM := if_t c4 hM
      refine lv_aload_n hx hb dX2_scanToken_39 rfl (lv_at hl 2 rfl) ?_
      refine lv_iconst (v := 4) hx hb dX2_scanToken_40 (by decide) ?_
      refine lv_aload_n hx hb dX2_scanToken_41 rfl (lv_at hl 2 rfl) ?_
      refine va_get (D := D) (ci := 2) (v := .int r1.2.2.1) (C := RX2) (T := TX2) (N := 7) hx hb hts layX2 hown hK hP 0 rfl rfl 6 (by decide) (hts _ (inA q341)) (fun _ h9 => h9) rfl dX2_scanToken_42 ?_
      refine lv_iconst (v := 0) hx hb dX2_scanToken_45 (by decide) ?_
      obtain ⟨r28, hcr28, hM⟩ := ob_use hM
      refine cl_V (As := [.int 4, .int r1.2.2.1, .int 0]) (rest := []) (wK cI ad r28 ++ wB cI (ad 1) (ad 2) 8192 o_text ++ wN cI ad o_names) [] ⟨hx, hb, hml, hown, hts⟩ (c_Tokens_add l D cI sd ad r1.2 4 r1.2.2.1 0 r28 hcr28) (cwV2 hts q535 mvX2_add rfl rfl ⟨(Nat.le_of_ble_eq_true rfl), (Nat.le_of_ble_eq_true rfl)⟩) hK hE hA hP hD hS 0 (T := TX2) (N := 7) (ci := 2) rfl rfl [0, 1, 2, 3] rfl (by decide) rfl rfl rfl rfl rfl rfl hl.1 (Nat.le_of_ble_eq_true rfl) dX2_scanToken_46 ⟨Nat.zero_le _, Nat.zero_le _⟩ (fun H locs hP hD hS => ?_)
      refine lv_goto (tgt := 131) hx hb dX2_scanToken_49 (by decide) ?_
      cases hM
      exact rt_v hx hb hr hlk hP hD hS rfl dX2_scanToken_131
  · replace hM := if_t c3 hM
    refine lv_aload_n hx hb dX2_scanToken_21 rfl (lv_at hl 2 rfl) ?_
    refine lv_iconst (v := 5) hx hb dX2_scanToken_22 (by decide) ?_
    refine lv_aload_n hx hb dX2_scanToken_23 rfl (lv_at hl 2 rfl) ?_
    refine va_get (D := D) (ci := 2) (v := .int r1.2.2.1) (C := RX2) (T := TX2) (N := 7) hx hb hts layX2 hown hK hP 0 rfl rfl 6 (by decide) (hts _ (inA q341)) (fun _ h9 => h9) rfl dX2_scanToken_24 ?_
    refine lv_iconst (v := 2) hx hb dX2_scanToken_27 (by decide) ?_
    obtain ⟨r29, hcr29, hM⟩ := ob_use hM
    refine cl_V (As := [.int 5, .int r1.2.2.1, .int 2]) (rest := []) (wK cI ad r29 ++ wB cI (ad 1) (ad 2) 8192 o_text ++ wN cI ad o_names) [] ⟨hx, hb, hml, hown, hts⟩ (c_Tokens_add l D cI sd ad r1.2 5 r1.2.2.1 2 r29 hcr29) (cwV2 hts q535 mvX2_add rfl rfl ⟨(Nat.le_of_ble_eq_true rfl), (Nat.le_of_ble_eq_true rfl)⟩) hK hE hA hP hD hS 0 (T := TX2) (N := 7) (ci := 2) rfl rfl [0, 1, 2, 3] rfl (by decide) rfl rfl rfl rfl rfl rfl hl.1 (Nat.le_of_ble_eq_true rfl) dX2_scanToken_28 ⟨Nat.zero_le _, Nat.zero_le _⟩ (fun H locs hP hD hS => ?_)
    refine lv_goto (tgt := 131) hx hb dX2_scanToken_31 (by decide) ?_
    cases hM
    exact rt_v hx hb hr hlk hP hD hS rfl dX2_scanToken_131

set_option maxHeartbeats 4000000 in
set_option maxRecDepth 100000 in
theorem c_Tokens_scan (l : Launch) (D : va_G) (cI : ClassId) (sd : Nat → Nat) (ad : Nat → Nat) (o_this : S_Tokens) (o_text : S_Bytes) (o_names : S_Names) (res : S_Tokens × S_Names) (hM : f_Tokens_scan o_this o_text o_names = some res) : Ctr l D cI sd yX2_scan (wsM yX2_scan cX2_scan 4 (Option.none : Option Jvm.ClassFile.FieldType)) { frames := 5, cells := 0, slots := 0, locals := 114 } [.ref (ad 10)] (wK cI ad o_this ++ wB cI (ad 1) (ad 2) 8192 o_text ++ wN cI ad o_names) (wK cI ad res.1 ++ wB cI (ad 1) (ad 2) 8192 o_text ++ wN cI ad res.2) none := by
  refine Ctr.of (cc := cX2_scan) (maxL := 4) (own := RX2) (by decide +kernel) rfl rfl (Nat.le_of_ble_eq_true rfl) ?_
  intro p e s m below meth c A ls hx hb hr hml hown hts hlk hK hE hA hP hD hS hl
  have hl : lv_has ls 4 [(0, .ref (ad 10))] := hl
  unfold f_Tokens_scan at hM
  refine lv_aload_n hx hb dX2_scan_0 rfl (lv_at hl 0 rfl) ?_
  refine va_get (D := D) (ci := 2) (v := .ref (ad 5)) (C := RX2) (T := TX2) (N := 7) hx hb hts layX2 hown hK hP 0 rfl rfl 1 (by decide) (hts _ (inA q332)) (fun _ h9 => h9) rfl dX2_scan_1 ?_
  obtain ⟨r1, hcr1, hM⟩ := ob_use hM
  refine cl_V (As := []) (rest := []) (wK cI ad o_this ++ wB cI (ad 1) (ad 2) 8192 o_text ++ wN cI ad r1) [] ⟨hx, hb, hml, hown, hts⟩ (c_Names_forget l D cI sd ad o_names r1 hcr1) (cwV2 hts q518 mvX1_forget rfl rfl ⟨(Nat.le_of_ble_eq_true rfl), (Nat.le_of_ble_eq_true rfl)⟩) hK hE hA hP hD hS 6 (T := TX1) (N := 6) (ci := 1) rfl rfl [6, 7, 8, 9, 10] rfl (by decide) rfl rfl rfl rfl rfl rfl hl.1 (Nat.le_of_ble_eq_true rfl) dX2_scan_4 ⟨Nat.zero_le _, Nat.zero_le _⟩ (fun H locs hP hD hS => ?_)
  refine lv_aload_n hx hb dX2_scan_7 rfl (lv_at hl 0 rfl) ?_
  refine lv_iconst (v := 0) hx hb dX2_scan_8 (by decide) ?_
  refine va_put (D := D) (ci := 2) (v := .int 0) (ty := .int) (C := RX2) (T := TX2) (N := 7) hx hb hts layX2 tyX2 tyX2_ok nmX2 hown hK hP hD hS 0 rfl rfl 5 (by decide) (hts _ (inA q339)) (fun _ h9 => h9) rfl (by decide +kernel) rfl rfl (Nat.le_of_ble_eq_true rfl) dX2_scan_9 (fun H locs hP hD hS => ?_)
  have hP : va_P D vwCl (wK cI ad (0, o_this.2) ++ wB cI (ad 1) (ad 2) 8192 o_text ++ wN cI ad r1) H := hP
  have hD : va_D A (wK cI ad (0, o_this.2) ++ wB cI (ad 1) (ad 2) 8192 o_text ++ wN cI ad r1) := hD
  refine lv_aload_n hx hb dX2_scan_12 rfl (lv_at hl 0 rfl) ?_
  refine lv_iconst (v := 0) hx hb dX2_scan_13 (by decide) ?_
  refine va_put (D := D) (ci := 2) (v := .int 0) (ty := .int) (C := RX2) (T := TX2) (N := 7) hx hb hts layX2 tyX2 tyX2_ok nmX2 hown hK hP hD hS 0 rfl rfl 6 (by decide) (hts _ (inA q341)) (fun _ h9 => h9) rfl (by decide +kernel) rfl rfl (Nat.le_of_ble_eq_true rfl) dX2_scan_14 (fun H locs hP hD hS => ?_)
  have hP : va_P D vwCl (wK cI ad (0, 0, o_this.2.2) ++ wB cI (ad 1) (ad 2) 8192 o_text ++ wN cI ad r1) H := hP
  have hD : va_D A (wK cI ad (0, 0, o_this.2.2) ++ wB cI (ad 1) (ad 2) 8192 o_text ++ wN cI ad r1) := hD
  refine lv_iconst (v := 1) hx hb dX2_scan_17 (by decide) ?_
  refine lv_istore_n (lv' := [(1, .int 1), (0, .ref (ad 10))]) hx hb dX2_scan_18 rfl hl (by decide) rfl (fun ls hl => ?_)
  refine lv_iconst (v := 0) hx hb dX2_scan_19 (by decide) ?_
  refine lv_istore_n (lv' := [(2, .int 0), (1, .int 1), (0, .ref (ad 10))]) hx hb dX2_scan_20 rfl hl (by decide) rfl (fun ls hl => ?_)
  have lp_L21 : ∀ (n : Nat) (v2_L21 : Int32) (v1_L21 : Int32) (o_this_L21 : S_Tokens) (o_names_L21 : S_Names) (out_L21 : S_Tokens × S_Names) (H : Heap) (locs : List Loc) (ls : Array Slot), f_Tokens_scan_L21 o_text n v2_L21 v1_L21 o_this_L21 o_names_L21 = some out_L21 → va_P D vwCl (wK cI ad o_this_L21 ++ wB cI (ad 1) (ad 2) 8192 o_text ++ wN cI ad o_names_L21) H → va_D A (wK cI ad o_this_L21 ++ wB cI (ad 1) (ad 2) 8192 o_text ++ wN cI ad o_names_L21) → va_S A s.heap H locs → lv_has ls 4 [(2, .int v2_L21), (1, .int v1_L21), (0, .ref (ad 10))] → (∀ (H : Heap) (locs : List Loc) (ls : Array Slot), va_P D vwCl (wK cI ad out_L21.1 ++ wB cI (ad 1) (ad 2) 8192 o_text ++ wN cI ad out_L21.2) H → va_D A (wK cI ad out_L21.1 ++ wB cI (ad 1) (ad 2) 8192 o_text ++ wN cI ad out_L21.2) → va_S A s.heap H locs → lv_has ls 4 [(0, .ref (ad 10))] → W p l e { frames := 5, cells := 0, slots := 0, locals := 114 } s m [.ref (ad 10)].toArray below meth c H locs 0 0 (MQ below (CQ D A (wK cI ad res.1 ++ wB cI (ad 1) (ad 2) 8192 o_text ++ wN cI ad res.2) none) [.ref (ad 10)].toArray s 0 0 A) (F0 m 69 ls [])) → W p l e { frames := 5, cells := 0, slots := 0, locals := 114 } s m [.ref (ad 10)].toArray below meth c H locs 0 0 (MQ below (CQ D A (wK cI ad res.1 ++ wB cI (ad 1) (ad 2) 8192 o_text ++ wN cI ad res.2) none) [.ref (ad 10)].toArray s 0 0 A) (F0 m 21 ls []) := by
    intro n
    induction n with
    | zero => intro v2_L21 v1_L21 o_this_L21 o_names_L21 out_L21 H locs ls hM; exact absurd (show none = some _ from hM) (by simp)
    | succ n ih_L21 =>
      intro v2_L21 v1_L21 o_this_L21 o_names_L21 out_L21 H locs ls hM hP hD hS hl kx_L21
      rw [f_Tokens_scan_L21] at hM
      refine lv_iload_n hx hb dX2_scan_21 rfl (lv_at hl 1 rfl) ?_
      refine lv_if_eq (tgt := 69) hx hb dX2_scan_22 (by decide) (fun c2 => ?_) (fun c2 => ?_)
      · replace hM := if_t c2 hM
        cases hM
        exact kx_L21 _ _ _ hP hD hS (lv_sub hl [2] rfl)
      · replace hM := if_f c2 hM
        refine lv_iload_n hx hb dX2_scan_25 rfl (lv_at hl 0 rfl) ?_
        refine lv_sipush (v := 8193) hx hb dX2_scan_26 (by decide) ?_
        refine lv_icmp_ge (tgt := 69) hx hb dX2_scan_29 (by decide) (fun c3 => ?_) (fun c3 => ?_)
        · replace hM := if_t c3 hM
          cases hM
          exact kx_L21 _ _ _ hP hD hS (lv_sub hl [2] rfl)
        · replace hM := if_f c3 hM
          refine lv_aload_n hx hb dX2_scan_32 rfl (lv_at hl 2 rfl) ?_
          obtain ⟨r4, hcr4, hM⟩ := ob_use hM
          refine cl_V (As := []) (rest := []) (wK cI ad r4.1 ++ wB cI (ad 1) (ad 2) 8192 o_text ++ wN cI ad r4.2) [] ⟨hx, hb, hml, hown, hts⟩ (c_Tokens_scanToken l D cI sd ad o_this_L21 o_text o_names_L21 r4 hcr4) (cwV2 hts q522 mvX2_scanToken rfl rfl ⟨(Nat.le_of_ble_eq_true rfl), (Nat.le_of_ble_eq_true rfl)⟩) hK hE hA hP hD hS 0 (T := TX2) (N := 7) (ci := 2) rfl rfl [0, 1, 2, 3, 4, 5, 6, 7, 8, 9, 10] rfl (by decide) rfl rfl rfl rfl rfl rfl hl.1 (Nat.le_of_ble_eq_true rfl) dX2_scan_33 ⟨Nat.zero_le _, Nat.zero_le _⟩ (fun H locs hP hD hS => ?_)
          refine lv_aload_n hx hb dX2_scan_36 rfl (lv_at hl 2 rfl) ?_
          refine lv_aload_n hx hb dX2_scan_37 rfl (lv_at hl 2 rfl) ?_
          refine va_get (D := D) (ci := 2) (v := .int r4.1.1) (C := RX2) (T := TX2) (N := 7) hx hb hts layX2 hown hK hP 0 rfl rfl 5 (by decide) (hts _ (inA q339)) (fun _ h9 => h9) rfl dX2_scan_38 ?_
          refine lv_iconst (v := 1) hx hb dX2_scan_41 (by decide) ?_
          refine lv_isub hx hb dX2_scan_42 ?_
          obtain ⟨r5, hcr5, hM⟩ := ob_use hM
          refine cl_V (As := [.int (r4.1.1 - 1)]) (rest := []) (wK cI ad r4.1 ++ wB cI (ad 1) (ad 2) 8192 o_text ++ wN cI ad r4.2) (.int r5 :: []) ⟨hx, hb, hml, hown, hts⟩ (c_Tokens_kind l D cI sd ad r4.1 (r4.1.1 - 1) r5 hcr5) (cwV2 hts q606 mvX2_kind rfl rfl ⟨(Nat.le_of_ble_eq_true rfl), (Nat.le_of_ble_eq_true rfl)⟩) hK hE hA hP hD hS 0 (T := TX2) (N := 7) (ci := 2) rfl rfl [0, 1, 2, 3] rfl (by decide) rfl rfl rfl rfl rfl rfl hl.1 (Nat.le_of_ble_eq_true rfl) dX2_scan_43 ⟨Nat.zero_le _, Nat.zero_le _⟩ (fun H locs hP hD hS => ?_)
          refine lv_istore_n (lv' := [(3, .int r5), (2, .int v2_L21), (1, .int v1_L21), (0, .ref (ad 10))]) hx hb dX2_scan_46 rfl hl (by decide) rfl (fun ls hl => ?_)
          refine lv_iload_n hx hb dX2_scan_47 rfl (lv_at hl 0 rfl) ?_
          refine lv_iconst (v := 4) hx hb dX2_scan_48 (by decide) ?_
          refine lv_icmp_eq (tgt := 61) hx hb dX2_scan_49 (by decide) (fun c6 => ?_) (fun c6 => ?_)
          · replace hM := if_t c6 hM
            refine lv_iconst (v := 0) hx hb dX2_scan_61 (by decide) ?_
            refine lv_istore_n (lv' := [(1, .int 0), (3, .int r5), (2, .int v2_L21), (0, .ref (ad 10))]) hx hb dX2_scan_62 rfl hl (by decide) rfl (fun ls hl => ?_)
            obtain ⟨x7, ex7⟩ : ∃ y : Int32, y = v2_L21 + 1 := ⟨_, rfl⟩
            replace hM := nm_use ex7 hM
            refine lv_iinc (v := x7) (lv' := [(2, .int x7), (1, .int 0), (3, .int r5), (0, .ref (ad 10))]) hx hb dX2_scan_63 hl (k := 2) rfl (by rw [ex7]; rfl) (by decide) rfl (fun ls hl => ?_)
            refine lv_goto (tgt := 21) hx hb dX2_scan_66 (by decide) ?_
            exact ih_L21 x7 0 r4.1 r4.2 out_L21 _ _ _ hM hP hD hS (lv_sub hl [0, 1, 3] rfl) kx_L21
          · replace hM := if_f c6 hM
            refine lv_iload_n hx hb dX2_scan_52 rfl (lv_at hl 0 rfl) ?_
            refine lv_iconst (v := 5) hx hb dX2_scan_53 (by decide) ?_
            refine lv_icmp_eq (tgt := 61) hx hb dX2_scan_54 (by decide) (fun c8 => ?_) (fun c8 => ?_)
            · replace hM := if_t c8 hM
              refine lv_iconst (v := 0) hx hb dX2_scan_61 (by decide) ?_
              refine lv_istore_n (lv' := [(1, .int 0), (3, .int r5), (2, .int v2_L21), (0, .ref (ad 10))]) hx hb dX2_scan_62 rfl hl (by decide) rfl (fun ls hl => ?_)
              obtain ⟨x9, ex9⟩ : ∃ y : Int32, y = v2_L21 + 1 := ⟨_, rfl⟩
              replace hM := nm_use ex9 hM
              refine lv_iinc (v := x9) (lv' := [(2, .int x9), (1, .int 0), (3, .int r5), (0, .ref (ad 10))]) hx hb dX2_scan_63 hl (k := 2) rfl (by rw [ex9]; rfl) (by decide) rfl (fun ls hl => ?_)
              refine lv_goto (tgt := 21) hx hb dX2_scan_66 (by decide) ?_
              exact ih_L21 x9 0 r4.1 r4.2 out_L21 _ _ _ hM hP hD hS (lv_sub hl [0, 1, 3] rfl) kx_L21
            · replace hM := if_f c8 hM
              refine lv_iconst (v := 1) hx hb dX2_scan_57 (by decide) ?_
              refine lv_goto (tgt := 62) hx hb dX2_scan_58 (by decide) ?_
              refine lv_istore_n (lv' := [(1, .int 1), (3, .int r5), (2, .int v2_L21), (0, .ref (ad 10))]) hx hb dX2_scan_62 rfl hl (by decide) rfl (fun ls hl => ?_)
              obtain ⟨x10, ex10⟩ : ∃ y : Int32, y = v2_L21 + 1 := ⟨_, rfl⟩
              replace hM := nm_use ex10 hM
              refine lv_iinc (v := x10) (lv' := [(2, .int x10), (1, .int 1), (3, .int r5), (0, .ref (ad 10))]) hx hb dX2_scan_63 hl (k := 2) rfl (by rw [ex10]; rfl) (by decide) rfl (fun ls hl => ?_)
              refine lv_goto (tgt := 21) hx hb dX2_scan_66 (by decide) ?_
              exact ih_L21 x10 1 r4.1 r4.2 out_L21 _ _ _ hM hP hD hS (lv_sub hl [0, 1, 3] rfl) kx_L21
  obtain ⟨r11, hcr11, hM⟩ := ob_use hM
  refine lp_L21 FU 0 1 (0, 0, o_this.2.2) r1 r11 _ _ _ hcr11 hP hD hS (lv_sub hl [0, 1, 2] rfl) (fun H locs ls hP hD hS hl => ?_)
  cases hM
  exact rt_v hx hb hr hlk hP hD hS rfl dX2_scan_69
end

section
-- ===== PART A: goes FIRST, ahead of the names: the tables' words, and 'selects' of the private methods out of them =====
/-- a private method of a class that the tables say can be made, by its rows of tables_1 -/
def lw_okq (q : MethodName × Nat) : Prop := (q.1.cls ≠ "java/lang/invoke/MethodHandle" ∧ q.1.cls ≠ "java/lang/invoke/VarHandle") ∧ Cond.instantiable q.1.cls q.2 ∈ tables_1 ∧ Cond.privateMethod q.1 ∈ tables_1 ∧ Cond.instanceMethod q.1 ∈ tables_1
theorem lw_p0 : lw_okq (⟨"ControlText$Names", "addWords", "(Ljava/lang/String;)V"⟩, 6) := ⟨⟨by decide +kernel, by decide +kernel⟩, List.mem_of_getElem? (i := 42) (by decide +kernel), List.mem_of_getElem? (i := 49) (by decide +kernel), List.mem_of_getElem? (i := 50) (by decide +kernel)⟩
theorem lw_p1 : lw_okq (⟨"ControlText$Names", "firstSlot", "()I"⟩, 6) := ⟨⟨by decide +kernel, by decide +kernel⟩, List.mem_of_getElem? (i := 42) (by decide +kernel), List.mem_of_getElem? (i := 105) (by decide +kernel), List.mem_of_getElem? (i := 106) (by decide +kernel)⟩
theorem lw_p2 : lw_okq (⟨"ControlText$Names", "startOf", "(I)I"⟩, 6) := ⟨⟨by decide +kernel, by decide +kernel⟩, List.mem_of_getElem? (i := 42) (by decide +kernel), List.mem_of_getElem? (i := 109) (by decide +kernel), List.mem_of_getElem? (i := 110) (by decide +kernel)⟩
theorem lw_p3 : lw_okq (⟨"ControlText$Names", "keep", "(I)I"⟩, 6) := ⟨⟨by decide +kernel, by decide +kernel⟩, List.mem_of_getElem? (i := 42) (by decide +kernel), List.mem_of_getElem? (i := 113) (by decide +kernel), List.mem_of_getElem? (i := 114) (by decide +kernel)⟩
theorem lw_p4 : lw_okq (⟨"ControlText$Names", "isAddedLast", "(I)Z"⟩, 6) := ⟨⟨by decide +kernel, by decide +kernel⟩, List.mem_of_getElem? (i := 42) (by decide +kernel), List.mem_of_getElem? (i := 117) (by decide +kernel), List.mem_of_getElem? (i := 118) (by decide +kernel)⟩
theorem lw_p5 : lw_okq (⟨"ControlText", "feedNumber", "(I)V"⟩, 7) := ⟨⟨by decide +kernel, by decide +kernel⟩, List.mem_of_getElem? (i := 17) (by decide +kernel), List.mem_of_getElem? (i := 315) (by decide +kernel), List.mem_of_getElem? (i := 316) (by decide +kernel)⟩
theorem lw_p6 : lw_okq (⟨"ControlText$Tokens", "scanToken", "()V"⟩, 7) := ⟨⟨by decide +kernel, by decide +kernel⟩, List.mem_of_getElem? (i := 154) (by decide +kernel), List.mem_of_getElem? (i := 351) (by decide +kernel), List.mem_of_getElem? (i := 352) (by decide +kernel)⟩
theorem lw_p7 : lw_okq (⟨"ControlText$Tokens", "skipBlanks", "()Z"⟩, 7) := ⟨⟨by decide +kernel, by decide +kernel⟩, List.mem_of_getElem? (i := 154) (by decide +kernel), List.mem_of_getElem? (i := 355) (by decide +kernel), List.mem_of_getElem? (i := 356) (by decide +kernel)⟩
theorem lw_p8 : lw_okq (⟨"ControlText$Tokens", "endOfComment", "(I)I"⟩, 7) := ⟨⟨by decide +kernel, by decide +kernel⟩, List.mem_of_getElem? (i := 154) (by decide +kernel), List.mem_of_getElem? (i := 360) (by decide +kernel), List.mem_of_getElem? (i := 361) (by decide +kernel)⟩
theorem lw_p9 : lw_okq (⟨"ControlText$Tokens", "add", "(III)V"⟩, 7) := ⟨⟨by decide +kernel, by decide +kernel⟩, List.mem_of_getElem? (i := 154) (by decide +kernel), List.mem_of_getElem? (i := 364) (by decide +kernel), List.mem_of_getElem? (i := 365) (by decide +kernel)⟩
theorem lw_p10 : lw_okq (⟨"ControlText$Tokens", "scanTime", "()V"⟩, 7) := ⟨⟨by decide +kernel, by decide +kernel⟩, List.mem_of_getElem? (i := 154) (by decide +kernel), List.mem_of_getElem? (i := 369) (by decide +kernel), List.mem_of_getElem? (i := 370) (by decide +kernel)⟩
theorem lw_p11 : lw_okq (⟨"ControlText$Tokens", "digits", "(I)J"⟩, 7) := ⟨⟨by decide +kernel, by decide +kernel⟩, List.mem_of_getElem? (i := 154) (by decide +kernel), List.mem_of_getElem? (i := 373) (by decide +kernel), List.mem_of_getElem? (i := 374) (by decide +kernel)⟩
theorem lw_p12 : lw_okq (⟨"ControlText$Tokens", "unit", "()J"⟩, 7) := ⟨⟨by decide +kernel, by decide +kernel⟩, List.mem_of_getElem? (i := 154) (by decide +kernel), List.mem_of_getElem? (i := 388) (by decide +kernel), List.mem_of_getElem? (i := 389) (by decide +kernel)⟩
theorem lw_p13 : lw_okq (⟨"ControlText$Tokens", "addNumber", "(IJ)V"⟩, 7) := ⟨⟨by decide +kernel, by decide +kernel⟩, List.mem_of_getElem? (i := 154) (by decide +kernel), List.mem_of_getElem? (i := 395) (by decide +kernel), List.mem_of_getElem? (i := 396) (by decide +kernel)⟩
theorem lw_p14 : lw_okq (⟨"ControlText$Tokens", "scanNumber", "()V"⟩, 7) := ⟨⟨by decide +kernel, by decide +kernel⟩, List.mem_of_getElem? (i := 154) (by decide +kernel), List.mem_of_getElem? (i := 403) (by decide +kernel), List.mem_of_getElem? (i := 404) (by decide +kernel)⟩
theorem lw_p15 : lw_okq (⟨"ControlText$Tokens", "scanName", "()V"⟩, 7) := ⟨⟨by decide +kernel, by decide +kernel⟩, List.mem_of_getElem? (i := 154) (by decide +kernel), List.mem_of_getElem? (i := 409) (by decide +kernel), List.mem_of_getElem? (i := 410) (by decide +kernel)⟩
def lw_privs_1 : List (MethodName × Nat) := [(⟨"ControlText$Names", "addWords", "(Ljava/lang/String;)V"⟩, 6), (⟨"ControlText$Names", "firstSlot", "()I"⟩, 6), (⟨"ControlText$Names", "startOf", "(I)I"⟩, 6), (⟨"ControlText$Names", "keep", "(I)I"⟩, 6), (⟨"ControlText$Names", "isAddedLast", "(I)Z"⟩, 6), (⟨"ControlText", "feedNumber", "(I)V"⟩, 7), (⟨"ControlText$Tokens", "scanToken", "()V"⟩, 7), (⟨"ControlText$Tokens", "skipBlanks", "()Z"⟩, 7), (⟨"ControlText$Tokens", "endOfComment", "(I)I"⟩, 7), (⟨"ControlText$Tokens", "add", "(III)V"⟩, 7), (⟨"ControlText$Tokens", "scanTime", "()V"⟩, 7), (⟨"ControlText$Tokens", "digits", "(I)J"⟩, 7), (⟨"ControlText$Tokens", "unit", "()J"⟩, 7), (⟨"ControlText$Tokens", "addNumber", "(IJ)V"⟩, 7), (⟨"ControlText$Tokens", "scanNumber", "()V"⟩, 7), (⟨"ControlText$Tokens", "scanName", "()V"⟩, 7)]
theorem lw_r1 : ∀ q ∈ lw_privs_1, lw_okq q := List.forall_mem_cons.mpr ⟨lw_p0, List.forall_mem_cons.mpr ⟨lw_p1, List.forall_mem_cons.mpr ⟨lw_p2, List.forall_mem_cons.mpr ⟨lw_p3, List.forall_mem_cons.mpr ⟨lw_p4, List.forall_mem_cons.mpr ⟨lw_p5, List.forall_mem_cons.mpr ⟨lw_p6, List.forall_mem_cons.mpr ⟨lw_p7, List.forall_mem_cons.mpr ⟨lw_p8, List.forall_mem_cons.mpr ⟨lw_p9, List.forall_mem_cons.mpr ⟨lw_p10, List.forall_mem_cons.mpr ⟨lw_p11, List.forall_mem_cons.mpr ⟨lw_p12, List.forall_mem_cons.mpr ⟨lw_p13, List.forall_mem_cons.mpr ⟨lw_p14, List.forall_mem_cons.mpr ⟨lw_p15, fun _ h => absurd h List.not_mem_nil⟩⟩⟩⟩⟩⟩⟩⟩⟩⟩⟩⟩⟩⟩⟩⟩
theorem lw_p16 : lw_okq (⟨"ControlText$Tokens", "scanPlace", "()V"⟩, 7) := ⟨⟨by decide +kernel, by decide +kernel⟩, List.mem_of_getElem? (i := 154) (by decide +kernel), List.mem_of_getElem? (i := 415) (by decide +kernel), List.mem_of_getElem? (i := 416) (by decide +kernel)⟩
theorem lw_p17 : lw_okq (⟨"ControlText$Tokens", "scanSign", "()V"⟩, 7) := ⟨⟨by decide +kernel, by decide +kernel⟩, List.mem_of_getElem? (i := 154) (by decide +kernel), List.mem_of_getElem? (i := 422) (by decide +kernel), List.mem_of_getElem? (i := 423) (by decide +kernel)⟩
theorem lw_p18 : lw_okq (⟨"ControlText$Parser", "take", "(I)V"⟩, 12) := ⟨⟨by decide +kernel, by decide +kernel⟩, List.mem_of_getElem? (i := 220) (by decide +kernel), List.mem_of_getElem? (i := 443) (by decide +kernel), List.mem_of_getElem? (i := 444) (by decide +kernel)⟩
theorem lw_p19 : lw_okq (⟨"ControlText$Parser", "startsBlock", "()Z"⟩, 12) := ⟨⟨by decide +kernel, by decide +kernel⟩, List.mem_of_getElem? (i := 220) (by decide +kernel), List.mem_of_getElem? (i := 455) (by decide +kernel), List.mem_of_getElem? (i := 456) (by decide +kernel)⟩
theorem lw_p20 : lw_okq (⟨"ControlText$Parser", "blockHead", "(I)I"⟩, 12) := ⟨⟨by decide +kernel, by decide +kernel⟩, List.mem_of_getElem? (i := 220) (by decide +kernel), List.mem_of_getElem? (i := 459) (by decide +kernel), List.mem_of_getElem? (i := 460) (by decide +kernel)⟩
theorem lw_p21 : lw_okq (⟨"ControlText$Parser", "takeName", "()I"⟩, 12) := ⟨⟨by decide +kernel, by decide +kernel⟩, List.mem_of_getElem? (i := 220) (by decide +kernel), List.mem_of_getElem? (i := 466) (by decide +kernel), List.mem_of_getElem? (i := 467) (by decide +kernel)⟩
theorem lw_p22 : lw_okq (⟨"ControlText$Parser", "simpleType", "(I)V"⟩, 12) := ⟨⟨by decide +kernel, by decide +kernel⟩, List.mem_of_getElem? (i := 220) (by decide +kernel), List.mem_of_getElem? (i := 470) (by decide +kernel), List.mem_of_getElem? (i := 471) (by decide +kernel)⟩
theorem lw_p23 : lw_okq (⟨"ControlText$Parser", "sections", "(I)V"⟩, 12) := ⟨⟨by decide +kernel, by decide +kernel⟩, List.mem_of_getElem? (i := 220) (by decide +kernel), List.mem_of_getElem? (i := 474) (by decide +kernel), List.mem_of_getElem? (i := 475) (by decide +kernel)⟩
theorem lw_p24 : lw_okq (⟨"ControlText$Parser", "startsSection", "()Z"⟩, 12) := ⟨⟨by decide +kernel, by decide +kernel⟩, List.mem_of_getElem? (i := 220) (by decide +kernel), List.mem_of_getElem? (i := 478) (by decide +kernel), List.mem_of_getElem? (i := 479) (by decide +kernel)⟩
theorem lw_p25 : lw_okq (⟨"ControlText$Parser", "declaration", "(I)V"⟩, 12) := ⟨⟨by decide +kernel, by decide +kernel⟩, List.mem_of_getElem? (i := 220) (by decide +kernel), List.mem_of_getElem? (i := 482) (by decide +kernel), List.mem_of_getElem? (i := 483) (by decide +kernel)⟩
theorem lw_p26 : lw_okq (⟨"ControlText$Parser", "nameNode", "(I)V"⟩, 12) := ⟨⟨by decide +kernel, by decide +kernel⟩, List.mem_of_getElem? (i := 220) (by decide +kernel), List.mem_of_getElem? (i := 486) (by decide +kernel), List.mem_of_getElem? (i := 487) (by decide +kernel)⟩
theorem lw_p27 : lw_okq (⟨"ControlText$Parser", "type", "(I)V"⟩, 12) := ⟨⟨by decide +kernel, by decide +kernel⟩, List.mem_of_getElem? (i := 220) (by decide +kernel), List.mem_of_getElem? (i := 490) (by decide +kernel), List.mem_of_getElem? (i := 491) (by decide +kernel)⟩
theorem lw_p28 : lw_okq (⟨"ControlText$Parser", "constant", "(I)V"⟩, 12) := ⟨⟨by decide +kernel, by decide +kernel⟩, List.mem_of_getElem? (i := 220) (by decide +kernel), List.mem_of_getElem? (i := 494) (by decide +kernel), List.mem_of_getElem? (i := 495) (by decide +kernel)⟩
theorem lw_p29 : lw_okq (⟨"ControlText$Parser", "literal", "(I)V"⟩, 12) := ⟨⟨by decide +kernel, by decide +kernel⟩, List.mem_of_getElem? (i := 220) (by decide +kernel), List.mem_of_getElem? (i := 498) (by decide +kernel), List.mem_of_getElem? (i := 499) (by decide +kernel)⟩
theorem lw_p30 : lw_okq (⟨"ControlText$Parser", "ladder", "(I)V"⟩, 12) := ⟨⟨by decide +kernel, by decide +kernel⟩, List.mem_of_getElem? (i := 220) (by decide +kernel), List.mem_of_getElem? (i := 502) (by decide +kernel), List.mem_of_getElem? (i := 503) (by decide +kernel)⟩
theorem lw_p31 : lw_okq (⟨"ControlText$Parser", "row", "(I)V"⟩, 12) := ⟨⟨by decide +kernel, by decide +kernel⟩, List.mem_of_getElem? (i := 220) (by decide +kernel), List.mem_of_getElem? (i := 506) (by decide +kernel), List.mem_of_getElem? (i := 507) (by decide +kernel)⟩
def lw_privs_2 : List (MethodName × Nat) := [(⟨"ControlText$Tokens", "scanPlace", "()V"⟩, 7), (⟨"ControlText$Tokens", "scanSign", "()V"⟩, 7), (⟨"ControlText$Parser", "take", "(I)V"⟩, 12), (⟨"ControlText$Parser", "startsBlock", "()Z"⟩, 12), (⟨"ControlText$Parser", "blockHead", "(I)I"⟩, 12), (⟨"ControlText$Parser", "takeName", "()I"⟩, 12), (⟨"ControlText$Parser", "simpleType", "(I)V"⟩, 12), (⟨"ControlText$Parser", "sections", "(I)V"⟩, 12), (⟨"ControlText$Parser", "startsSection", "()Z"⟩, 12), (⟨"ControlText$Parser", "declaration", "(I)V"⟩, 12), (⟨"ControlText$Parser", "nameNode", "(I)V"⟩, 12), (⟨"ControlText$Parser", "type", "(I)V"⟩, 12), (⟨"ControlText$Parser", "constant", "(I)V"⟩, 12), (⟨"ControlText$Parser", "literal", "(I)V"⟩, 12), (⟨"ControlText$Parser", "ladder", "(I)V"⟩, 12), (⟨"ControlText$Parser", "row", "(I)V"⟩, 12)]
theorem lw_r2 : ∀ q ∈ lw_privs_2, lw_okq q := List.forall_mem_cons.mpr ⟨lw_p16, List.forall_mem_cons.mpr ⟨lw_p17, List.forall_mem_cons.mpr ⟨lw_p18, List.forall_mem_cons.mpr ⟨lw_p19, List.forall_mem_cons.mpr ⟨lw_p20, List.forall_mem_cons.mpr ⟨lw_p21, List.forall_mem_cons.mpr ⟨lw_p22, List.forall_mem_cons.mpr ⟨lw_p23, List.forall_mem_cons.mpr ⟨lw_p24, List.forall_mem_cons.mpr ⟨lw_p25, List.forall_mem_cons.mpr ⟨lw_p26, List.forall_mem_cons.mpr ⟨lw_p27, List.forall_mem_cons.mpr ⟨lw_p28, List.forall_mem_cons.mpr ⟨lw_p29, List.forall_mem_cons.mpr ⟨lw_p30, List.forall_mem_cons.mpr ⟨lw_p31, fun _ h => absurd h List.not_mem_nil⟩⟩⟩⟩⟩⟩⟩⟩⟩⟩⟩⟩⟩⟩⟩⟩
theorem lw_p32 : lw_okq (⟨"ControlText$Parser", "cell", "(I)V"⟩, 12) := ⟨⟨by decide +kernel, by decide +kernel⟩, List.mem_of_getElem? (i := 220) (by decide +kernel), List.mem_of_getElem? (i := 510) (by decide +kernel), List.mem_of_getElem? (i := 511) (by decide +kernel)⟩
theorem lw_p33 : lw_okq (⟨"ControlText$Parser", "coil", "(I)V"⟩, 12) := ⟨⟨by decide +kernel, by decide +kernel⟩, List.mem_of_getElem? (i := 220) (by decide +kernel), List.mem_of_getElem? (i := 514) (by decide +kernel), List.mem_of_getElem? (i := 515) (by decide +kernel)⟩
theorem lw_p34 : lw_okq (⟨"ControlText$Parser", "contact", "(I)V"⟩, 12) := ⟨⟨by decide +kernel, by decide +kernel⟩, List.mem_of_getElem? (i := 220) (by decide +kernel), List.mem_of_getElem? (i := 521) (by decide +kernel), List.mem_of_getElem? (i := 522) (by decide +kernel)⟩
theorem lw_p35 : lw_okq (⟨"ControlText$Parser", "startsCell", "()Z"⟩, 12) := ⟨⟨by decide +kernel, by decide +kernel⟩, List.mem_of_getElem? (i := 220) (by decide +kernel), List.mem_of_getElem? (i := 528) (by decide +kernel), List.mem_of_getElem? (i := 529) (by decide +kernel)⟩
theorem lw_p36 : lw_okq (⟨"ControlText$Parser", "body", "(I)V"⟩, 12) := ⟨⟨by decide +kernel, by decide +kernel⟩, List.mem_of_getElem? (i := 220) (by decide +kernel), List.mem_of_getElem? (i := 532) (by decide +kernel), List.mem_of_getElem? (i := 533) (by decide +kernel)⟩
theorem lw_p37 : lw_okq (⟨"ControlText$Parser", "statement", "(I)Z"⟩, 12) := ⟨⟨by decide +kernel, by decide +kernel⟩, List.mem_of_getElem? (i := 220) (by decide +kernel), List.mem_of_getElem? (i := 536) (by decide +kernel), List.mem_of_getElem? (i := 537) (by decide +kernel)⟩
theorem lw_p38 : lw_okq (⟨"ControlText$Parser", "invocation", "(III)V"⟩, 12) := ⟨⟨by decide +kernel, by decide +kernel⟩, List.mem_of_getElem? (i := 220) (by decide +kernel), List.mem_of_getElem? (i := 540) (by decide +kernel), List.mem_of_getElem? (i := 541) (by decide +kernel)⟩
theorem lw_p39 : lw_okq (⟨"ControlText$Parser", "takeOpening", "()V"⟩, 12) := ⟨⟨by decide +kernel, by decide +kernel⟩, List.mem_of_getElem? (i := 220) (by decide +kernel), List.mem_of_getElem? (i := 544) (by decide +kernel), List.mem_of_getElem? (i := 545) (by decide +kernel)⟩
theorem lw_p40 : lw_okq (⟨"ControlText$Parser", "mayOpen", "()Z"⟩, 12) := ⟨⟨by decide +kernel, by decide +kernel⟩, List.mem_of_getElem? (i := 220) (by decide +kernel), List.mem_of_getElem? (i := 548) (by decide +kernel), List.mem_of_getElem? (i := 549) (by decide +kernel)⟩
theorem lw_p41 : lw_okq (⟨"ControlText$Parser", "outermostExpression", "(I)V"⟩, 12) := ⟨⟨by decide +kernel, by decide +kernel⟩, List.mem_of_getElem? (i := 220) (by decide +kernel), List.mem_of_getElem? (i := 552) (by decide +kernel), List.mem_of_getElem? (i := 553) (by decide +kernel)⟩
theorem lw_p42 : lw_okq (⟨"ControlText$Parser", "expression", "(II)V"⟩, 12) := ⟨⟨by decide +kernel, by decide +kernel⟩, List.mem_of_getElem? (i := 220) (by decide +kernel), List.mem_of_getElem? (i := 556) (by decide +kernel), List.mem_of_getElem? (i := 557) (by decide +kernel)⟩
theorem lw_p43 : lw_okq (⟨"ControlText$Parser", "operand", "(I)V"⟩, 12) := ⟨⟨by decide +kernel, by decide +kernel⟩, List.mem_of_getElem? (i := 220) (by decide +kernel), List.mem_of_getElem? (i := 560) (by decide +kernel), List.mem_of_getElem? (i := 561) (by decide +kernel)⟩
theorem lw_p44 : lw_okq (⟨"ControlText$Parser", "takeClosing", "(I)V"⟩, 12) := ⟨⟨by decide +kernel, by decide +kernel⟩, List.mem_of_getElem? (i := 220) (by decide +kernel), List.mem_of_getElem? (i := 564) (by decide +kernel), List.mem_of_getElem? (i := 565) (by decide +kernel)⟩
theorem lw_p45 : lw_okq (⟨"ControlText$Parser", "operandByName", "(I)V"⟩, 12) := ⟨⟨by decide +kernel, by decide +kernel⟩, List.mem_of_getElem? (i := 220) (by decide +kernel), List.mem_of_getElem? (i := 568) (by decide +kernel), List.mem_of_getElem? (i := 569) (by decide +kernel)⟩
theorem lw_p46 : lw_okq (⟨"ControlText$Parser", "takeComma", "()Z"⟩, 12) := ⟨⟨by decide +kernel, by decide +kernel⟩, List.mem_of_getElem? (i := 220) (by decide +kernel), List.mem_of_getElem? (i := 572) (by decide +kernel), List.mem_of_getElem? (i := 573) (by decide +kernel)⟩
theorem lw_p47 : lw_okq (⟨"ControlText$Tree", "has", "(I)Z"⟩, 8) := ⟨⟨by decide +kernel, by decide +kernel⟩, List.mem_of_getElem? (i := 186) (by decide +kernel), List.mem_of_getElem? (i := 588) (by decide +kernel), List.mem_of_getElem? (i := 589) (by decide +kernel)⟩
def lw_privs_3 : List (MethodName × Nat) := [(⟨"ControlText$Parser", "cell", "(I)V"⟩, 12), (⟨"ControlText$Parser", "coil", "(I)V"⟩, 12), (⟨"ControlText$Parser", "contact", "(I)V"⟩, 12), (⟨"ControlText$Parser", "startsCell", "()Z"⟩, 12), (⟨"ControlText$Parser", "body", "(I)V"⟩, 12), (⟨"ControlText$Parser", "statement", "(I)Z"⟩, 12), (⟨"ControlText$Parser", "invocation", "(III)V"⟩, 12), (⟨"ControlText$Parser", "takeOpening", "()V"⟩, 12), (⟨"ControlText$Parser", "mayOpen", "()Z"⟩, 12), (⟨"ControlText$Parser", "outermostExpression", "(I)V"⟩, 12), (⟨"ControlText$Parser", "expression", "(II)V"⟩, 12), (⟨"ControlText$Parser", "operand", "(I)V"⟩, 12), (⟨"ControlText$Parser", "takeClosing", "(I)V"⟩, 12), (⟨"ControlText$Parser", "operandByName", "(I)V"⟩, 12), (⟨"ControlText$Parser", "takeComma", "()Z"⟩, 12), (⟨"ControlText$Tree", "has", "(I)Z"⟩, 8)]
theorem lw_r3 : ∀ q ∈ lw_privs_3, lw_okq q := List.forall_mem_cons.mpr ⟨lw_p32, List.forall_mem_cons.mpr ⟨lw_p33, List.forall_mem_cons.mpr ⟨lw_p34, List.forall_mem_cons.mpr ⟨lw_p35, List.forall_mem_cons.mpr ⟨lw_p36, List.forall_mem_cons.mpr ⟨lw_p37, List.forall_mem_cons.mpr ⟨lw_p38, List.forall_mem_cons.mpr ⟨lw_p39, List.forall_mem_cons.mpr ⟨lw_p40, List.forall_mem_cons.mpr ⟨lw_p41, List.forall_mem_cons.mpr ⟨lw_p42, List.forall_mem_cons.mpr ⟨lw_p43, List.forall_mem_cons.mpr ⟨lw_p44, List.forall_mem_cons.mpr ⟨lw_p45, List.forall_mem_cons.mpr ⟨lw_p46, List.forall_mem_cons.mpr ⟨lw_p47, fun _ h => absurd h List.not_mem_nil⟩⟩⟩⟩⟩⟩⟩⟩⟩⟩⟩⟩⟩⟩⟩⟩
theorem lw_p48 : lw_okq (⟨"ControlText$Parser", "assignment", "(III)V"⟩, 12) := ⟨⟨by decide +kernel, by decide +kernel⟩, List.mem_of_getElem? (i := 220) (by decide +kernel), List.mem_of_getElem? (i := 595) (by decide +kernel), List.mem_of_getElem? (i := 596) (by decide +kernel)⟩
theorem lw_p49 : lw_okq (⟨"ControlText$Parser", "ifStatement", "(I)V"⟩, 12) := ⟨⟨by decide +kernel, by decide +kernel⟩, List.mem_of_getElem? (i := 220) (by decide +kernel), List.mem_of_getElem? (i := 599) (by decide +kernel), List.mem_of_getElem? (i := 600) (by decide +kernel)⟩
theorem lw_p50 : lw_okq (⟨"ControlText$Parser", "caseStatement", "(I)V"⟩, 12) := ⟨⟨by decide +kernel, by decide +kernel⟩, List.mem_of_getElem? (i := 220) (by decide +kernel), List.mem_of_getElem? (i := 603) (by decide +kernel), List.mem_of_getElem? (i := 604) (by decide +kernel)⟩
theorem lw_p51 : lw_okq (⟨"ControlText$Parser", "startsConstant", "()Z"⟩, 12) := ⟨⟨by decide +kernel, by decide +kernel⟩, List.mem_of_getElem? (i := 220) (by decide +kernel), List.mem_of_getElem? (i := 607) (by decide +kernel), List.mem_of_getElem? (i := 608) (by decide +kernel)⟩
theorem lw_p52 : lw_okq (⟨"ControlText$Parser", "ranges", "(I)V"⟩, 12) := ⟨⟨by decide +kernel, by decide +kernel⟩, List.mem_of_getElem? (i := 220) (by decide +kernel), List.mem_of_getElem? (i := 611) (by decide +kernel), List.mem_of_getElem? (i := 612) (by decide +kernel)⟩
theorem lw_p53 : lw_okq (⟨"ControlText$Parser", "forStatement", "(I)V"⟩, 12) := ⟨⟨by decide +kernel, by decide +kernel⟩, List.mem_of_getElem? (i := 220) (by decide +kernel), List.mem_of_getElem? (i := 615) (by decide +kernel), List.mem_of_getElem? (i := 616) (by decide +kernel)⟩
theorem lw_p54 : lw_okq (⟨"ControlText$Parser", "tellFault", "()V"⟩, 12) := ⟨⟨by decide +kernel, by decide +kernel⟩, List.mem_of_getElem? (i := 220) (by decide +kernel), List.mem_of_getElem? (i := 622) (by decide +kernel), List.mem_of_getElem? (i := 623) (by decide +kernel)⟩
theorem lw_p55 : lw_okq (⟨"ControlText$Tree", "firstUnfilled", "(I)I"⟩, 8) := ⟨⟨by decide +kernel, by decide +kernel⟩, List.mem_of_getElem? (i := 186) (by decide +kernel), List.mem_of_getElem? (i := 639) (by decide +kernel), List.mem_of_getElem? (i := 640) (by decide +kernel)⟩
theorem lw_p56 : lw_okq (⟨"ControlText$Writer", "finishUpTo", "(II)V"⟩, 3) := ⟨⟨by decide +kernel, by decide +kernel⟩, List.mem_of_getElem? (i := 265) (by decide +kernel), List.mem_of_getElem? (i := 691) (by decide +kernel), List.mem_of_getElem? (i := 692) (by decide +kernel)⟩
theorem lw_p57 : lw_okq (⟨"ControlText$Writer", "finish", "(I)V"⟩, 3) := ⟨⟨by decide +kernel, by decide +kernel⟩, List.mem_of_getElem? (i := 265) (by decide +kernel), List.mem_of_getElem? (i := 695) (by decide +kernel), List.mem_of_getElem? (i := 696) (by decide +kernel)⟩
theorem lw_p58 : lw_okq (⟨"ControlText$Writer", "token", "(I)V"⟩, 3) := ⟨⟨by decide +kernel, by decide +kernel⟩, List.mem_of_getElem? (i := 265) (by decide +kernel), List.mem_of_getElem? (i := 701) (by decide +kernel), List.mem_of_getElem? (i := 702) (by decide +kernel)⟩
theorem lw_p59 : lw_okq (⟨"ControlText$Writer", "word", "(I)V"⟩, 3) := ⟨⟨by decide +kernel, by decide +kernel⟩, List.mem_of_getElem? (i := 265) (by decide +kernel), List.mem_of_getElem? (i := 705) (by decide +kernel), List.mem_of_getElem? (i := 706) (by decide +kernel)⟩
theorem lw_p60 : lw_okq (⟨"ControlText$Writer", "part", "()V"⟩, 3) := ⟨⟨by decide +kernel, by decide +kernel⟩, List.mem_of_getElem? (i := 265) (by decide +kernel), List.mem_of_getElem? (i := 709) (by decide +kernel), List.mem_of_getElem? (i := 710) (by decide +kernel)⟩
theorem lw_p61 : lw_okq (⟨"ControlText$Writer", "isBracketed", "(I)Z"⟩, 3) := ⟨⟨by decide +kernel, by decide +kernel⟩, List.mem_of_getElem? (i := 265) (by decide +kernel), List.mem_of_getElem? (i := 717) (by decide +kernel), List.mem_of_getElem? (i := 718) (by decide +kernel)⟩
theorem lw_p62 : lw_okq (⟨"ControlText$Writer", "separate", "(I)V"⟩, 3) := ⟨⟨by decide +kernel, by decide +kernel⟩, List.mem_of_getElem? (i := 265) (by decide +kernel), List.mem_of_getElem? (i := 733) (by decide +kernel), List.mem_of_getElem? (i := 734) (by decide +kernel)⟩
theorem lw_p63 : lw_okq (⟨"ControlText$Writer", "begin", "(I)V"⟩, 3) := ⟨⟨by decide +kernel, by decide +kernel⟩, List.mem_of_getElem? (i := 265) (by decide +kernel), List.mem_of_getElem? (i := 757) (by decide +kernel), List.mem_of_getElem? (i := 758) (by decide +kernel)⟩
def lw_privs_4 : List (MethodName × Nat) := [(⟨"ControlText$Parser", "assignment", "(III)V"⟩, 12), (⟨"ControlText$Parser", "ifStatement", "(I)V"⟩, 12), (⟨"ControlText$Parser", "caseStatement", "(I)V"⟩, 12), (⟨"ControlText$Parser", "startsConstant", "()Z"⟩, 12), (⟨"ControlText$Parser", "ranges", "(I)V"⟩, 12), (⟨"ControlText$Parser", "forStatement", "(I)V"⟩, 12), (⟨"ControlText$Parser", "tellFault", "()V"⟩, 12), (⟨"ControlText$Tree", "firstUnfilled", "(I)I"⟩, 8), (⟨"ControlText$Writer", "finishUpTo", "(II)V"⟩, 3), (⟨"ControlText$Writer", "finish", "(I)V"⟩, 3), (⟨"ControlText$Writer", "token", "(I)V"⟩, 3), (⟨"ControlText$Writer", "word", "(I)V"⟩, 3), (⟨"ControlText$Writer", "part", "()V"⟩, 3), (⟨"ControlText$Writer", "isBracketed", "(I)Z"⟩, 3), (⟨"ControlText$Writer", "separate", "(I)V"⟩, 3), (⟨"ControlText$Writer", "begin", "(I)V"⟩, 3)]
theorem lw_r4 : ∀ q ∈ lw_privs_4, lw_okq q := List.forall_mem_cons.mpr ⟨lw_p48, List.forall_mem_cons.mpr ⟨lw_p49, List.forall_mem_cons.mpr ⟨lw_p50, List.forall_mem_cons.mpr ⟨lw_p51, List.forall_mem_cons.mpr ⟨lw_p52, List.forall_mem_cons.mpr ⟨lw_p53, List.forall_mem_cons.mpr ⟨lw_p54, List.forall_mem_cons.mpr ⟨lw_p55, List.forall_mem_cons.mpr ⟨lw_p56, List.forall_mem_cons.mpr ⟨lw_p57, List.forall_mem_cons.mpr ⟨lw_p58, List.forall_mem_cons.mpr ⟨lw_p59, List.forall_mem_cons.mpr ⟨lw_p60, List.forall_mem_cons.mpr ⟨lw_p61, List.forall_mem_cons.mpr ⟨lw_p62, List.forall_mem_cons.mpr ⟨lw_p63, fun _ h => absurd h List.not_mem_nil⟩⟩⟩⟩⟩⟩⟩⟩⟩⟩⟩⟩⟩⟩⟩⟩
theorem lw_p64 : lw_okq (⟨"ControlText$Writer", "number", "(I)V"⟩, 3) := ⟨⟨by decide +kernel, by decide +kernel⟩, List.mem_of_getElem? (i := 265) (by decide +kernel), List.mem_of_getElem? (i := 770) (by decide +kernel), List.mem_of_getElem? (i := 771) (by decide +kernel)⟩
theorem lw_p65 : lw_okq (⟨"ControlText$Writer", "digits", "(I)V"⟩, 3) := ⟨⟨by decide +kernel, by decide +kernel⟩, List.mem_of_getElem? (i := 265) (by decide +kernel), List.mem_of_getElem? (i := 777) (by decide +kernel), List.mem_of_getElem? (i := 778) (by decide +kernel)⟩
theorem lw_p66 : lw_okq (⟨"ControlText$Writer", "place", "(I)V"⟩, 3) := ⟨⟨by decide +kernel, by decide +kernel⟩, List.mem_of_getElem? (i := 265) (by decide +kernel), List.mem_of_getElem? (i := 782) (by decide +kernel), List.mem_of_getElem? (i := 783) (by decide +kernel)⟩
theorem lw_p67 : lw_okq (⟨"ControlTextModel", "make", "(III)I"⟩, 48) := ⟨⟨by decide +kernel, by decide +kernel⟩, List.mem_of_getElem? (i := 801) (by decide +kernel), List.mem_of_getElem? (i := 972) (by decide +kernel), List.mem_of_getElem? (i := 973) (by decide +kernel)⟩
theorem lw_p68 : lw_okq (⟨"ControlTextModel", "push", "(I)V"⟩, 48) := ⟨⟨by decide +kernel, by decide +kernel⟩, List.mem_of_getElem? (i := 801) (by decide +kernel), List.mem_of_getElem? (i := 976) (by decide +kernel), List.mem_of_getElem? (i := 977) (by decide +kernel)⟩
theorem lw_p69 : lw_okq (⟨"ControlTextModel", "step", "()V"⟩, 48) := ⟨⟨by decide +kernel, by decide +kernel⟩, List.mem_of_getElem? (i := 801) (by decide +kernel), List.mem_of_getElem? (i := 980) (by decide +kernel), List.mem_of_getElem? (i := 981) (by decide +kernel)⟩
theorem lw_p70 : lw_okq (⟨"ControlTextModel", "skip", "()V"⟩, 48) := ⟨⟨by decide +kernel, by decide +kernel⟩, List.mem_of_getElem? (i := 801) (by decide +kernel), List.mem_of_getElem? (i := 984) (by decide +kernel), List.mem_of_getElem? (i := 985) (by decide +kernel)⟩
theorem lw_p71 : lw_okq (⟨"ControlTextModel", "at", "(I)I"⟩, 48) := ⟨⟨by decide +kernel, by decide +kernel⟩, List.mem_of_getElem? (i := 801) (by decide +kernel), List.mem_of_getElem? (i := 988) (by decide +kernel), List.mem_of_getElem? (i := 989) (by decide +kernel)⟩
theorem lw_p72 : lw_okq (⟨"ControlTextModel", "fail", "(II)V"⟩, 48) := ⟨⟨by decide +kernel, by decide +kernel⟩, List.mem_of_getElem? (i := 801) (by decide +kernel), List.mem_of_getElem? (i := 992) (by decide +kernel), List.mem_of_getElem? (i := 993) (by decide +kernel)⟩
theorem lw_p73 : lw_okq (⟨"ControlTextModel", "readNumber", "(Z)V"⟩, 48) := ⟨⟨by decide +kernel, by decide +kernel⟩, List.mem_of_getElem? (i := 801) (by decide +kernel), List.mem_of_getElem? (i := 996) (by decide +kernel), List.mem_of_getElem? (i := 997) (by decide +kernel)⟩
theorem lw_p74 : lw_okq (⟨"ControlTextModel", "digits", "(I)J"⟩, 48) := ⟨⟨by decide +kernel, by decide +kernel⟩, List.mem_of_getElem? (i := 801) (by decide +kernel), List.mem_of_getElem? (i := 1000) (by decide +kernel), List.mem_of_getElem? (i := 1001) (by decide +kernel)⟩
theorem lw_p75 : lw_okq (⟨"ControlTextModel", "unit", "()J"⟩, 48) := ⟨⟨by decide +kernel, by decide +kernel⟩, List.mem_of_getElem? (i := 801) (by decide +kernel), List.mem_of_getElem? (i := 1015) (by decide +kernel), List.mem_of_getElem? (i := 1016) (by decide +kernel)⟩
theorem lw_p76 : lw_okq (⟨"ControlTextModel", "goesOn", "(I)Z"⟩, 48) := ⟨⟨by decide +kernel, by decide +kernel⟩, List.mem_of_getElem? (i := 801) (by decide +kernel), List.mem_of_getElem? (i := 1024) (by decide +kernel), List.mem_of_getElem? (i := 1025) (by decide +kernel)⟩
theorem lw_p77 : lw_okq (⟨"ControlTextModel", "readName", "()V"⟩, 48) := ⟨⟨by decide +kernel, by decide +kernel⟩, List.mem_of_getElem? (i := 801) (by decide +kernel), List.mem_of_getElem? (i := 1032) (by decide +kernel), List.mem_of_getElem? (i := 1033) (by decide +kernel)⟩
theorem lw_p78 : lw_okq (⟨"ControlTextModel", "wordOf", "(II)I"⟩, 48) := ⟨⟨by decide +kernel, by decide +kernel⟩, List.mem_of_getElem? (i := 801) (by decide +kernel), List.mem_of_getElem? (i := 1036) (by decide +kernel), List.mem_of_getElem? (i := 1037) (by decide +kernel)⟩
theorem lw_p79 : lw_okq (⟨"ControlTextModel", "nameOf", "(II)I"⟩, 48) := ⟨⟨by decide +kernel, by decide +kernel⟩, List.mem_of_getElem? (i := 801) (by decide +kernel), List.mem_of_getElem? (i := 1040) (by decide +kernel), List.mem_of_getElem? (i := 1041) (by decide +kernel)⟩
def lw_privs_5 : List (MethodName × Nat) := [(⟨"ControlText$Writer", "number", "(I)V"⟩, 3), (⟨"ControlText$Writer", "digits", "(I)V"⟩, 3), (⟨"ControlText$Writer", "place", "(I)V"⟩, 3), (⟨"ControlTextModel", "make", "(III)I"⟩, 48), (⟨"ControlTextModel", "push", "(I)V"⟩, 48), (⟨"ControlTextModel", "step", "()V"⟩, 48), (⟨"ControlTextModel", "skip", "()V"⟩, 48), (⟨"ControlTextModel", "at", "(I)I"⟩, 48), (⟨"ControlTextModel", "fail", "(II)V"⟩, 48), (⟨"ControlTextModel", "readNumber", "(Z)V"⟩, 48), (⟨"ControlTextModel", "digits", "(I)J"⟩, 48), (⟨"ControlTextModel", "unit", "()J"⟩, 48), (⟨"ControlTextModel", "goesOn", "(I)Z"⟩, 48), (⟨"ControlTextModel", "readName", "()V"⟩, 48), (⟨"ControlTextModel", "wordOf", "(II)I"⟩, 48), (⟨"ControlTextModel", "nameOf", "(II)I"⟩, 48)]
theorem lw_r5 : ∀ q ∈ lw_privs_5, lw_okq q := List.forall_mem_cons.mpr ⟨lw_p64, List.forall_mem_cons.mpr ⟨lw_p65, List.forall_mem_cons.mpr ⟨lw_p66, List.forall_mem_cons.mpr ⟨lw_p67, List.forall_mem_cons.mpr ⟨lw_p68, List.forall_mem_cons.mpr ⟨lw_p69, List.forall_mem_cons.mpr ⟨lw_p70, List.forall_mem_cons.mpr ⟨lw_p71, List.forall_mem_cons.mpr ⟨lw_p72, List.forall_mem_cons.mpr ⟨lw_p73, List.forall_mem_cons.mpr ⟨lw_p74, List.forall_mem_cons.mpr ⟨lw_p75, List.forall_mem_cons.mpr ⟨lw_p76, List.forall_mem_cons.mpr ⟨lw_p77, List.forall_mem_cons.mpr ⟨lw_p78, List.forall_mem_cons.mpr ⟨lw_p79, fun _ h => absurd h List.not_mem_nil⟩⟩⟩⟩⟩⟩⟩⟩⟩⟩⟩⟩⟩⟩⟩⟩
theorem lw_p80 : lw_okq (⟨"ControlTextModel", "readPlace", "()V"⟩, 48) := ⟨⟨by decide +kernel, by decide +kernel⟩, List.mem_of_getElem? (i := 801) (by decide +kernel), List.mem_of_getElem? (i := 1044) (by decide +kernel), List.mem_of_getElem? (i := 1045) (by decide +kernel)⟩
theorem lw_p81 : lw_okq (⟨"ControlTextModel", "readSign", "()V"⟩, 48) := ⟨⟨by decide +kernel, by decide +kernel⟩, List.mem_of_getElem? (i := 801) (by decide +kernel), List.mem_of_getElem? (i := 1050) (by decide +kernel), List.mem_of_getElem? (i := 1051) (by decide +kernel)⟩
theorem lw_p82 : lw_okq (⟨"ControlTextModel", "act", "(I)V"⟩, 48) := ⟨⟨by decide +kernel, by decide +kernel⟩, List.mem_of_getElem? (i := 801) (by decide +kernel), List.mem_of_getElem? (i := 1054) (by decide +kernel), List.mem_of_getElem? (i := 1055) (by decide +kernel)⟩
theorem lw_p83 : lw_okq (⟨"ControlTextModel", "pass", "(I)V"⟩, 48) := ⟨⟨by decide +kernel, by decide +kernel⟩, List.mem_of_getElem? (i := 801) (by decide +kernel), List.mem_of_getElem? (i := 1058) (by decide +kernel), List.mem_of_getElem? (i := 1059) (by decide +kernel)⟩
theorem lw_p84 : lw_okq (⟨"ControlTextModel", "wrong", "()V"⟩, 48) := ⟨⟨by decide +kernel, by decide +kernel⟩, List.mem_of_getElem? (i := 801) (by decide +kernel), List.mem_of_getElem? (i := 1062) (by decide +kernel), List.mem_of_getElem? (i := 1063) (by decide +kernel)⟩
theorem lw_p85 : lw_okq (⟨"ControlTextModel", "actBlock", "(I)V"⟩, 48) := ⟨⟨by decide +kernel, by decide +kernel⟩, List.mem_of_getElem? (i := 801) (by decide +kernel), List.mem_of_getElem? (i := 1066) (by decide +kernel), List.mem_of_getElem? (i := 1067) (by decide +kernel)⟩
theorem lw_p86 : lw_okq (⟨"ControlTextModel", "blocks", "()V"⟩, 48) := ⟨⟨by decide +kernel, by decide +kernel⟩, List.mem_of_getElem? (i := 801) (by decide +kernel), List.mem_of_getElem? (i := 1070) (by decide +kernel), List.mem_of_getElem? (i := 1071) (by decide +kernel)⟩
theorem lw_p87 : lw_okq (⟨"ControlTextModel", "down", "(III)V"⟩, 48) := ⟨⟨by decide +kernel, by decide +kernel⟩, List.mem_of_getElem? (i := 801) (by decide +kernel), List.mem_of_getElem? (i := 1074) (by decide +kernel), List.mem_of_getElem? (i := 1075) (by decide +kernel)⟩
theorem lw_p88 : lw_okq (⟨"ControlTextModel", "hang", "(II)V"⟩, 48) := ⟨⟨by decide +kernel, by decide +kernel⟩, List.mem_of_getElem? (i := 801) (by decide +kernel), List.mem_of_getElem? (i := 1078) (by decide +kernel), List.mem_of_getElem? (i := 1079) (by decide +kernel)⟩
theorem lw_p89 : lw_okq (⟨"ControlTextModel", "push4", "(IIII)V"⟩, 48) := ⟨⟨by decide +kernel, by decide +kernel⟩, List.mem_of_getElem? (i := 801) (by decide +kernel), List.mem_of_getElem? (i := 1082) (by decide +kernel), List.mem_of_getElem? (i := 1083) (by decide +kernel)⟩
theorem lw_p90 : lw_okq (⟨"ControlTextModel", "push2", "(II)V"⟩, 48) := ⟨⟨by decide +kernel, by decide +kernel⟩, List.mem_of_getElem? (i := 801) (by decide +kernel), List.mem_of_getElem? (i := 1086) (by decide +kernel), List.mem_of_getElem? (i := 1087) (by decide +kernel)⟩
theorem lw_p91 : lw_okq (⟨"ControlTextModel", "up", "()V"⟩, 48) := ⟨⟨by decide +kernel, by decide +kernel⟩, List.mem_of_getElem? (i := 801) (by decide +kernel), List.mem_of_getElem? (i := 1090) (by decide +kernel), List.mem_of_getElem? (i := 1091) (by decide +kernel)⟩
theorem lw_p92 : lw_okq (⟨"ControlTextModel", "body", "()V"⟩, 48) := ⟨⟨by decide +kernel, by decide +kernel⟩, List.mem_of_getElem? (i := 801) (by decide +kernel), List.mem_of_getElem? (i := 1094) (by decide +kernel), List.mem_of_getElem? (i := 1095) (by decide +kernel)⟩
theorem lw_p93 : lw_okq (⟨"ControlTextModel", "sections", "()V"⟩, 48) := ⟨⟨by decide +kernel, by decide +kernel⟩, List.mem_of_getElem? (i := 801) (by decide +kernel), List.mem_of_getElem? (i := 1098) (by decide +kernel), List.mem_of_getElem? (i := 1099) (by decide +kernel)⟩
theorem lw_p94 : lw_okq (⟨"ControlTextModel", "simple", "()V"⟩, 48) := ⟨⟨by decide +kernel, by decide +kernel⟩, List.mem_of_getElem? (i := 801) (by decide +kernel), List.mem_of_getElem? (i := 1102) (by decide +kernel), List.mem_of_getElem? (i := 1103) (by decide +kernel)⟩
theorem lw_p95 : lw_okq (⟨"ControlTextModel", "leaf", "(III)V"⟩, 48) := ⟨⟨by decide +kernel, by decide +kernel⟩, List.mem_of_getElem? (i := 801) (by decide +kernel), List.mem_of_getElem? (i := 1106) (by decide +kernel), List.mem_of_getElem? (i := 1107) (by decide +kernel)⟩
def lw_privs_6 : List (MethodName × Nat) := [(⟨"ControlTextModel", "readPlace", "()V"⟩, 48), (⟨"ControlTextModel", "readSign", "()V"⟩, 48), (⟨"ControlTextModel", "act", "(I)V"⟩, 48), (⟨"ControlTextModel", "pass", "(I)V"⟩, 48), (⟨"ControlTextModel", "wrong", "()V"⟩, 48), (⟨"ControlTextModel", "actBlock", "(I)V"⟩, 48), (⟨"ControlTextModel", "blocks", "()V"⟩, 48), (⟨"ControlTextModel", "down", "(III)V"⟩, 48), (⟨"ControlTextModel", "hang", "(II)V"⟩, 48), (⟨"ControlTextModel", "push4", "(IIII)V"⟩, 48), (⟨"ControlTextModel", "push2", "(II)V"⟩, 48), (⟨"ControlTextModel", "up", "()V"⟩, 48), (⟨"ControlTextModel", "body", "()V"⟩, 48), (⟨"ControlTextModel", "sections", "()V"⟩, 48), (⟨"ControlTextModel", "simple", "()V"⟩, 48), (⟨"ControlTextModel", "leaf", "(III)V"⟩, 48)]
theorem lw_r6 : ∀ q ∈ lw_privs_6, lw_okq q := List.forall_mem_cons.mpr ⟨lw_p80, List.forall_mem_cons.mpr ⟨lw_p81, List.forall_mem_cons.mpr ⟨lw_p82, List.forall_mem_cons.mpr ⟨lw_p83, List.forall_mem_cons.mpr ⟨lw_p84, List.forall_mem_cons.mpr ⟨lw_p85, List.forall_mem_cons.mpr ⟨lw_p86, List.forall_mem_cons.mpr ⟨lw_p87, List.forall_mem_cons.mpr ⟨lw_p88, List.forall_mem_cons.mpr ⟨lw_p89, List.forall_mem_cons.mpr ⟨lw_p90, List.forall_mem_cons.mpr ⟨lw_p91, List.forall_mem_cons.mpr ⟨lw_p92, List.forall_mem_cons.mpr ⟨lw_p93, List.forall_mem_cons.mpr ⟨lw_p94, List.forall_mem_cons.mpr ⟨lw_p95, fun _ h => absurd h List.not_mem_nil⟩⟩⟩⟩⟩⟩⟩⟩⟩⟩⟩⟩⟩⟩⟩⟩
theorem lw_p96 : lw_okq (⟨"ControlTextModel", "title", "()V"⟩, 48) := ⟨⟨by decide +kernel, by decide +kernel⟩, List.mem_of_getElem? (i := 801) (by decide +kernel), List.mem_of_getElem? (i := 1110) (by decide +kernel), List.mem_of_getElem? (i := 1111) (by decide +kernel)⟩
theorem lw_p97 : lw_okq (⟨"ControlTextModel", "declarations", "()V"⟩, 48) := ⟨⟨by decide +kernel, by decide +kernel⟩, List.mem_of_getElem? (i := 801) (by decide +kernel), List.mem_of_getElem? (i := 1114) (by decide +kernel), List.mem_of_getElem? (i := 1115) (by decide +kernel)⟩
theorem lw_p98 : lw_okq (⟨"ControlTextModel", "aName", "()V"⟩, 48) := ⟨⟨by decide +kernel, by decide +kernel⟩, List.mem_of_getElem? (i := 801) (by decide +kernel), List.mem_of_getElem? (i := 1118) (by decide +kernel), List.mem_of_getElem? (i := 1119) (by decide +kernel)⟩
theorem lw_p99 : lw_okq (⟨"ControlTextModel", "perhaps", "(III)V"⟩, 48) := ⟨⟨by decide +kernel, by decide +kernel⟩, List.mem_of_getElem? (i := 801) (by decide +kernel), List.mem_of_getElem? (i := 1122) (by decide +kernel), List.mem_of_getElem? (i := 1123) (by decide +kernel)⟩
theorem lw_p100 : lw_okq (⟨"ControlTextModel", "type", "()V"⟩, 48) := ⟨⟨by decide +kernel, by decide +kernel⟩, List.mem_of_getElem? (i := 801) (by decide +kernel), List.mem_of_getElem? (i := 1126) (by decide +kernel), List.mem_of_getElem? (i := 1127) (by decide +kernel)⟩
theorem lw_p101 : lw_okq (⟨"ControlTextModel", "constant", "()V"⟩, 48) := ⟨⟨by decide +kernel, by decide +kernel⟩, List.mem_of_getElem? (i := 801) (by decide +kernel), List.mem_of_getElem? (i := 1130) (by decide +kernel), List.mem_of_getElem? (i := 1131) (by decide +kernel)⟩
theorem lw_p102 : lw_okq (⟨"ControlTextModel", "lessNumber", "()V"⟩, 48) := ⟨⟨by decide +kernel, by decide +kernel⟩, List.mem_of_getElem? (i := 801) (by decide +kernel), List.mem_of_getElem? (i := 1134) (by decide +kernel), List.mem_of_getElem? (i := 1135) (by decide +kernel)⟩
theorem lw_p103 : lw_okq (⟨"ControlTextModel", "actStatement", "(I)V"⟩, 48) := ⟨⟨by decide +kernel, by decide +kernel⟩, List.mem_of_getElem? (i := 801) (by decide +kernel), List.mem_of_getElem? (i := 1138) (by decide +kernel), List.mem_of_getElem? (i := 1139) (by decide +kernel)⟩
theorem lw_p104 : lw_okq (⟨"ControlTextModel", "statements", "()V"⟩, 48) := ⟨⟨by decide +kernel, by decide +kernel⟩, List.mem_of_getElem? (i := 801) (by decide +kernel), List.mem_of_getElem? (i := 1142) (by decide +kernel), List.mem_of_getElem? (i := 1143) (by decide +kernel)⟩
theorem lw_p105 : lw_okq (⟨"ControlTextModel", "keepName", "()V"⟩, 48) := ⟨⟨by decide +kernel, by decide +kernel⟩, List.mem_of_getElem? (i := 801) (by decide +kernel), List.mem_of_getElem? (i := 1146) (by decide +kernel), List.mem_of_getElem? (i := 1147) (by decide +kernel)⟩
theorem lw_p106 : lw_okq (⟨"ControlTextModel", "opens", "()Z"⟩, 48) := ⟨⟨by decide +kernel, by decide +kernel⟩, List.mem_of_getElem? (i := 801) (by decide +kernel), List.mem_of_getElem? (i := 1150) (by decide +kernel), List.mem_of_getElem? (i := 1151) (by decide +kernel)⟩
theorem lw_p107 : lw_okq (⟨"ControlTextModel", "compound", "()V"⟩, 48) := ⟨⟨by decide +kernel, by decide +kernel⟩, List.mem_of_getElem? (i := 801) (by decide +kernel), List.mem_of_getElem? (i := 1154) (by decide +kernel), List.mem_of_getElem? (i := 1155) (by decide +kernel)⟩
theorem lw_p108 : lw_okq (⟨"ControlTextModel", "pushExpression", "()V"⟩, 48) := ⟨⟨by decide +kernel, by decide +kernel⟩, List.mem_of_getElem? (i := 801) (by decide +kernel), List.mem_of_getElem? (i := 1158) (by decide +kernel), List.mem_of_getElem? (i := 1159) (by decide +kernel)⟩
theorem lw_p109 : lw_okq (⟨"ControlTextModel", "behindName", "()V"⟩, 48) := ⟨⟨by decide +kernel, by decide +kernel⟩, List.mem_of_getElem? (i := 801) (by decide +kernel), List.mem_of_getElem? (i := 1162) (by decide +kernel), List.mem_of_getElem? (i := 1163) (by decide +kernel)⟩
theorem lw_p110 : lw_okq (⟨"ControlTextModel", "ifRest", "()V"⟩, 48) := ⟨⟨by decide +kernel, by decide +kernel⟩, List.mem_of_getElem? (i := 801) (by decide +kernel), List.mem_of_getElem? (i := 1166) (by decide +kernel), List.mem_of_getElem? (i := 1167) (by decide +kernel)⟩
theorem lw_p111 : lw_okq (⟨"ControlTextModel", "elseBody", "()V"⟩, 48) := ⟨⟨by decide +kernel, by decide +kernel⟩, List.mem_of_getElem? (i := 801) (by decide +kernel), List.mem_of_getElem? (i := 1170) (by decide +kernel), List.mem_of_getElem? (i := 1171) (by decide +kernel)⟩
def lw_privs_7 : List (MethodName × Nat) := [(⟨"ControlTextModel", "title", "()V"⟩, 48), (⟨"ControlTextModel", "declarations", "()V"⟩, 48), (⟨"ControlTextModel", "aName", "()V"⟩, 48), (⟨"ControlTextModel", "perhaps", "(III)V"⟩, 48), (⟨"ControlTextModel", "type", "()V"⟩, 48), (⟨"ControlTextModel", "constant", "()V"⟩, 48), (⟨"ControlTextModel", "lessNumber", "()V"⟩, 48), (⟨"ControlTextModel", "actStatement", "(I)V"⟩, 48), (⟨"ControlTextModel", "statements", "()V"⟩, 48), (⟨"ControlTextModel", "keepName", "()V"⟩, 48), (⟨"ControlTextModel", "opens", "()Z"⟩, 48), (⟨"ControlTextModel", "compound", "()V"⟩, 48), (⟨"ControlTextModel", "pushExpression", "()V"⟩, 48), (⟨"ControlTextModel", "behindName", "()V"⟩, 48), (⟨"ControlTextModel", "ifRest", "()V"⟩, 48), (⟨"ControlTextModel", "elseBody", "()V"⟩, 48)]
theorem lw_r7 : ∀ q ∈ lw_privs_7, lw_okq q := List.forall_mem_cons.mpr ⟨lw_p96, List.forall_mem_cons.mpr ⟨lw_p97, List.forall_mem_cons.mpr ⟨lw_p98, List.forall_mem_cons.mpr ⟨lw_p99, List.forall_mem_cons.mpr ⟨lw_p100, List.forall_mem_cons.mpr ⟨lw_p101, List.forall_mem_cons.mpr ⟨lw_p102, List.forall_mem_cons.mpr ⟨lw_p103, List.forall_mem_cons.mpr ⟨lw_p104, List.forall_mem_cons.mpr ⟨lw_p105, List.forall_mem_cons.mpr ⟨lw_p106, List.forall_mem_cons.mpr ⟨lw_p107, List.forall_mem_cons.mpr ⟨lw_p108, List.forall_mem_cons.mpr ⟨lw_p109, List.forall_mem_cons.mpr ⟨lw_p110, List.forall_mem_cons.mpr ⟨lw_p111, fun _ h => absurd h List.not_mem_nil⟩⟩⟩⟩⟩⟩⟩⟩⟩⟩⟩⟩⟩⟩⟩⟩
theorem lw_p112 : lw_okq (⟨"ControlTextModel", "bodyBehind", "(I)V"⟩, 48) := ⟨⟨by decide +kernel, by decide +kernel⟩, List.mem_of_getElem? (i := 801) (by decide +kernel), List.mem_of_getElem? (i := 1174) (by decide +kernel), List.mem_of_getElem? (i := 1175) (by decide +kernel)⟩
theorem lw_p113 : lw_okq (⟨"ControlTextModel", "choices", "()V"⟩, 48) := ⟨⟨by decide +kernel, by decide +kernel⟩, List.mem_of_getElem? (i := 801) (by decide +kernel), List.mem_of_getElem? (i := 1178) (by decide +kernel), List.mem_of_getElem? (i := 1179) (by decide +kernel)⟩
theorem lw_p114 : lw_okq (⟨"ControlTextModel", "isConstant", "()Z"⟩, 48) := ⟨⟨by decide +kernel, by decide +kernel⟩, List.mem_of_getElem? (i := 801) (by decide +kernel), List.mem_of_getElem? (i := 1182) (by decide +kernel), List.mem_of_getElem? (i := 1183) (by decide +kernel)⟩
theorem lw_p115 : lw_okq (⟨"ControlTextModel", "range", "()V"⟩, 48) := ⟨⟨by decide +kernel, by decide +kernel⟩, List.mem_of_getElem? (i := 801) (by decide +kernel), List.mem_of_getElem? (i := 1186) (by decide +kernel), List.mem_of_getElem? (i := 1187) (by decide +kernel)⟩
theorem lw_p116 : lw_okq (⟨"ControlTextModel", "assign", "()V"⟩, 48) := ⟨⟨by decide +kernel, by decide +kernel⟩, List.mem_of_getElem? (i := 801) (by decide +kernel), List.mem_of_getElem? (i := 1190) (by decide +kernel), List.mem_of_getElem? (i := 1191) (by decide +kernel)⟩
theorem lw_p117 : lw_okq (⟨"ControlTextModel", "indexEnd", "()V"⟩, 48) := ⟨⟨by decide +kernel, by decide +kernel⟩, List.mem_of_getElem? (i := 801) (by decide +kernel), List.mem_of_getElem? (i := 1194) (by decide +kernel), List.mem_of_getElem? (i := 1195) (by decide +kernel)⟩
theorem lw_p118 : lw_okq (⟨"ControlTextModel", "parameter", "()V"⟩, 48) := ⟨⟨by decide +kernel, by decide +kernel⟩, List.mem_of_getElem? (i := 801) (by decide +kernel), List.mem_of_getElem? (i := 1198) (by decide +kernel), List.mem_of_getElem? (i := 1199) (by decide +kernel)⟩
theorem lw_p119 : lw_okq (⟨"ControlTextModel", "actOperand", "(I)V"⟩, 48) := ⟨⟨by decide +kernel, by decide +kernel⟩, List.mem_of_getElem? (i := 801) (by decide +kernel), List.mem_of_getElem? (i := 1202) (by decide +kernel), List.mem_of_getElem? (i := 1203) (by decide +kernel)⟩
theorem lw_p120 : lw_okq (⟨"ControlTextModel", "expression", "()V"⟩, 48) := ⟨⟨by decide +kernel, by decide +kernel⟩, List.mem_of_getElem? (i := 801) (by decide +kernel), List.mem_of_getElem? (i := 1206) (by decide +kernel), List.mem_of_getElem? (i := 1207) (by decide +kernel)⟩
theorem lw_p121 : lw_okq (⟨"ControlTextModel", "waitFor", "(II)V"⟩, 48) := ⟨⟨by decide +kernel, by decide +kernel⟩, List.mem_of_getElem? (i := 801) (by decide +kernel), List.mem_of_getElem? (i := 1210) (by decide +kernel), List.mem_of_getElem? (i := 1211) (by decide +kernel)⟩
theorem lw_p122 : lw_okq (⟨"ControlTextModel", "anOperand", "()V"⟩, 48) := ⟨⟨by decide +kernel, by decide +kernel⟩, List.mem_of_getElem? (i := 801) (by decide +kernel), List.mem_of_getElem? (i := 1214) (by decide +kernel), List.mem_of_getElem? (i := 1215) (by decide +kernel)⟩
theorem lw_p123 : lw_okq (⟨"ControlTextModel", "operandCame", "(I)V"⟩, 48) := ⟨⟨by decide +kernel, by decide +kernel⟩, List.mem_of_getElem? (i := 801) (by decide +kernel), List.mem_of_getElem? (i := 1218) (by decide +kernel), List.mem_of_getElem? (i := 1219) (by decide +kernel)⟩
theorem lw_p124 : lw_okq (⟨"ControlTextModel", "putOperand", "(I)V"⟩, 48) := ⟨⟨by decide +kernel, by decide +kernel⟩, List.mem_of_getElem? (i := 801) (by decide +kernel), List.mem_of_getElem? (i := 1222) (by decide +kernel), List.mem_of_getElem? (i := 1223) (by decide +kernel)⟩
theorem lw_p125 : lw_okq (⟨"ControlTextModel", "settle", "()V"⟩, 48) := ⟨⟨by decide +kernel, by decide +kernel⟩, List.mem_of_getElem? (i := 801) (by decide +kernel), List.mem_of_getElem? (i := 1226) (by decide +kernel), List.mem_of_getElem? (i := 1227) (by decide +kernel)⟩
theorem lw_p126 : lw_okq (⟨"ControlTextModel", "takeOperand", "()I"⟩, 48) := ⟨⟨by decide +kernel, by decide +kernel⟩, List.mem_of_getElem? (i := 801) (by decide +kernel), List.mem_of_getElem? (i := 1230) (by decide +kernel), List.mem_of_getElem? (i := 1231) (by decide +kernel)⟩
theorem lw_p127 : lw_okq (⟨"ControlTextModel", "signRest", "()V"⟩, 48) := ⟨⟨by decide +kernel, by decide +kernel⟩, List.mem_of_getElem? (i := 801) (by decide +kernel), List.mem_of_getElem? (i := 1234) (by decide +kernel), List.mem_of_getElem? (i := 1235) (by decide +kernel)⟩
def lw_privs_8 : List (MethodName × Nat) := [(⟨"ControlTextModel", "bodyBehind", "(I)V"⟩, 48), (⟨"ControlTextModel", "choices", "()V"⟩, 48), (⟨"ControlTextModel", "isConstant", "()Z"⟩, 48), (⟨"ControlTextModel", "range", "()V"⟩, 48), (⟨"ControlTextModel", "assign", "()V"⟩, 48), (⟨"ControlTextModel", "indexEnd", "()V"⟩, 48), (⟨"ControlTextModel", "parameter", "()V"⟩, 48), (⟨"ControlTextModel", "actOperand", "(I)V"⟩, 48), (⟨"ControlTextModel", "expression", "()V"⟩, 48), (⟨"ControlTextModel", "waitFor", "(II)V"⟩, 48), (⟨"ControlTextModel", "anOperand", "()V"⟩, 48), (⟨"ControlTextModel", "operandCame", "(I)V"⟩, 48), (⟨"ControlTextModel", "putOperand", "(I)V"⟩, 48), (⟨"ControlTextModel", "settle", "()V"⟩, 48), (⟨"ControlTextModel", "takeOperand", "()I"⟩, 48), (⟨"ControlTextModel", "signRest", "()V"⟩, 48)]
theorem lw_r8 : ∀ q ∈ lw_privs_8, lw_okq q := List.forall_mem_cons.mpr ⟨lw_p112, List.forall_mem_cons.mpr ⟨lw_p113, List.forall_mem_cons.mpr ⟨lw_p114, List.forall_mem_cons.mpr ⟨lw_p115, List.forall_mem_cons.mpr ⟨lw_p116, List.forall_mem_cons.mpr ⟨lw_p117, List.forall_mem_cons.mpr ⟨lw_p118, List.forall_mem_cons.mpr ⟨lw_p119, List.forall_mem_cons.mpr ⟨lw_p120, List.forall_mem_cons.mpr ⟨lw_p121, List.forall_mem_cons.mpr ⟨lw_p122, List.forall_mem_cons.mpr ⟨lw_p123, List.forall_mem_cons.mpr ⟨lw_p124, List.forall_mem_cons.mpr ⟨lw_p125, List.forall_mem_cons.mpr ⟨lw_p126, List.forall_mem_cons.mpr ⟨lw_p127, fun _ h => absurd h List.not_mem_nil⟩⟩⟩⟩⟩⟩⟩⟩⟩⟩⟩⟩⟩⟩⟩⟩
theorem lw_p128 : lw_okq (⟨"ControlTextModel", "signAt", "()I"⟩, 48) := ⟨⟨by decide +kernel, by decide +kernel⟩, List.mem_of_getElem? (i := 801) (by decide +kernel), List.mem_of_getElem? (i := 1238) (by decide +kernel), List.mem_of_getElem? (i := 1239) (by decide +kernel)⟩
theorem lw_p129 : lw_okq (⟨"ControlTextModel", "groupEnd", "()V"⟩, 48) := ⟨⟨by decide +kernel, by decide +kernel⟩, List.mem_of_getElem? (i := 801) (by decide +kernel), List.mem_of_getElem? (i := 1245) (by decide +kernel), List.mem_of_getElem? (i := 1246) (by decide +kernel)⟩
theorem lw_p130 : lw_okq (⟨"ControlTextModel", "behindOperand", "()V"⟩, 48) := ⟨⟨by decide +kernel, by decide +kernel⟩, List.mem_of_getElem? (i := 801) (by decide +kernel), List.mem_of_getElem? (i := 1249) (by decide +kernel), List.mem_of_getElem? (i := 1250) (by decide +kernel)⟩
theorem lw_p131 : lw_okq (⟨"ControlTextModel", "start", "(I)V"⟩, 48) := ⟨⟨by decide +kernel, by decide +kernel⟩, List.mem_of_getElem? (i := 801) (by decide +kernel), List.mem_of_getElem? (i := 1253) (by decide +kernel), List.mem_of_getElem? (i := 1254) (by decide +kernel)⟩
theorem lw_p132 : lw_okq (⟨"ControlTextModel", "elementEnd", "()V"⟩, 48) := ⟨⟨by decide +kernel, by decide +kernel⟩, List.mem_of_getElem? (i := 801) (by decide +kernel), List.mem_of_getElem? (i := 1257) (by decide +kernel), List.mem_of_getElem? (i := 1258) (by decide +kernel)⟩
theorem lw_p133 : lw_okq (⟨"ControlTextModel", "argument", "()V"⟩, 48) := ⟨⟨by decide +kernel, by decide +kernel⟩, List.mem_of_getElem? (i := 801) (by decide +kernel), List.mem_of_getElem? (i := 1261) (by decide +kernel), List.mem_of_getElem? (i := 1262) (by decide +kernel)⟩
theorem lw_p134 : lw_okq (⟨"ControlTextModel", "finish", "()V"⟩, 48) := ⟨⟨by decide +kernel, by decide +kernel⟩, List.mem_of_getElem? (i := 801) (by decide +kernel), List.mem_of_getElem? (i := 1265) (by decide +kernel), List.mem_of_getElem? (i := 1266) (by decide +kernel)⟩
theorem lw_p135 : lw_okq (⟨"ControlTextModel", "output", "()V"⟩, 48) := ⟨⟨by decide +kernel, by decide +kernel⟩, List.mem_of_getElem? (i := 801) (by decide +kernel), List.mem_of_getElem? (i := 1269) (by decide +kernel), List.mem_of_getElem? (i := 1270) (by decide +kernel)⟩
theorem lw_p136 : lw_okq (⟨"ControlTextModel", "isOperand", "()Z"⟩, 48) := ⟨⟨by decide +kernel, by decide +kernel⟩, List.mem_of_getElem? (i := 801) (by decide +kernel), List.mem_of_getElem? (i := 1273) (by decide +kernel), List.mem_of_getElem? (i := 1274) (by decide +kernel)⟩
theorem lw_p137 : lw_okq (⟨"ControlTextModel", "pushArgument", "()V"⟩, 48) := ⟨⟨by decide +kernel, by decide +kernel⟩, List.mem_of_getElem? (i := 801) (by decide +kernel), List.mem_of_getElem? (i := 1277) (by decide +kernel), List.mem_of_getElem? (i := 1278) (by decide +kernel)⟩
theorem lw_p138 : lw_okq (⟨"ControlTextModel", "resultEnd", "()V"⟩, 48) := ⟨⟨by decide +kernel, by decide +kernel⟩, List.mem_of_getElem? (i := 801) (by decide +kernel), List.mem_of_getElem? (i := 1281) (by decide +kernel), List.mem_of_getElem? (i := 1282) (by decide +kernel)⟩
theorem lw_p139 : lw_okq (⟨"ControlTextModel", "actRung", "(I)V"⟩, 48) := ⟨⟨by decide +kernel, by decide +kernel⟩, List.mem_of_getElem? (i := 801) (by decide +kernel), List.mem_of_getElem? (i := 1285) (by decide +kernel), List.mem_of_getElem? (i := 1286) (by decide +kernel)⟩
theorem lw_p140 : lw_okq (⟨"ControlTextModel", "isCell", "()Z"⟩, 48) := ⟨⟨by decide +kernel, by decide +kernel⟩, List.mem_of_getElem? (i := 801) (by decide +kernel), List.mem_of_getElem? (i := 1289) (by decide +kernel), List.mem_of_getElem? (i := 1290) (by decide +kernel)⟩
theorem lw_p141 : lw_okq (⟨"ControlTextModel", "cell", "()V"⟩, 48) := ⟨⟨by decide +kernel, by decide +kernel⟩, List.mem_of_getElem? (i := 801) (by decide +kernel), List.mem_of_getElem? (i := 1293) (by decide +kernel), List.mem_of_getElem? (i := 1294) (by decide +kernel)⟩
theorem lw_p142 : lw_okq (⟨"ControlTextModel", "moreCells", "()V"⟩, 48) := ⟨⟨by decide +kernel, by decide +kernel⟩, List.mem_of_getElem? (i := 801) (by decide +kernel), List.mem_of_getElem? (i := 1297) (by decide +kernel), List.mem_of_getElem? (i := 1298) (by decide +kernel)⟩
theorem lw_p143 : lw_okq (⟨"ControlTextModel", "contact", "()V"⟩, 48) := ⟨⟨by decide +kernel, by decide +kernel⟩, List.mem_of_getElem? (i := 801) (by decide +kernel), List.mem_of_getElem? (i := 1301) (by decide +kernel), List.mem_of_getElem? (i := 1302) (by decide +kernel)⟩
def lw_privs_9 : List (MethodName × Nat) := [(⟨"ControlTextModel", "signAt", "()I"⟩, 48), (⟨"ControlTextModel", "groupEnd", "()V"⟩, 48), (⟨"ControlTextModel", "behindOperand", "()V"⟩, 48), (⟨"ControlTextModel", "start", "(I)V"⟩, 48), (⟨"ControlTextModel", "elementEnd", "()V"⟩, 48), (⟨"ControlTextModel", "argument", "()V"⟩, 48), (⟨"ControlTextModel", "finish", "()V"⟩, 48), (⟨"ControlTextModel", "output", "()V"⟩, 48), (⟨"ControlTextModel", "isOperand", "()Z"⟩, 48), (⟨"ControlTextModel", "pushArgument", "()V"⟩, 48), (⟨"ControlTextModel", "resultEnd", "()V"⟩, 48), (⟨"ControlTextModel", "actRung", "(I)V"⟩, 48), (⟨"ControlTextModel", "isCell", "()Z"⟩, 48), (⟨"ControlTextModel", "cell", "()V"⟩, 48), (⟨"ControlTextModel", "moreCells", "()V"⟩, 48), (⟨"ControlTextModel", "contact", "()V"⟩, 48)]
theorem lw_r9 : ∀ q ∈ lw_privs_9, lw_okq q := List.forall_mem_cons.mpr ⟨lw_p128, List.forall_mem_cons.mpr ⟨lw_p129, List.forall_mem_cons.mpr ⟨lw_p130, List.forall_mem_cons.mpr ⟨lw_p131, List.forall_mem_cons.mpr ⟨lw_p132, List.forall_mem_cons.mpr ⟨lw_p133, List.forall_mem_cons.mpr ⟨lw_p134, List.forall_mem_cons.mpr ⟨lw_p135, List.forall_mem_cons.mpr ⟨lw_p136, List.forall_mem_cons.mpr ⟨lw_p137, List.forall_mem_cons.mpr ⟨lw_p138, List.forall_mem_cons.mpr ⟨lw_p139, List.forall_mem_cons.mpr ⟨lw_p140, List.forall_mem_cons.mpr ⟨lw_p141, List.forall_mem_cons.mpr ⟨lw_p142, List.forall_mem_cons.mpr ⟨lw_p143, fun _ h => absurd h List.not_mem_nil⟩⟩⟩⟩⟩⟩⟩⟩⟩⟩⟩⟩⟩⟩⟩⟩
theorem lw_p144 : lw_okq (⟨"ControlTextModel", "behindContact", "()V"⟩, 48) := ⟨⟨by decide +kernel, by decide +kernel⟩, List.mem_of_getElem? (i := 801) (by decide +kernel), List.mem_of_getElem? (i := 1305) (by decide +kernel), List.mem_of_getElem? (i := 1306) (by decide +kernel)⟩
theorem lw_p145 : lw_okq (⟨"ControlTextModel", "coil", "()V"⟩, 48) := ⟨⟨by decide +kernel, by decide +kernel⟩, List.mem_of_getElem? (i := 801) (by decide +kernel), List.mem_of_getElem? (i := 1309) (by decide +kernel), List.mem_of_getElem? (i := 1310) (by decide +kernel)⟩
theorem lw_p146 : lw_okq (⟨"ControlTextModel", "number", "()V"⟩, 48) := ⟨⟨by decide +kernel, by decide +kernel⟩, List.mem_of_getElem? (i := 801) (by decide +kernel), List.mem_of_getElem? (i := 1313) (by decide +kernel), List.mem_of_getElem? (i := 1314) (by decide +kernel)⟩
theorem lw_p147 : lw_okq (⟨"ControlTextModel", "following", "(I)I"⟩, 48) := ⟨⟨by decide +kernel, by decide +kernel⟩, List.mem_of_getElem? (i := 801) (by decide +kernel), List.mem_of_getElem? (i := 1317) (by decide +kernel), List.mem_of_getElem? (i := 1318) (by decide +kernel)⟩
theorem lw_p148 : lw_okq (⟨"ControlTextModel", "children", "(I)I"⟩, 48) := ⟨⟨by decide +kernel, by decide +kernel⟩, List.mem_of_getElem? (i := 801) (by decide +kernel), List.mem_of_getElem? (i := 1329) (by decide +kernel), List.mem_of_getElem? (i := 1330) (by decide +kernel)⟩
theorem lw_p149 : lw_okq (⟨"ControlTextModel", "item", "(II)V"⟩, 48) := ⟨⟨by decide +kernel, by decide +kernel⟩, List.mem_of_getElem? (i := 801) (by decide +kernel), List.mem_of_getElem? (i := 1341) (by decide +kernel), List.mem_of_getElem? (i := 1342) (by decide +kernel)⟩
theorem lw_p150 : lw_okq (⟨"ControlTextModel", "openItem", "(II)V"⟩, 48) := ⟨⟨by decide +kernel, by decide +kernel⟩, List.mem_of_getElem? (i := 801) (by decide +kernel), List.mem_of_getElem? (i := 1345) (by decide +kernel), List.mem_of_getElem? (i := 1346) (by decide +kernel)⟩
theorem lw_p151 : lw_okq (⟨"ControlTextModel", "putToken", "(I)V"⟩, 48) := ⟨⟨by decide +kernel, by decide +kernel⟩, List.mem_of_getElem? (i := 801) (by decide +kernel), List.mem_of_getElem? (i := 1349) (by decide +kernel), List.mem_of_getElem? (i := 1350) (by decide +kernel)⟩
theorem lw_p152 : lw_okq (⟨"ControlTextModel", "part", "(I)V"⟩, 48) := ⟨⟨by decide +kernel, by decide +kernel⟩, List.mem_of_getElem? (i := 801) (by decide +kernel), List.mem_of_getElem? (i := 1353) (by decide +kernel), List.mem_of_getElem? (i := 1354) (by decide +kernel)⟩
theorem lw_p153 : lw_okq (⟨"ControlTextModel", "put", "(I)V"⟩, 48) := ⟨⟨by decide +kernel, by decide +kernel⟩, List.mem_of_getElem? (i := 801) (by decide +kernel), List.mem_of_getElem? (i := 1360) (by decide +kernel), List.mem_of_getElem? (i := 1361) (by decide +kernel)⟩
theorem lw_p154 : lw_okq (⟨"ControlTextModel", "putName", "(I)V"⟩, 48) := ⟨⟨by decide +kernel, by decide +kernel⟩, List.mem_of_getElem? (i := 801) (by decide +kernel), List.mem_of_getElem? (i := 1364) (by decide +kernel), List.mem_of_getElem? (i := 1365) (by decide +kernel)⟩
theorem lw_p155 : lw_okq (⟨"ControlTextModel", "openParts", "(I)V"⟩, 48) := ⟨⟨by decide +kernel, by decide +kernel⟩, List.mem_of_getElem? (i := 801) (by decide +kernel), List.mem_of_getElem? (i := 1368) (by decide +kernel), List.mem_of_getElem? (i := 1369) (by decide +kernel)⟩
theorem lw_p156 : lw_okq (⟨"ControlTextModel", "openNode", "(I)V"⟩, 48) := ⟨⟨by decide +kernel, by decide +kernel⟩, List.mem_of_getElem? (i := 801) (by decide +kernel), List.mem_of_getElem? (i := 1372) (by decide +kernel), List.mem_of_getElem? (i := 1373) (by decide +kernel)⟩
theorem lw_p157 : lw_okq (⟨"ControlTextModel", "openBlock", "(I)V"⟩, 48) := ⟨⟨by decide +kernel, by decide +kernel⟩, List.mem_of_getElem? (i := 801) (by decide +kernel), List.mem_of_getElem? (i := 1376) (by decide +kernel), List.mem_of_getElem? (i := 1377) (by decide +kernel)⟩
theorem lw_p158 : lw_okq (⟨"ControlTextModel", "itemBlock", "(III)V"⟩, 48) := ⟨⟨by decide +kernel, by decide +kernel⟩, List.mem_of_getElem? (i := 801) (by decide +kernel), List.mem_of_getElem? (i := 1380) (by decide +kernel), List.mem_of_getElem? (i := 1381) (by decide +kernel)⟩
theorem lw_p159 : lw_okq (⟨"ControlTextModel", "second", "(I)I"⟩, 48) := ⟨⟨by decide +kernel, by decide +kernel⟩, List.mem_of_getElem? (i := 801) (by decide +kernel), List.mem_of_getElem? (i := 1384) (by decide +kernel), List.mem_of_getElem? (i := 1385) (by decide +kernel)⟩
def lw_privs_10 : List (MethodName × Nat) := [(⟨"ControlTextModel", "behindContact", "()V"⟩, 48), (⟨"ControlTextModel", "coil", "()V"⟩, 48), (⟨"ControlTextModel", "number", "()V"⟩, 48), (⟨"ControlTextModel", "following", "(I)I"⟩, 48), (⟨"ControlTextModel", "children", "(I)I"⟩, 48), (⟨"ControlTextModel", "item", "(II)V"⟩, 48), (⟨"ControlTextModel", "openItem", "(II)V"⟩, 48), (⟨"ControlTextModel", "putToken", "(I)V"⟩, 48), (⟨"ControlTextModel", "part", "(I)V"⟩, 48), (⟨"ControlTextModel", "put", "(I)V"⟩, 48), (⟨"ControlTextModel", "putName", "(I)V"⟩, 48), (⟨"ControlTextModel", "openParts", "(I)V"⟩, 48), (⟨"ControlTextModel", "openNode", "(I)V"⟩, 48), (⟨"ControlTextModel", "openBlock", "(I)V"⟩, 48), (⟨"ControlTextModel", "itemBlock", "(III)V"⟩, 48), (⟨"ControlTextModel", "second", "(I)I"⟩, 48)]
theorem lw_r10 : ∀ q ∈ lw_privs_10, lw_okq q := List.forall_mem_cons.mpr ⟨lw_p144, List.forall_mem_cons.mpr ⟨lw_p145, List.forall_mem_cons.mpr ⟨lw_p146, List.forall_mem_cons.mpr ⟨lw_p147, List.forall_mem_cons.mpr ⟨lw_p148, List.forall_mem_cons.mpr ⟨lw_p149, List.forall_mem_cons.mpr ⟨lw_p150, List.forall_mem_cons.mpr ⟨lw_p151, List.forall_mem_cons.mpr ⟨lw_p152, List.forall_mem_cons.mpr ⟨lw_p153, List.forall_mem_cons.mpr ⟨lw_p154, List.forall_mem_cons.mpr ⟨lw_p155, List.forall_mem_cons.mpr ⟨lw_p156, List.forall_mem_cons.mpr ⟨lw_p157, List.forall_mem_cons.mpr ⟨lw_p158, List.forall_mem_cons.mpr ⟨lw_p159, fun _ h => absurd h List.not_mem_nil⟩⟩⟩⟩⟩⟩⟩⟩⟩⟩⟩⟩⟩⟩⟩⟩
theorem lw_p160 : lw_okq (⟨"ControlTextModel", "itemAll", "(IIII)V"⟩, 48) := ⟨⟨by decide +kernel, by decide +kernel⟩, List.mem_of_getElem? (i := 801) (by decide +kernel), List.mem_of_getElem? (i := 1388) (by decide +kernel), List.mem_of_getElem? (i := 1389) (by decide +kernel)⟩
theorem lw_p161 : lw_okq (⟨"ControlTextModel", "putPlace", "(I)V"⟩, 48) := ⟨⟨by decide +kernel, by decide +kernel⟩, List.mem_of_getElem? (i := 801) (by decide +kernel), List.mem_of_getElem? (i := 1392) (by decide +kernel), List.mem_of_getElem? (i := 1393) (by decide +kernel)⟩
theorem lw_p162 : lw_okq (⟨"ControlTextModel", "itemArray", "(I)V"⟩, 48) := ⟨⟨by decide +kernel, by decide +kernel⟩, List.mem_of_getElem? (i := 801) (by decide +kernel), List.mem_of_getElem? (i := 1396) (by decide +kernel), List.mem_of_getElem? (i := 1397) (by decide +kernel)⟩
theorem lw_p163 : lw_okq (⟨"ControlTextModel", "openStatement", "(I)V"⟩, 48) := ⟨⟨by decide +kernel, by decide +kernel⟩, List.mem_of_getElem? (i := 801) (by decide +kernel), List.mem_of_getElem? (i := 1400) (by decide +kernel), List.mem_of_getElem? (i := 1401) (by decide +kernel)⟩
theorem lw_p164 : lw_okq (⟨"ControlTextModel", "itemFor", "(I)V"⟩, 48) := ⟨⟨by decide +kernel, by decide +kernel⟩, List.mem_of_getElem? (i := 801) (by decide +kernel), List.mem_of_getElem? (i := 1404) (by decide +kernel), List.mem_of_getElem? (i := 1405) (by decide +kernel)⟩
theorem lw_p165 : lw_okq (⟨"ControlTextModel", "openRung", "(I)V"⟩, 48) := ⟨⟨by decide +kernel, by decide +kernel⟩, List.mem_of_getElem? (i := 801) (by decide +kernel), List.mem_of_getElem? (i := 1408) (by decide +kernel), List.mem_of_getElem? (i := 1409) (by decide +kernel)⟩
theorem lw_p166 : lw_okq (⟨"ControlTextModel", "openOperand", "(I)V"⟩, 48) := ⟨⟨by decide +kernel, by decide +kernel⟩, List.mem_of_getElem? (i := 801) (by decide +kernel), List.mem_of_getElem? (i := 1412) (by decide +kernel), List.mem_of_getElem? (i := 1413) (by decide +kernel)⟩
theorem lw_p167 : lw_okq (⟨"ControlTextModel", "putNumber", "(I)V"⟩, 48) := ⟨⟨by decide +kernel, by decide +kernel⟩, List.mem_of_getElem? (i := 801) (by decide +kernel), List.mem_of_getElem? (i := 1416) (by decide +kernel), List.mem_of_getElem? (i := 1417) (by decide +kernel)⟩
theorem lw_p168 : lw_okq (⟨"ControlTextModel", "itemOperand", "(IIZ)V"⟩, 48) := ⟨⟨by decide +kernel, by decide +kernel⟩, List.mem_of_getElem? (i := 801) (by decide +kernel), List.mem_of_getElem? (i := 1422) (by decide +kernel), List.mem_of_getElem? (i := 1423) (by decide +kernel)⟩
theorem lw_p169 : lw_okq (⟨"ControlTextModel", "openIf", "(I)V"⟩, 48) := ⟨⟨by decide +kernel, by decide +kernel⟩, List.mem_of_getElem? (i := 801) (by decide +kernel), List.mem_of_getElem? (i := 1429) (by decide +kernel), List.mem_of_getElem? (i := 1430) (by decide +kernel)⟩
theorem lw_p170 : lw_okq (⟨"ControlTextModel", "openCase", "(I)V"⟩, 48) := ⟨⟨by decide +kernel, by decide +kernel⟩, List.mem_of_getElem? (i := 801) (by decide +kernel), List.mem_of_getElem? (i := 1433) (by decide +kernel), List.mem_of_getElem? (i := 1434) (by decide +kernel)⟩
theorem lw_p171 : lw_okq (⟨"ControlTextModel", "openRow", "(II)V"⟩, 48) := ⟨⟨by decide +kernel, by decide +kernel⟩, List.mem_of_getElem? (i := 801) (by decide +kernel), List.mem_of_getElem? (i := 1437) (by decide +kernel), List.mem_of_getElem? (i := 1438) (by decide +kernel)⟩
def lw_privs_11 : List (MethodName × Nat) := [(⟨"ControlTextModel", "itemAll", "(IIII)V"⟩, 48), (⟨"ControlTextModel", "putPlace", "(I)V"⟩, 48), (⟨"ControlTextModel", "itemArray", "(I)V"⟩, 48), (⟨"ControlTextModel", "openStatement", "(I)V"⟩, 48), (⟨"ControlTextModel", "itemFor", "(I)V"⟩, 48), (⟨"ControlTextModel", "openRung", "(I)V"⟩, 48), (⟨"ControlTextModel", "openOperand", "(I)V"⟩, 48), (⟨"ControlTextModel", "putNumber", "(I)V"⟩, 48), (⟨"ControlTextModel", "itemOperand", "(IIZ)V"⟩, 48), (⟨"ControlTextModel", "openIf", "(I)V"⟩, 48), (⟨"ControlTextModel", "openCase", "(I)V"⟩, 48), (⟨"ControlTextModel", "openRow", "(II)V"⟩, 48)]
theorem lw_r11 : ∀ q ∈ lw_privs_11, lw_okq q := List.forall_mem_cons.mpr ⟨lw_p160, List.forall_mem_cons.mpr ⟨lw_p161, List.forall_mem_cons.mpr ⟨lw_p162, List.forall_mem_cons.mpr ⟨lw_p163, List.forall_mem_cons.mpr ⟨lw_p164, List.forall_mem_cons.mpr ⟨lw_p165, List.forall_mem_cons.mpr ⟨lw_p166, List.forall_mem_cons.mpr ⟨lw_p167, List.forall_mem_cons.mpr ⟨lw_p168, List.forall_mem_cons.mpr ⟨lw_p169, List.forall_mem_cons.mpr ⟨lw_p170, List.forall_mem_cons.mpr ⟨lw_p171, fun _ h => absurd h List.not_mem_nil⟩⟩⟩⟩⟩⟩⟩⟩⟩⟩⟩⟩
def lw_privs : List (MethodName × Nat) := lw_privs_1 ++ (lw_privs_2 ++ (lw_privs_3 ++ (lw_privs_4 ++ (lw_privs_5 ++ (lw_privs_6 ++ (lw_privs_7 ++ (lw_privs_8 ++ (lw_privs_9 ++ (lw_privs_10 ++ (lw_privs_11))))))))))
def lw_tbl : List Cond := k2_sels lw_privs ++ tables_1
theorem lw_privs_ok : ∀ q ∈ lw_privs, lw_okq q := by
  show ∀ q ∈ lw_privs_1 ++ (lw_privs_2 ++ (lw_privs_3 ++ (lw_privs_4 ++ (lw_privs_5 ++ (lw_privs_6 ++ (lw_privs_7 ++ (lw_privs_8 ++ (lw_privs_9 ++ (lw_privs_10 ++ (lw_privs_11)))))))))), lw_okq q
  exact List.forall_mem_append.mpr ⟨lw_r1, List.forall_mem_append.mpr ⟨lw_r2, List.forall_mem_append.mpr ⟨lw_r3, List.forall_mem_append.mpr ⟨lw_r4, List.forall_mem_append.mpr ⟨lw_r5, List.forall_mem_append.mpr ⟨lw_r6, List.forall_mem_append.mpr ⟨lw_r7, List.forall_mem_append.mpr ⟨lw_r8, List.forall_mem_append.mpr ⟨lw_r9, List.forall_mem_append.mpr ⟨lw_r10, lw_r11⟩⟩⟩⟩⟩⟩⟩⟩⟩⟩
end
section
abbrev RX0 : String := "ControlText$Bytes"
def TX0 : u_T := fun k => match k with
  | 0 => ("ControlText$Bytes", "bytes", "[I", true)
  | _ => ("ControlText$Bytes", "size", "I", false)
def tyX0 : Nat → FieldType := fun k => match k with
  | 0 => .array .int
  | _ => .int
theorem nmX0 : ∀ a, a < 2 → ∀ b, b < 2 → a ≠ b → (TX0 a).2.1 ≠ (TX0 b).2.1 := by decide +kernel
theorem tyX0_ok : ∀ k, k < 2 → parseFieldDescriptor (TX0 k).2.2.1 = some (tyX0 k) := by decide +kernel
abbrev RX1 : String := "ControlText$Names"
def TX1 : u_T := fun k => match k with
  | 0 => ("ControlText$Names", "letters", "[I", true)
  | 1 => ("ControlText$Names", "starts", "[I", true)
  | 2 => ("ControlText$Names", "slotOf", "[I", true)
  | 3 => ("ControlText$Names", "slots", "[I", true)
  | 4 => ("ControlText$Names", "size", "I", false)
  | _ => ("ControlText$Names", "used", "I", false)
def tyX1 : Nat → FieldType := fun k => match k with
  | 0 => .array .int
  | 1 => .array .int
  | 2 => .array .int
  | 3 => .array .int
  | 4 => .int
  | _ => .int
theorem nmX1 : ∀ a, a < 6 → ∀ b, b < 6 → a ≠ b → (TX1 a).2.1 ≠ (TX1 b).2.1 := by decide +kernel
theorem tyX1_ok : ∀ k, k < 6 → parseFieldDescriptor (TX1 k).2.2.1 = some (tyX1 k) := by decide +kernel
abbrev RX2 : String := "ControlText$Tokens"
def TX2 : u_T := fun k => match k with
  | 0 => ("ControlText$Tokens", "text", "LControlText$Bytes;", true)
  | 1 => ("ControlText$Tokens", "names", "LControlText$Names;", true)
  | 2 => ("ControlText$Tokens", "kinds", "[I", true)
  | 3 => ("ControlText$Tokens", "places", "[I", true)
  | 4 => ("ControlText$Tokens", "values", "[I", true)
  | 5 => ("ControlText$Tokens", "size", "I", false)
  | _ => ("ControlText$Tokens", "at", "I", false)
def tyX2 : Nat → FieldType := fun k => match k with
  | 0 => .object "ControlText$Bytes"
  | 1 => .object "ControlText$Names"
  | 2 => .array .int
  | 3 => .array .int
  | 4 => .array .int
  | 5 => .int
  | _ => .int
theorem nmX2 : ∀ a, a < 7 → ∀ b, b < 7 → a ≠ b → (TX2 a).2.1 ≠ (TX2 b).2.1 := by decide +kernel
theorem tyX2_ok : ∀ k, k < 7 → parseFieldDescriptor (TX2 k).2.2.1 = some (tyX2 k) := by decide +kernel
abbrev RX3 : String := "ControlText$Tree"
def TX3 : u_T := fun k => match k with
  | 0 => ("ControlText$Tree", "kinds", "[I", true)
  | 1 => ("ControlText$Tree", "places", "[I", true)
  | 2 => ("ControlText$Tree", "values", "[I", true)
  | 3 => ("ControlText$Tree", "children", "[I", true)
  | 4 => ("ControlText$Tree", "parents", "[I", true)
  | 5 => ("ControlText$Tree", "ranks", "[I", true)
  | 6 => ("ControlText$Tree", "met", "[I", true)
  | _ => ("ControlText$Tree", "size", "I", false)
def tyX3 : Nat → FieldType := fun k => match k with
  | 0 => .array .int
  | 1 => .array .int
  | 2 => .array .int
  | 3 => .array .int
  | 4 => .array .int
  | 5 => .array .int
  | 6 => .array .int
  | _ => .int
theorem nmX3 : ∀ a, a < 8 → ∀ b, b < 8 → a ≠ b → (TX3 a).2.1 ≠ (TX3 b).2.1 := by decide +kernel
theorem tyX3_ok : ∀ k, k < 8 → parseFieldDescriptor (TX3 k).2.2.1 = some (tyX3 k) := by decide +kernel
abbrev RX4 : String := "ControlText$Parser"
def TX4 : u_T := fun k => match k with
  | 0 => ("ControlText$Parser", "tokens", "LControlText$Tokens;", true)
  | 1 => ("ControlText$Parser", "tree", "LControlText$Tree;", true)
  | 2 => ("ControlText$Parser", "at", "I", false)
  | 3 => ("ControlText$Parser", "kind", "I", false)
  | 4 => ("ControlText$Parser", "place", "I", false)
  | 5 => ("ControlText$Parser", "value", "I", false)
  | 6 => ("ControlText$Parser", "placeBefore", "I", false)
  | 7 => ("ControlText$Parser", "signs", "I", false)
  | 8 => ("ControlText$Parser", "open", "I", false)
  | 9 => ("ControlText$Parser", "tooDeep", "Z", false)
  | 10 => ("ControlText$Parser", "fault", "I", false)
  | _ => ("ControlText$Parser", "faultPlace", "I", false)
def tyX4 : Nat → FieldType := fun k => match k with
  | 0 => .object "ControlText$Tokens"
  | 1 => .object "ControlText$Tree"
  | 2 => .int
  | 3 => .int
  | 4 => .int
  | 5 => .int
  | 6 => .int
  | 7 => .int
  | 8 => .int
  | 9 => .boolean
  | 10 => .int
  | _ => .int
theorem nmX4 : ∀ a, a < 12 → ∀ b, b < 12 → a ≠ b → (TX4 a).2.1 ≠ (TX4 b).2.1 := by decide +kernel
theorem tyX4_ok : ∀ k, k < 12 → parseFieldDescriptor (TX4 k).2.2.1 = some (tyX4 k) := by decide +kernel
abbrev RX5 : String := "ControlText$Writer"
def TX5 : u_T := fun k => match k with
  | 0 => ("ControlText$Writer", "tree", "LControlText$Tree;", true)
  | 1 => ("ControlText$Writer", "names", "LControlText$Names;", true)
  | _ => ("ControlText$Writer", "out", "LControlText$Bytes;", true)
def tyX5 : Nat → FieldType := fun k => match k with
  | 0 => .object "ControlText$Tree"
  | 1 => .object "ControlText$Names"
  | _ => .object "ControlText$Bytes"
theorem nmX5 : ∀ a, a < 3 → ∀ b, b < 3 → a ≠ b → (TX5 a).2.1 ≠ (TX5 b).2.1 := by decide +kernel
theorem tyX5_ok : ∀ k, k < 3 → parseFieldDescriptor (TX5 k).2.2.1 = some (tyX5 k) := by decide +kernel
abbrev RX6 : String := "ControlText"
def TX6 : u_T := fun k => match k with
  | 0 => ("ControlText", "text", "LControlText$Bytes;", true)
  | 1 => ("ControlText", "written", "LControlText$Bytes;", true)
  | 2 => ("ControlText", "names", "LControlText$Names;", true)
  | 3 => ("ControlText", "tokens", "LControlText$Tokens;", true)
  | 4 => ("ControlText", "tree", "LControlText$Tree;", true)
  | 5 => ("ControlText", "parser", "LControlText$Parser;", true)
  | _ => ("ControlText", "writer", "LControlText$Writer;", true)
def tyX6 : Nat → FieldType := fun k => match k with
  | 0 => .object "ControlText$Bytes"
  | 1 => .object "ControlText$Bytes"
  | 2 => .object "ControlText$Names"
  | 3 => .object "ControlText$Tokens"
  | 4 => .object "ControlText$Tree"
  | 5 => .object "ControlText$Parser"
  | _ => .object "ControlText$Writer"
theorem nmX6 : ∀ a, a < 7 → ∀ b, b < 7 → a ≠ b → (TX6 a).2.1 ≠ (TX6 b).2.1 := by decide +kernel
theorem tyX6_ok : ∀ k, k < 7 → parseFieldDescriptor (TX6 k).2.2.1 = some (tyX6 k) := by decide +kernel
abbrev RX7 : String := "ControlText$Sign"
def TX7 : u_T := fun k => match k with
  | _ => ("", "", "", false)
def tyX7 : Nat → FieldType := fun k => match k with
  | _ => .int
abbrev RX8 : String := "ControlTextModel"
def TX8 : u_T := fun k => match k with
  | 0 => ("ControlTextModel", "letters", "[I", true)
  | 1 => ("ControlTextModel", "wordAt", "[I", true)
  | 2 => ("ControlTextModel", "signs", "[I", true)
  | 3 => ("ControlTextModel", "places", "[I", true)
  | 4 => ("ControlTextModel", "size", "I", false)
  | 5 => ("ControlTextModel", "text", "[I", true)
  | 6 => ("ControlTextModel", "begin", "I", false)
  | 7 => ("ControlTextModel", "token", "I", false)
  | 8 => ("ControlTextModel", "worth", "I", false)
  | 9 => ("ControlTextModel", "next", "I", false)
  | 10 => ("ControlTextModel", "lastPlace", "I", false)
  | 11 => ("ControlTextModel", "fault", "I", false)
  | 12 => ("ControlTextModel", "faultPlace", "I", false)
  | 13 => ("ControlTextModel", "names", "I", false)
  | 14 => ("ControlTextModel", "nameAt", "[I", true)
  | 15 => ("ControlTextModel", "nameBytes", "[I", true)
  | 16 => ("ControlTextModel", "nodes", "I", false)
  | 17 => ("ControlTextModel", "kinds", "[I", true)
  | 18 => ("ControlTextModel", "where", "[I", true)
  | 19 => ("ControlTextModel", "values", "[I", true)
  | 20 => ("ControlTextModel", "parents", "[I", true)
  | 21 => ("ControlTextModel", "firsts", "[I", true)
  | 22 => ("ControlTextModel", "lasts", "[I", true)
  | 23 => ("ControlTextModel", "siblings", "[I", true)
  | 24 => ("ControlTextModel", "current", "I", false)
  | 25 => ("ControlTextModel", "due", "I", false)
  | 26 => ("ControlTextModel", "dues", "[I", true)
  | 27 => ("ControlTextModel", "open", "I", false)
  | 28 => ("ControlTextModel", "signsOpen", "I", false)
  | 29 => ("ControlTextModel", "inner", "I", false)
  | 30 => ("ControlTextModel", "namePlace", "I", false)
  | 31 => ("ControlTextModel", "nameNumber", "I", false)
  | 32 => ("ControlTextModel", "minusPlace", "I", false)
  | 33 => ("ControlTextModel", "operands", "I", false)
  | 34 => ("ControlTextModel", "operand", "[I", true)
  | 35 => ("ControlTextModel", "waiting", "I", false)
  | 36 => ("ControlTextModel", "waitingSign", "[I", true)
  | 37 => ("ControlTextModel", "waitingPlace", "[I", true)
  | 38 => ("ControlTextModel", "beginnings", "I", false)
  | 39 => ("ControlTextModel", "beginning", "[I", true)
  | 40 => ("ControlTextModel", "count", "I", false)
  | 41 => ("ControlTextModel", "byNumber", "[I", true)
  | 42 => ("ControlTextModel", "numberOf", "[I", true)
  | 43 => ("ControlTextModel", "writtenSize", "I", false)
  | 44 => ("ControlTextModel", "written", "[I", true)
  | 45 => ("ControlTextModel", "items", "I", false)
  | 46 => ("ControlTextModel", "itemKind", "[I", true)
  | _ => ("ControlTextModel", "itemOf", "[I", true)
def tyX8 : Nat → FieldType := fun k => match k with
  | 0 => .array .int
  | 1 => .array .int
  | 2 => .array .int
  | 3 => .array .int
  | 4 => .int
  | 5 => .array .int
  | 6 => .int
  | 7 => .int
  | 8 => .int
  | 9 => .int
  | 10 => .int
  | 11 => .int
  | 12 => .int
  | 13 => .int
  | 14 => .array .int
  | 15 => .array .int
  | 16 => .int
  | 17 => .array .int
  | 18 => .array .int
  | 19 => .array .int
  | 20 => .array .int
  | 21 => .array .int
  | 22 => .array .int
  | 23 => .array .int
  | 24 => .int
  | 25 => .int
  | 26 => .array .int
  | 27 => .int
  | 28 => .int
  | 29 => .int
  | 30 => .int
  | 31 => .int
  | 32 => .int
  | 33 => .int
  | 34 => .array .int
  | 35 => .int
  | 36 => .array .int
  | 37 => .array .int
  | 38 => .int
  | 39 => .array .int
  | 40 => .int
  | 41 => .array .int
  | 42 => .array .int
  | 43 => .int
  | 44 => .array .int
  | 45 => .int
  | 46 => .array .int
  | _ => .array .int
theorem nmX8 : ∀ a, a < 48 → ∀ b, b < 48 → a ≠ b → (TX8 a).2.1 ≠ (TX8 b).2.1 := by decide +kernel
theorem tyX8_ok : ∀ k, k < 48 → parseFieldDescriptor (TX8 k).2.2.1 = some (tyX8 k) := by decide +kernel
abbrev RX9 : String := "ControlTextLaw"
def TX9 : u_T := fun k => match k with
  | _ => ("", "", "", false)
def tyX9 : Nat → FieldType := fun k => match k with
  | _ => .int
abbrev RX10 : String := "java/lang/Math"
def TX10 : u_T := fun k => match k with
  | _ => ("", "", "", false)
def tyX10 : Nat → FieldType := fun k => match k with
  | _ => .int
abbrev cX6_init : ByteArray := prog_1_method_1_code
abbrev yX6_init : MethodName := ⟨"ControlText", "<init>", "()V"⟩
abbrev cX0_init : ByteArray := prog_2_method_1_code
abbrev yX0_init : MethodName := ⟨"ControlText$Bytes", "<init>", "(I)V"⟩
abbrev cX1_init : ByteArray := prog_4_method_1_code
abbrev yX1_init : MethodName := ⟨"ControlText$Names", "<init>", "()V"⟩
abbrev cX1_addWords : ByteArray := prog_4_method_2_code
abbrev yX1_addWords : MethodName := ⟨"ControlText$Names", "addWords", "(Ljava/lang/String;)V"⟩
abbrev cX1_number : ByteArray := prog_4_method_5_code
abbrev yX1_number : MethodName := ⟨"ControlText$Names", "number", "()I"⟩
abbrev cX1_firstSlot : ByteArray := prog_4_method_6_code
abbrev yX1_firstSlot : MethodName := ⟨"ControlText$Names", "firstSlot", "()I"⟩
abbrev cX1_startOf : ByteArray := prog_4_method_9_code
abbrev yX1_startOf : MethodName := ⟨"ControlText$Names", "startOf", "(I)I"⟩
abbrev cX1_keep : ByteArray := prog_4_method_7_code
abbrev yX1_keep : MethodName := ⟨"ControlText$Names", "keep", "(I)I"⟩
abbrev cX1_isAddedLast : ByteArray := prog_4_method_8_code
abbrev yX1_isAddedLast : MethodName := ⟨"ControlText$Names", "isAddedLast", "(I)Z"⟩
abbrev cX1_addLetter : ByteArray := prog_4_method_4_code
abbrev yX1_addLetter : MethodName := ⟨"ControlText$Names", "addLetter", "(I)V"⟩
abbrev cX6_great : ByteArray := prog_1_method_16_code
abbrev yX6_great : MethodName := ⟨"ControlText", "great", "(I)I"⟩
abbrev cX2_init : ByteArray := prog_7_method_1_code
abbrev yX2_init : MethodName := ⟨"ControlText$Tokens", "<init>", "(LControlText$Bytes;LControlText$Names;)V"⟩
abbrev cX3_init : ByteArray := prog_8_method_1_code
abbrev yX3_init : MethodName := ⟨"ControlText$Tree", "<init>", "()V"⟩
abbrev cX4_init : ByteArray := prog_5_method_1_code
abbrev yX4_init : MethodName := ⟨"ControlText$Parser", "<init>", "(LControlText$Tokens;LControlText$Tree;)V"⟩
abbrev cX5_init : ByteArray := prog_10_method_1_code
abbrev yX5_init : MethodName := ⟨"ControlText$Writer", "<init>", "(LControlText$Tree;LControlText$Names;LControlText$Bytes;)V"⟩
abbrev cX6_clear : ByteArray := prog_1_method_2_code
abbrev yX6_clear : MethodName := ⟨"ControlText", "clear", "()I"⟩
abbrev cX0_cut : ByteArray := prog_2_method_5_code
abbrev yX0_cut : MethodName := ⟨"ControlText$Bytes", "cut", "(I)V"⟩
abbrev cX6_feed : ByteArray := prog_1_method_3_code
abbrev yX6_feed : MethodName := ⟨"ControlText", "feed", "(IIIII)I"⟩
abbrev cX6_feedNumber : ByteArray := prog_1_method_4_code
abbrev yX6_feedNumber : MethodName := ⟨"ControlText", "feedNumber", "(I)V"⟩
abbrev cX0_put : ByteArray := prog_2_method_3_code
abbrev yX0_put : MethodName := ⟨"ControlText$Bytes", "put", "(I)V"⟩
abbrev cX6_end : ByteArray := prog_1_method_5_code
abbrev yX6_end : MethodName := ⟨"ControlText", "end", "(I)I"⟩
abbrev cX6_change : ByteArray := prog_1_method_6_code
abbrev yX6_change : MethodName := ⟨"ControlText", "change", "(II)I"⟩
abbrev cX0_swap : ByteArray := prog_2_method_4_code
abbrev yX0_swap : MethodName := ⟨"ControlText$Bytes", "swap", "(II)I"⟩
abbrev cX0_get : ByteArray := prog_2_method_2_code
abbrev yX0_get : MethodName := ⟨"ControlText$Bytes", "get", "(I)I"⟩
abbrev cX6_read : ByteArray := prog_1_method_7_code
abbrev yX6_read : MethodName := ⟨"ControlText", "read", "()I"⟩
abbrev cX2_scan : ByteArray := prog_7_method_5_code
abbrev yX2_scan : MethodName := ⟨"ControlText$Tokens", "scan", "()V"⟩
abbrev cX1_forget : ByteArray := prog_4_method_3_code
abbrev yX1_forget : MethodName := ⟨"ControlText$Names", "forget", "()V"⟩
abbrev cX2_scanToken : ByteArray := prog_7_method_7_code
abbrev yX2_scanToken : MethodName := ⟨"ControlText$Tokens", "scanToken", "()V"⟩
abbrev cX2_skipBlanks : ByteArray := prog_7_method_8_code
abbrev yX2_skipBlanks : MethodName := ⟨"ControlText$Tokens", "skipBlanks", "()Z"⟩
abbrev cX2_endOfComment : ByteArray := prog_7_method_9_code
abbrev yX2_endOfComment : MethodName := ⟨"ControlText$Tokens", "endOfComment", "(I)I"⟩
abbrev cX2_add : ByteArray := prog_7_method_6_code
abbrev yX2_add : MethodName := ⟨"ControlText$Tokens", "add", "(III)V"⟩
abbrev cX2_scanTime : ByteArray := prog_7_method_12_code
abbrev yX2_scanTime : MethodName := ⟨"ControlText$Tokens", "scanTime", "()V"⟩
abbrev cX2_digits : ByteArray := prog_7_method_14_code
abbrev yX2_digits : MethodName := ⟨"ControlText$Tokens", "digits", "(I)J"⟩
abbrev cX2_digit : ByteArray := prog_7_method_15_code
abbrev yX2_digit : MethodName := ⟨"ControlText$Tokens", "digit", "(I)I"⟩
abbrev cX6_isDigit : ByteArray := prog_1_method_14_code
abbrev yX6_isDigit : MethodName := ⟨"ControlText", "isDigit", "(I)Z"⟩
abbrev cX10_min : ByteArray := prog_13_method_70_code
abbrev yX10_min : MethodName := ⟨"java/lang/Math", "min", "(JJ)J"⟩
abbrev cX2_unit : ByteArray := prog_7_method_16_code
abbrev yX2_unit : MethodName := ⟨"ControlText$Tokens", "unit", "()J"⟩
abbrev cX2_addNumber : ByteArray := prog_7_method_13_code
abbrev yX2_addNumber : MethodName := ⟨"ControlText$Tokens", "addNumber", "(IJ)V"⟩
abbrev cX6_isNameByte : ByteArray := prog_1_method_15_code
abbrev yX6_isNameByte : MethodName := ⟨"ControlText", "isNameByte", "(I)Z"⟩
abbrev cX2_scanNumber : ByteArray := prog_7_method_11_code
abbrev yX2_scanNumber : MethodName := ⟨"ControlText$Tokens", "scanNumber", "()V"⟩
abbrev cX2_scanName : ByteArray := prog_7_method_10_code
abbrev yX2_scanName : MethodName := ⟨"ControlText$Tokens", "scanName", "()V"⟩
abbrev cX2_scanPlace : ByteArray := prog_7_method_17_code
abbrev yX2_scanPlace : MethodName := ⟨"ControlText$Tokens", "scanPlace", "()V"⟩
abbrev cX2_placeRow : ByteArray := prog_7_method_18_code
abbrev yX2_placeRow : MethodName := ⟨"ControlText$Tokens", "placeRow", "(II)I"⟩
abbrev cX2_scanSign : ByteArray := prog_7_method_19_code
abbrev yX2_scanSign : MethodName := ⟨"ControlText$Tokens", "scanSign", "()V"⟩
abbrev cX10_max : ByteArray := prog_13_method_65_code
abbrev yX10_max : MethodName := ⟨"java/lang/Math", "max", "(II)I"⟩
abbrev cX2_isSignOfTwo : ByteArray := prog_7_method_21_code
abbrev yX2_isSignOfTwo : MethodName := ⟨"ControlText$Tokens", "isSignOfTwo", "(I)Z"⟩
abbrev cX2_isSignOfOne : ByteArray := prog_7_method_20_code
abbrev yX2_isSignOfOne : MethodName := ⟨"ControlText$Tokens", "isSignOfOne", "(I)Z"⟩
abbrev cX2_kind : ByteArray := prog_7_method_2_code
abbrev yX2_kind : MethodName := ⟨"ControlText$Tokens", "kind", "(I)I"⟩
abbrev cX4_parse : ByteArray := prog_5_method_2_code
abbrev yX4_parse : MethodName := ⟨"ControlText$Parser", "parse", "()V"⟩
abbrev cX4_take : ByteArray := prog_5_method_4_code
abbrev yX4_take : MethodName := ⟨"ControlText$Parser", "take", "(I)V"⟩
abbrev cX3_forget : ByteArray := prog_8_method_2_code
abbrev yX3_forget : MethodName := ⟨"ControlText$Tree", "forget", "()V"⟩
abbrev cX3_add : ByteArray := prog_8_method_10_code
abbrev yX3_add : MethodName := ⟨"ControlText$Tree", "add", "(IIII)I"⟩
abbrev cX4_startsBlock : ByteArray := prog_5_method_10_code
abbrev yX4_startsBlock : MethodName := ⟨"ControlText$Parser", "startsBlock", "()Z"⟩
abbrev cX4_blockHead : ByteArray := prog_5_method_13_code
abbrev yX4_blockHead : MethodName := ⟨"ControlText$Parser", "blockHead", "(I)I"⟩
abbrev cX4_kindOfBlock : ByteArray := prog_5_method_12_code
abbrev yX4_kindOfBlock : MethodName := ⟨"ControlText$Parser", "kindOfBlock", "(I)I"⟩
abbrev cX4_takeName : ByteArray := prog_5_method_8_code
abbrev yX4_takeName : MethodName := ⟨"ControlText$Parser", "takeName", "()I"⟩
abbrev cX4_simpleType : ByteArray := prog_5_method_18_code
abbrev yX4_simpleType : MethodName := ⟨"ControlText$Parser", "simpleType", "(I)V"⟩
abbrev cX4_sections : ByteArray := prog_5_method_15_code
abbrev yX4_sections : MethodName := ⟨"ControlText$Parser", "sections", "(I)V"⟩
abbrev cX4_startsSection : ByteArray := prog_5_method_14_code
abbrev yX4_startsSection : MethodName := ⟨"ControlText$Parser", "startsSection", "()Z"⟩
abbrev cX4_declaration : ByteArray := prog_5_method_16_code
abbrev yX4_declaration : MethodName := ⟨"ControlText$Parser", "declaration", "(I)V"⟩
abbrev cX4_nameNode : ByteArray := prog_5_method_9_code
abbrev yX4_nameNode : MethodName := ⟨"ControlText$Parser", "nameNode", "(I)V"⟩
abbrev cX4_type : ByteArray := prog_5_method_17_code
abbrev yX4_type : MethodName := ⟨"ControlText$Parser", "type", "(I)V"⟩
abbrev cX4_constant : ByteArray := prog_5_method_20_code
abbrev yX4_constant : MethodName := ⟨"ControlText$Parser", "constant", "(I)V"⟩
abbrev cX4_literal : ByteArray := prog_5_method_21_code
abbrev yX4_literal : MethodName := ⟨"ControlText$Parser", "literal", "(I)V"⟩
abbrev cX4_ladder : ByteArray := prog_5_method_35_code
abbrev yX4_ladder : MethodName := ⟨"ControlText$Parser", "ladder", "(I)V"⟩
abbrev cX4_row : ByteArray := prog_5_method_37_code
abbrev yX4_row : MethodName := ⟨"ControlText$Parser", "row", "(I)V"⟩
abbrev cX4_cell : ByteArray := prog_5_method_38_code
abbrev yX4_cell : MethodName := ⟨"ControlText$Parser", "cell", "(I)V"⟩
abbrev cX4_coil : ByteArray := prog_5_method_41_code
abbrev yX4_coil : MethodName := ⟨"ControlText$Parser", "coil", "(I)V"⟩
abbrev cX4_coilValue : ByteArray := prog_5_method_42_code
abbrev yX4_coilValue : MethodName := ⟨"ControlText$Parser", "coilValue", "(I)I"⟩
abbrev cX4_contact : ByteArray := prog_5_method_39_code
abbrev yX4_contact : MethodName := ⟨"ControlText$Parser", "contact", "(I)V"⟩
abbrev cX4_contactValue : ByteArray := prog_5_method_40_code
abbrev yX4_contactValue : MethodName := ⟨"ControlText$Parser", "contactValue", "(I)I"⟩
abbrev cX4_startsCell : ByteArray := prog_5_method_36_code
abbrev yX4_startsCell : MethodName := ⟨"ControlText$Parser", "startsCell", "()Z"⟩
abbrev cX4_body : ByteArray := prog_5_method_22_code
abbrev yX4_body : MethodName := ⟨"ControlText$Parser", "body", "(I)V"⟩
abbrev cX4_statement : ByteArray := prog_5_method_23_code
abbrev yX4_statement : MethodName := ⟨"ControlText$Parser", "statement", "(I)Z"⟩
abbrev cX4_invocation : ByteArray := prog_5_method_25_code
abbrev yX4_invocation : MethodName := ⟨"ControlText$Parser", "invocation", "(III)V"⟩
abbrev cX4_takeOpening : ByteArray := prog_5_method_5_code
abbrev yX4_takeOpening : MethodName := ⟨"ControlText$Parser", "takeOpening", "()V"⟩
abbrev cX4_mayOpen : ByteArray := prog_5_method_6_code
abbrev yX4_mayOpen : MethodName := ⟨"ControlText$Parser", "mayOpen", "()Z"⟩
abbrev cX4_outermostExpression : ByteArray := prog_5_method_31_code
abbrev yX4_outermostExpression : MethodName := ⟨"ControlText$Parser", "outermostExpression", "(I)V"⟩
abbrev cX4_expression : ByteArray := prog_5_method_32_code
abbrev yX4_expression : MethodName := ⟨"ControlText$Parser", "expression", "(II)V"⟩
abbrev cX4_operand : ByteArray := prog_5_method_33_code
abbrev yX4_operand : MethodName := ⟨"ControlText$Parser", "operand", "(I)V"⟩
abbrev cX4_takeClosing : ByteArray := prog_5_method_7_code
abbrev yX4_takeClosing : MethodName := ⟨"ControlText$Parser", "takeClosing", "(I)V"⟩
abbrev cX4_operandByName : ByteArray := prog_5_method_34_code
abbrev yX4_operandByName : MethodName := ⟨"ControlText$Parser", "operandByName", "(I)V"⟩
abbrev cX4_takeComma : ByteArray := prog_5_method_26_code
abbrev yX4_takeComma : MethodName := ⟨"ControlText$Parser", "takeComma", "()Z"⟩
abbrev cX7_operation : ByteArray := prog_6_method_2_code
abbrev yX7_operation : MethodName := ⟨"ControlText$Sign", "operation", "(I)I"⟩
abbrev cX7_binding : ByteArray := prog_6_method_4_code
abbrev yX7_binding : MethodName := ⟨"ControlText$Sign", "binding", "(I)I"⟩
abbrev cX3_wrap : ByteArray := prog_8_method_11_code
abbrev yX3_wrap : MethodName := ⟨"ControlText$Tree", "wrap", "(IIII)V"⟩
abbrev cX3_has : ByteArray := prog_8_method_3_code
abbrev yX3_has : MethodName := ⟨"ControlText$Tree", "has", "(I)Z"⟩
abbrev cX4_assignment : ByteArray := prog_5_method_24_code
abbrev yX4_assignment : MethodName := ⟨"ControlText$Parser", "assignment", "(III)V"⟩
abbrev cX4_ifStatement : ByteArray := prog_5_method_27_code
abbrev yX4_ifStatement : MethodName := ⟨"ControlText$Parser", "ifStatement", "(I)V"⟩
abbrev cX4_caseStatement : ByteArray := prog_5_method_28_code
abbrev yX4_caseStatement : MethodName := ⟨"ControlText$Parser", "caseStatement", "(I)V"⟩
abbrev cX4_startsConstant : ByteArray := prog_5_method_19_code
abbrev yX4_startsConstant : MethodName := ⟨"ControlText$Parser", "startsConstant", "()Z"⟩
abbrev cX4_ranges : ByteArray := prog_5_method_29_code
abbrev yX4_ranges : MethodName := ⟨"ControlText$Parser", "ranges", "(I)V"⟩
abbrev cX4_forStatement : ByteArray := prog_5_method_30_code
abbrev yX4_forStatement : MethodName := ⟨"ControlText$Parser", "forStatement", "(I)V"⟩
abbrev cX4_endOfBlock : ByteArray := prog_5_method_11_code
abbrev yX4_endOfBlock : MethodName := ⟨"ControlText$Parser", "endOfBlock", "(I)I"⟩
abbrev cX4_tellFault : ByteArray := prog_5_method_3_code
abbrev yX4_tellFault : MethodName := ⟨"ControlText$Parser", "tellFault", "()V"⟩
abbrev cX2_value : ByteArray := prog_7_method_4_code
abbrev yX2_value : MethodName := ⟨"ControlText$Tokens", "value", "(I)I"⟩
abbrev cX2_place : ByteArray := prog_7_method_3_code
abbrev yX2_place : MethodName := ⟨"ControlText$Tokens", "place", "(I)I"⟩
abbrev cX3_link : ByteArray := prog_8_method_12_code
abbrev yX3_link : MethodName := ⟨"ControlText$Tree", "link", "()V"⟩
abbrev cX3_firstUnfilled : ByteArray := prog_8_method_13_code
abbrev yX3_firstUnfilled : MethodName := ⟨"ControlText$Tree", "firstUnfilled", "(I)I"⟩
abbrev cX6_count : ByteArray := prog_1_method_8_code
abbrev yX6_count : MethodName := ⟨"ControlText", "count", "(I)I"⟩
abbrev cX6_node : ByteArray := prog_1_method_9_code
abbrev yX6_node : MethodName := ⟨"ControlText", "node", "(II)I"⟩
abbrev cX3_kind : ByteArray := prog_8_method_4_code
abbrev yX3_kind : MethodName := ⟨"ControlText$Tree", "kind", "(I)I"⟩
abbrev cX3_place : ByteArray := prog_8_method_5_code
abbrev yX3_place : MethodName := ⟨"ControlText$Tree", "place", "(I)I"⟩
abbrev cX3_value : ByteArray := prog_8_method_6_code
abbrev yX3_value : MethodName := ⟨"ControlText$Tree", "value", "(I)I"⟩
abbrev cX3_parent : ByteArray := prog_8_method_8_code
abbrev yX3_parent : MethodName := ⟨"ControlText$Tree", "parent", "(I)I"⟩
abbrev cX3_children : ByteArray := prog_8_method_7_code
abbrev yX3_children : MethodName := ⟨"ControlText$Tree", "children", "(I)I"⟩
abbrev cX6_nameByte : ByteArray := prog_1_method_10_code
abbrev yX6_nameByte : MethodName := ⟨"ControlText", "nameByte", "(II)I"⟩
abbrev cX1_letterOf : ByteArray := prog_4_method_10_code
abbrev yX1_letterOf : MethodName := ⟨"ControlText$Names", "letterOf", "(II)I"⟩
abbrev cX6_write : ByteArray := prog_1_method_11_code
abbrev yX6_write : MethodName := ⟨"ControlText", "write", "()I"⟩
abbrev cX5_writeTree : ByteArray := prog_10_method_2_code
abbrev yX5_writeTree : MethodName := ⟨"ControlText$Writer", "writeTree", "()V"⟩
abbrev cX5_finishUpTo : ByteArray := prog_10_method_3_code
abbrev yX5_finishUpTo : MethodName := ⟨"ControlText$Writer", "finishUpTo", "(II)V"⟩
abbrev cX5_finish : ByteArray := prog_10_method_17_code
abbrev yX5_finish : MethodName := ⟨"ControlText$Writer", "finish", "(I)V"⟩
abbrev cX5_token : ByteArray := prog_10_method_20_code
abbrev yX5_token : MethodName := ⟨"ControlText$Writer", "token", "(I)V"⟩
abbrev cX5_word : ByteArray := prog_10_method_21_code
abbrev yX5_word : MethodName := ⟨"ControlText$Writer", "word", "(I)V"⟩
abbrev cX5_part : ByteArray := prog_10_method_22_code
abbrev yX5_part : MethodName := ⟨"ControlText$Writer", "part", "()V"⟩
abbrev cX5_isBracketed : ByteArray := prog_10_method_16_code
abbrev yX5_isBracketed : MethodName := ⟨"ControlText$Writer", "isBracketed", "(I)Z"⟩
abbrev cX3_rank : ByteArray := prog_8_method_9_code
abbrev yX3_rank : MethodName := ⟨"ControlText$Tree", "rank", "(I)I"⟩
abbrev cX5_lastToken : ByteArray := prog_10_method_18_code
abbrev yX5_lastToken : MethodName := ⟨"ControlText$Writer", "lastToken", "(I)I"⟩
abbrev cX5_endsBySemicolon : ByteArray := prog_10_method_19_code
abbrev yX5_endsBySemicolon : MethodName := ⟨"ControlText$Writer", "endsBySemicolon", "(I)Z"⟩
abbrev cX5_separate : ByteArray := prog_10_method_4_code
abbrev yX5_separate : MethodName := ⟨"ControlText$Writer", "separate", "(I)V"⟩
abbrev cX7_between : ByteArray := prog_6_method_3_code
abbrev yX7_between : MethodName := ⟨"ControlText$Sign", "between", "(I)I"⟩
abbrev cX5_separator : ByteArray := prog_10_method_5_code
abbrev yX5_separator : MethodName := ⟨"ControlText$Writer", "separator", "(III)I"⟩
abbrev cX5_separatorInDeclaration : ByteArray := prog_10_method_7_code
abbrev yX5_separatorInDeclaration : MethodName := ⟨"ControlText$Writer", "separatorInDeclaration", "(II)I"⟩
abbrev cX5_behindFirst : ByteArray := prog_10_method_6_code
abbrev yX5_behindFirst : MethodName := ⟨"ControlText$Writer", "behindFirst", "(II)I"⟩
abbrev cX5_separatorInIf : ByteArray := prog_10_method_8_code
abbrev yX5_separatorInIf : MethodName := ⟨"ControlText$Writer", "separatorInIf", "(II)I"⟩
abbrev cX5_separatorInFor : ByteArray := prog_10_method_9_code
abbrev yX5_separatorInFor : MethodName := ⟨"ControlText$Writer", "separatorInFor", "(II)I"⟩
abbrev cX5_begin : ByteArray := prog_10_method_10_code
abbrev yX5_begin : MethodName := ⟨"ControlText$Writer", "begin", "(I)V"⟩
abbrev cX5_firstToken : ByteArray := prog_10_method_11_code
abbrev yX5_firstToken : MethodName := ⟨"ControlText$Writer", "firstToken", "(II)I"⟩
abbrev cX5_contactSign : ByteArray := prog_10_method_12_code
abbrev yX5_contactSign : MethodName := ⟨"ControlText$Writer", "contactSign", "(I)I"⟩
abbrev cX5_bearsName : ByteArray := prog_10_method_14_code
abbrev yX5_bearsName : MethodName := ⟨"ControlText$Writer", "bearsName", "(I)Z"⟩
abbrev cX5_number : ByteArray := prog_10_method_23_code
abbrev yX5_number : MethodName := ⟨"ControlText$Writer", "number", "(I)V"⟩
abbrev cX10_abs : ByteArray := prog_13_method_59_code
abbrev yX10_abs : MethodName := ⟨"java/lang/Math", "abs", "(I)I"⟩
abbrev cX5_digits : ByteArray := prog_10_method_25_code
abbrev yX5_digits : MethodName := ⟨"ControlText$Writer", "digits", "(I)V"⟩
abbrev cX5_place : ByteArray := prog_10_method_24_code
abbrev yX5_place : MethodName := ⟨"ControlText$Writer", "place", "(I)V"⟩
abbrev cX5_nextToken : ByteArray := prog_10_method_15_code
abbrev yX5_nextToken : MethodName := ⟨"ControlText$Writer", "nextToken", "(II)I"⟩
abbrev cX5_coilSign : ByteArray := prog_10_method_13_code
abbrev yX5_coilSign : MethodName := ⟨"ControlText$Writer", "coilSign", "(I)I"⟩
abbrev cX6_byteAt : ByteArray := prog_1_method_12_code
abbrev yX6_byteAt : MethodName := ⟨"ControlText", "byteAt", "(I)I"⟩
abbrev cX6_back : ByteArray := prog_1_method_13_code
abbrev yX6_back : MethodName := ⟨"ControlText", "back", "()I"⟩
abbrev cX8_init : ByteArray := prog_12_method_1_code
abbrev yX8_init : MethodName := ⟨"ControlTextModel", "<init>", "()V"⟩
abbrev cX8_clear : ByteArray := prog_12_method_7_code
abbrev yX8_clear : MethodName := ⟨"ControlTextModel", "clear", "()I"⟩
abbrev cX8_feed : ByteArray := prog_12_method_8_code
abbrev yX8_feed : MethodName := ⟨"ControlTextModel", "feed", "(IIIII)I"⟩
abbrev cX8_end : ByteArray := prog_12_method_9_code
abbrev yX8_end : MethodName := ⟨"ControlTextModel", "end", "(I)I"⟩
abbrev cX8_change : ByteArray := prog_12_method_10_code
abbrev yX8_change : MethodName := ⟨"ControlTextModel", "change", "(II)I"⟩
abbrev cX8_read : ByteArray := prog_12_method_92_code
abbrev yX8_read : MethodName := ⟨"ControlTextModel", "read", "()I"⟩
abbrev cX8_make : ByteArray := prog_12_method_23_code
abbrev yX8_make : MethodName := ⟨"ControlTextModel", "make", "(III)I"⟩
abbrev cX8_push : ByteArray := prog_12_method_27_code
abbrev yX8_push : MethodName := ⟨"ControlTextModel", "push", "(I)V"⟩
abbrev cX8_step : ByteArray := prog_12_method_22_code
abbrev yX8_step : MethodName := ⟨"ControlTextModel", "step", "()V"⟩
abbrev cX8_skip : ByteArray := prog_12_method_12_code
abbrev yX8_skip : MethodName := ⟨"ControlTextModel", "skip", "()V"⟩
abbrev cX8_at : ByteArray := prog_12_method_5_code
abbrev yX8_at : MethodName := ⟨"ControlTextModel", "at", "(I)I"⟩
abbrev cX8_fail : ByteArray := prog_12_method_11_code
abbrev yX8_fail : MethodName := ⟨"ControlTextModel", "fail", "(II)V"⟩
abbrev cX8_readNumber : ByteArray := prog_12_method_19_code
abbrev yX8_readNumber : MethodName := ⟨"ControlTextModel", "readNumber", "(Z)V"⟩
abbrev cX8_digits : ByteArray := prog_12_method_17_code
abbrev yX8_digits : MethodName := ⟨"ControlTextModel", "digits", "(I)J"⟩
abbrev cX8_digitOf : ByteArray := prog_12_method_16_code
abbrev yX8_digitOf : MethodName := ⟨"ControlTextModel", "digitOf", "(I)I"⟩
abbrev cX8_great : ByteArray := prog_12_method_4_code
abbrev yX8_great : MethodName := ⟨"ControlTextModel", "great", "(I)I"⟩
abbrev cX8_isDigit : ByteArray := prog_12_method_3_code
abbrev yX8_isDigit : MethodName := ⟨"ControlTextModel", "isDigit", "(I)Z"⟩
abbrev cX8_unit : ByteArray := prog_12_method_18_code
abbrev yX8_unit : MethodName := ⟨"ControlTextModel", "unit", "()J"⟩
abbrev cX8_goesOn : ByteArray := prog_12_method_6_code
abbrev yX8_goesOn : MethodName := ⟨"ControlTextModel", "goesOn", "(I)Z"⟩
abbrev cX8_isLetter : ByteArray := prog_12_method_2_code
abbrev yX8_isLetter : MethodName := ⟨"ControlTextModel", "isLetter", "(I)Z"⟩
abbrev cX8_readName : ByteArray := prog_12_method_15_code
abbrev yX8_readName : MethodName := ⟨"ControlTextModel", "readName", "()V"⟩
abbrev cX8_wordOf : ByteArray := prog_12_method_13_code
abbrev yX8_wordOf : MethodName := ⟨"ControlTextModel", "wordOf", "(II)I"⟩
abbrev cX8_nameOf : ByteArray := prog_12_method_14_code
abbrev yX8_nameOf : MethodName := ⟨"ControlTextModel", "nameOf", "(II)I"⟩
abbrev cX8_readPlace : ByteArray := prog_12_method_20_code
abbrev yX8_readPlace : MethodName := ⟨"ControlTextModel", "readPlace", "()V"⟩
abbrev cX8_readSign : ByteArray := prog_12_method_21_code
abbrev yX8_readSign : MethodName := ⟨"ControlTextModel", "readSign", "()V"⟩
abbrev cX8_act : ByteArray := prog_12_method_89_code
abbrev yX8_act : MethodName := ⟨"ControlTextModel", "act", "(I)V"⟩
abbrev cX8_pass : ByteArray := prog_12_method_32_code
abbrev yX8_pass : MethodName := ⟨"ControlTextModel", "pass", "(I)V"⟩
abbrev cX8_wrong : ByteArray := prog_12_method_31_code
abbrev yX8_wrong : MethodName := ⟨"ControlTextModel", "wrong", "()V"⟩
abbrev cX8_actBlock : ByteArray := prog_12_method_84_code
abbrev yX8_actBlock : MethodName := ⟨"ControlTextModel", "actBlock", "(I)V"⟩
abbrev cX8_blocks : ByteArray := prog_12_method_38_code
abbrev yX8_blocks : MethodName := ⟨"ControlTextModel", "blocks", "()V"⟩
abbrev cX8_down : ByteArray := prog_12_method_26_code
abbrev yX8_down : MethodName := ⟨"ControlTextModel", "down", "(III)V"⟩
abbrev cX8_hang : ByteArray := prog_12_method_24_code
abbrev yX8_hang : MethodName := ⟨"ControlTextModel", "hang", "(II)V"⟩
abbrev cX8_push4 : ByteArray := prog_12_method_29_code
abbrev yX8_push4 : MethodName := ⟨"ControlTextModel", "push4", "(IIII)V"⟩
abbrev cX8_push2 : ByteArray := prog_12_method_28_code
abbrev yX8_push2 : MethodName := ⟨"ControlTextModel", "push2", "(II)V"⟩
abbrev cX8_up : ByteArray := prog_12_method_52_code
abbrev yX8_up : MethodName := ⟨"ControlTextModel", "up", "()V"⟩
abbrev cX8_body : ByteArray := prog_12_method_41_code
abbrev yX8_body : MethodName := ⟨"ControlTextModel", "body", "()V"⟩
abbrev cX8_sections : ByteArray := prog_12_method_40_code
abbrev yX8_sections : MethodName := ⟨"ControlTextModel", "sections", "()V"⟩
abbrev cX8_simple : ByteArray := prog_12_method_45_code
abbrev yX8_simple : MethodName := ⟨"ControlTextModel", "simple", "()V"⟩
abbrev cX8_leaf : ByteArray := prog_12_method_25_code
abbrev yX8_leaf : MethodName := ⟨"ControlTextModel", "leaf", "(III)V"⟩
abbrev cX8_title : ByteArray := prog_12_method_39_code
abbrev yX8_title : MethodName := ⟨"ControlTextModel", "title", "()V"⟩
abbrev cX8_declarations : ByteArray := prog_12_method_43_code
abbrev yX8_declarations : MethodName := ⟨"ControlTextModel", "declarations", "()V"⟩
abbrev cX8_aName : ByteArray := prog_12_method_44_code
abbrev yX8_aName : MethodName := ⟨"ControlTextModel", "aName", "()V"⟩
abbrev cX8_perhaps : ByteArray := prog_12_method_49_code
abbrev yX8_perhaps : MethodName := ⟨"ControlTextModel", "perhaps", "(III)V"⟩
abbrev cX8_type : ByteArray := prog_12_method_46_code
abbrev yX8_type : MethodName := ⟨"ControlTextModel", "type", "()V"⟩
abbrev cX8_constant : ByteArray := prog_12_method_47_code
abbrev yX8_constant : MethodName := ⟨"ControlTextModel", "constant", "()V"⟩
abbrev cX8_lessNumber : ByteArray := prog_12_method_48_code
abbrev yX8_lessNumber : MethodName := ⟨"ControlTextModel", "lessNumber", "()V"⟩
abbrev cX8_actStatement : ByteArray := prog_12_method_85_code
abbrev yX8_actStatement : MethodName := ⟨"ControlTextModel", "actStatement", "(I)V"⟩
abbrev cX8_statements : ByteArray := prog_12_method_50_code
abbrev yX8_statements : MethodName := ⟨"ControlTextModel", "statements", "()V"⟩
abbrev cX8_keepName : ByteArray := prog_12_method_34_code
abbrev yX8_keepName : MethodName := ⟨"ControlTextModel", "keepName", "()V"⟩
abbrev cX8_opens : ByteArray := prog_12_method_33_code
abbrev yX8_opens : MethodName := ⟨"ControlTextModel", "opens", "()Z"⟩
abbrev cX8_compound : ByteArray := prog_12_method_51_code
abbrev yX8_compound : MethodName := ⟨"ControlTextModel", "compound", "()V"⟩
abbrev cX8_pushExpression : ByteArray := prog_12_method_30_code
abbrev yX8_pushExpression : MethodName := ⟨"ControlTextModel", "pushExpression", "()V"⟩
abbrev cX8_behindName : ByteArray := prog_12_method_53_code
abbrev yX8_behindName : MethodName := ⟨"ControlTextModel", "behindName", "()V"⟩
abbrev cX8_ifRest : ByteArray := prog_12_method_57_code
abbrev yX8_ifRest : MethodName := ⟨"ControlTextModel", "ifRest", "()V"⟩
abbrev cX8_elseBody : ByteArray := prog_12_method_58_code
abbrev yX8_elseBody : MethodName := ⟨"ControlTextModel", "elseBody", "()V"⟩
abbrev cX8_bodyBehind : ByteArray := prog_12_method_42_code
abbrev yX8_bodyBehind : MethodName := ⟨"ControlTextModel", "bodyBehind", "(I)V"⟩
abbrev cX8_choices : ByteArray := prog_12_method_59_code
abbrev yX8_choices : MethodName := ⟨"ControlTextModel", "choices", "()V"⟩
abbrev cX8_isConstant : ByteArray := prog_12_method_35_code
abbrev yX8_isConstant : MethodName := ⟨"ControlTextModel", "isConstant", "()Z"⟩
abbrev cX8_range : ByteArray := prog_12_method_60_code
abbrev yX8_range : MethodName := ⟨"ControlTextModel", "range", "()V"⟩
abbrev cX8_assign : ByteArray := prog_12_method_55_code
abbrev yX8_assign : MethodName := ⟨"ControlTextModel", "assign", "()V"⟩
abbrev cX8_indexEnd : ByteArray := prog_12_method_54_code
abbrev yX8_indexEnd : MethodName := ⟨"ControlTextModel", "indexEnd", "()V"⟩
abbrev cX8_parameter : ByteArray := prog_12_method_56_code
abbrev yX8_parameter : MethodName := ⟨"ControlTextModel", "parameter", "()V"⟩
abbrev cX8_actOperand : ByteArray := prog_12_method_87_code
abbrev yX8_actOperand : MethodName := ⟨"ControlTextModel", "actOperand", "(I)V"⟩
abbrev cX8_expression : ByteArray := prog_12_method_64_code
abbrev yX8_expression : MethodName := ⟨"ControlTextModel", "expression", "()V"⟩
abbrev cX8_waitFor : ByteArray := prog_12_method_63_code
abbrev yX8_waitFor : MethodName := ⟨"ControlTextModel", "waitFor", "(II)V"⟩
abbrev cX8_anOperand : ByteArray := prog_12_method_69_code
abbrev yX8_anOperand : MethodName := ⟨"ControlTextModel", "anOperand", "()V"⟩
abbrev cX8_operandCame : ByteArray := prog_12_method_68_code
abbrev yX8_operandCame : MethodName := ⟨"ControlTextModel", "operandCame", "(I)V"⟩
abbrev cX8_putOperand : ByteArray := prog_12_method_61_code
abbrev yX8_putOperand : MethodName := ⟨"ControlTextModel", "putOperand", "(I)V"⟩
abbrev cX8_settle : ByteArray := prog_12_method_67_code
abbrev yX8_settle : MethodName := ⟨"ControlTextModel", "settle", "()V"⟩
abbrev cX8_takeOperand : ByteArray := prog_12_method_62_code
abbrev yX8_takeOperand : MethodName := ⟨"ControlTextModel", "takeOperand", "()I"⟩
abbrev cX8_signRest : ByteArray := prog_12_method_78_code
abbrev yX8_signRest : MethodName := ⟨"ControlTextModel", "signRest", "()V"⟩
abbrev cX8_signAt : ByteArray := prog_12_method_65_code
abbrev yX8_signAt : MethodName := ⟨"ControlTextModel", "signAt", "()I"⟩
abbrev cX8_closeness : ByteArray := prog_12_method_66_code
abbrev yX8_closeness : MethodName := ⟨"ControlTextModel", "closeness", "(I)I"⟩
abbrev cX8_groupEnd : ByteArray := prog_12_method_70_code
abbrev yX8_groupEnd : MethodName := ⟨"ControlTextModel", "groupEnd", "()V"⟩
abbrev cX8_behindOperand : ByteArray := prog_12_method_72_code
abbrev yX8_behindOperand : MethodName := ⟨"ControlTextModel", "behindOperand", "()V"⟩
abbrev cX8_start : ByteArray := prog_12_method_71_code
abbrev yX8_start : MethodName := ⟨"ControlTextModel", "start", "(I)V"⟩
abbrev cX8_elementEnd : ByteArray := prog_12_method_75_code
abbrev yX8_elementEnd : MethodName := ⟨"ControlTextModel", "elementEnd", "()V"⟩
abbrev cX8_argument : ByteArray := prog_12_method_74_code
abbrev yX8_argument : MethodName := ⟨"ControlTextModel", "argument", "()V"⟩
abbrev cX8_finish : ByteArray := prog_12_method_73_code
abbrev yX8_finish : MethodName := ⟨"ControlTextModel", "finish", "()V"⟩
abbrev cX8_output : ByteArray := prog_12_method_76_code
abbrev yX8_output : MethodName := ⟨"ControlTextModel", "output", "()V"⟩
abbrev cX8_isOperand : ByteArray := prog_12_method_36_code
abbrev yX8_isOperand : MethodName := ⟨"ControlTextModel", "isOperand", "()Z"⟩
abbrev cX8_pushArgument : ByteArray := prog_12_method_86_code
abbrev yX8_pushArgument : MethodName := ⟨"ControlTextModel", "pushArgument", "()V"⟩
abbrev cX8_resultEnd : ByteArray := prog_12_method_77_code
abbrev yX8_resultEnd : MethodName := ⟨"ControlTextModel", "resultEnd", "()V"⟩
abbrev cX8_actRung : ByteArray := prog_12_method_88_code
abbrev yX8_actRung : MethodName := ⟨"ControlTextModel", "actRung", "(I)V"⟩
abbrev cX8_isCell : ByteArray := prog_12_method_37_code
abbrev yX8_isCell : MethodName := ⟨"ControlTextModel", "isCell", "()Z"⟩
abbrev cX8_cell : ByteArray := prog_12_method_79_code
abbrev yX8_cell : MethodName := ⟨"ControlTextModel", "cell", "()V"⟩
abbrev cX8_moreCells : ByteArray := prog_12_method_83_code
abbrev yX8_moreCells : MethodName := ⟨"ControlTextModel", "moreCells", "()V"⟩
abbrev cX8_contact : ByteArray := prog_12_method_80_code
abbrev yX8_contact : MethodName := ⟨"ControlTextModel", "contact", "()V"⟩
abbrev cX8_behindContact : ByteArray := prog_12_method_81_code
abbrev yX8_behindContact : MethodName := ⟨"ControlTextModel", "behindContact", "()V"⟩
abbrev cX8_coil : ByteArray := prog_12_method_82_code
abbrev yX8_coil : MethodName := ⟨"ControlTextModel", "coil", "()V"⟩
abbrev cX8_number : ByteArray := prog_12_method_91_code
abbrev yX8_number : MethodName := ⟨"ControlTextModel", "number", "()V"⟩
abbrev cX8_following : ByteArray := prog_12_method_90_code
abbrev yX8_following : MethodName := ⟨"ControlTextModel", "following", "(I)I"⟩
abbrev cX8_count : ByteArray := prog_12_method_93_code
abbrev yX8_count : MethodName := ⟨"ControlTextModel", "count", "(I)I"⟩
abbrev cX8_node : ByteArray := prog_12_method_95_code
abbrev yX8_node : MethodName := ⟨"ControlTextModel", "node", "(II)I"⟩
abbrev cX8_children : ByteArray := prog_12_method_94_code
abbrev yX8_children : MethodName := ⟨"ControlTextModel", "children", "(I)I"⟩
abbrev cX8_nameByte : ByteArray := prog_12_method_96_code
abbrev yX8_nameByte : MethodName := ⟨"ControlTextModel", "nameByte", "(II)I"⟩
abbrev cX8_write : ByteArray := prog_12_method_122_code
abbrev yX8_write : MethodName := ⟨"ControlTextModel", "write", "()I"⟩
abbrev cX8_item : ByteArray := prog_12_method_97_code
abbrev yX8_item : MethodName := ⟨"ControlTextModel", "item", "(II)V"⟩
abbrev cX8_openItem : ByteArray := prog_12_method_121_code
abbrev yX8_openItem : MethodName := ⟨"ControlTextModel", "openItem", "(II)V"⟩
abbrev cX8_putToken : ByteArray := prog_12_method_101_code
abbrev yX8_putToken : MethodName := ⟨"ControlTextModel", "putToken", "(I)V"⟩
abbrev cX8_part : ByteArray := prog_12_method_100_code
abbrev yX8_part : MethodName := ⟨"ControlTextModel", "part", "(I)V"⟩
abbrev cX8_isOfName : ByteArray := prog_12_method_99_code
abbrev yX8_isOfName : MethodName := ⟨"ControlTextModel", "isOfName", "(I)Z"⟩
abbrev cX8_put : ByteArray := prog_12_method_98_code
abbrev yX8_put : MethodName := ⟨"ControlTextModel", "put", "(I)V"⟩
abbrev cX8_putName : ByteArray := prog_12_method_102_code
abbrev yX8_putName : MethodName := ⟨"ControlTextModel", "putName", "(I)V"⟩
abbrev cX8_openParts : ByteArray := prog_12_method_117_code
abbrev yX8_openParts : MethodName := ⟨"ControlTextModel", "openParts", "(I)V"⟩
abbrev cX8_openNode : ByteArray := prog_12_method_116_code
abbrev yX8_openNode : MethodName := ⟨"ControlTextModel", "openNode", "(I)V"⟩
abbrev cX8_openBlock : ByteArray := prog_12_method_115_code
abbrev yX8_openBlock : MethodName := ⟨"ControlTextModel", "openBlock", "(I)V"⟩
abbrev cX8_itemBlock : ByteArray := prog_12_method_108_code
abbrev yX8_itemBlock : MethodName := ⟨"ControlTextModel", "itemBlock", "(III)V"⟩
abbrev cX8_second : ByteArray := prog_12_method_105_code
abbrev yX8_second : MethodName := ⟨"ControlTextModel", "second", "(I)I"⟩
abbrev cX8_itemAll : ByteArray := prog_12_method_111_code
abbrev yX8_itemAll : MethodName := ⟨"ControlTextModel", "itemAll", "(IIII)V"⟩
abbrev cX8_putPlace : ByteArray := prog_12_method_104_code
abbrev yX8_putPlace : MethodName := ⟨"ControlTextModel", "putPlace", "(I)V"⟩
abbrev cX8_itemArray : ByteArray := prog_12_method_110_code
abbrev yX8_itemArray : MethodName := ⟨"ControlTextModel", "itemArray", "(I)V"⟩
abbrev cX8_openStatement : ByteArray := prog_12_method_112_code
abbrev yX8_openStatement : MethodName := ⟨"ControlTextModel", "openStatement", "(I)V"⟩
abbrev cX8_itemFor : ByteArray := prog_12_method_109_code
abbrev yX8_itemFor : MethodName := ⟨"ControlTextModel", "itemFor", "(I)V"⟩
abbrev cX8_openRung : ByteArray := prog_12_method_114_code
abbrev yX8_openRung : MethodName := ⟨"ControlTextModel", "openRung", "(I)V"⟩
abbrev cX8_openOperand : ByteArray := prog_12_method_113_code
abbrev yX8_openOperand : MethodName := ⟨"ControlTextModel", "openOperand", "(I)V"⟩
abbrev cX8_putNumber : ByteArray := prog_12_method_103_code
abbrev yX8_putNumber : MethodName := ⟨"ControlTextModel", "putNumber", "(I)V"⟩
abbrev cX8_itemOperand : ByteArray := prog_12_method_106_code
abbrev yX8_itemOperand : MethodName := ⟨"ControlTextModel", "itemOperand", "(IIZ)V"⟩
abbrev cX8_tokenOf : ByteArray := prog_12_method_107_code
abbrev yX8_tokenOf : MethodName := ⟨"ControlTextModel", "tokenOf", "(I)I"⟩
abbrev cX8_openIf : ByteArray := prog_12_method_118_code
abbrev yX8_openIf : MethodName := ⟨"ControlTextModel", "openIf", "(I)V"⟩
abbrev cX8_openCase : ByteArray := prog_12_method_119_code
abbrev yX8_openCase : MethodName := ⟨"ControlTextModel", "openCase", "(I)V"⟩
abbrev cX8_openRow : ByteArray := prog_12_method_120_code
abbrev yX8_openRow : MethodName := ⟨"ControlTextModel", "openRow", "(II)V"⟩
abbrev cX8_byteAt : ByteArray := prog_12_method_123_code
abbrev yX8_byteAt : MethodName := ⟨"ControlTextModel", "byteAt", "(I)I"⟩
abbrev cX8_back : ByteArray := prog_12_method_124_code
abbrev yX8_back : MethodName := ⟨"ControlTextModel", "back", "()I"⟩
abbrev vwCl : List vw_C := [(RX0, TX0, 2), (RX1, TX1, 6), (RX2, TX2, 7), (RX3, TX3, 8), (RX4, TX4, 12), (RX5, TX5, 3), (RX6, TX6, 7), (RX7, TX7, 0), (RX8, TX8, 48), (RX9, TX9, 0), (RX10, TX10, 0)]
end
section
/-- the words of the tables that stay -/
def ALL : List Cond := lw_tbl.filter goodWord
theorem mem_t (i : Nat) {w : Cond} (h : lw_tbl[i]? = some w) (hg : goodWord w = true) : w ∈ ALL := List.mem_filter.mpr ⟨List.mem_of_getElem? h, hg⟩
theorem inA {c0 w : Cond} (h : w ∈ ALL) : w ∈ c0 :: ALL := List.mem_cons_of_mem _ h
theorem good_all {c0 : Cond} {ws : List Cond} (h : ∀ w ∈ ws, w ∈ ALL) : GoodIn (c0 :: ALL) ws := fun w hw => ⟨inA (h w hw), good_of_word (List.mem_filter.mp (h w hw)).2⟩
abbrev wsM (y : MethodName) (b : ByteArray) (n : Nat) (r : Option FieldType) : List Cond := Cond.code y b n r :: ALL
def MV (y : MethodName) (b : ByteArray) (n : Nat) (r : Option FieldType) (k : Nat) : Prop := Cond.instanceMethod y ∈ ALL ∧ Cond.selects y.cls y y ∈ ALL ∧ Cond.initialized y.cls ∈ ALL ∧ Cond.code y b n r ∈ ALL ∧ y.cls ≠ "java/lang/invoke/MethodHandle" ∧ y.cls ≠ "java/lang/invoke/VarHandle" ∧ (parseMethodDescriptor y.desc).map (fun d => d.parameters.length) = some k
def MS (y : MethodName) (b : ByteArray) (n : Nat) (r : Option FieldType) (k : Nat) : Prop := Cond.static y ∈ ALL ∧ Cond.initialized y.cls ∈ ALL ∧ Cond.code y b n r ∈ ALL ∧ y.cls ≠ "java/lang/invoke/MethodHandle" ∧ y.cls ≠ "java/lang/invoke/VarHandle" ∧ (parseMethodDescriptor y.desc).map (fun d => d.parameters.length) = some k
def MI (y : MethodName) (b : ByteArray) (n : Nat) (k : Nat) : Prop := Cond.instanceMethod y ∈ ALL ∧ Cond.initialized y.cls ∈ ALL ∧ Cond.code y b n none ∈ ALL ∧ y.cls ≠ "java/lang/invoke/MethodHandle" ∧ y.cls ≠ "java/lang/invoke/VarHandle" ∧ (parseMethodDescriptor y.desc).map (fun d => d.parameters.length) = some k ∧ y.name = "<init>"
section CW
variable {R : Room} {s : State} {args : Array Value} {c0 : Cond} {own : String} {idx : Nat} {y : MethodName} {b : ByteArray} {nl n mc ms : Nat} {r : Option FieldType} {rm : Room}
theorem code_in (h : Cond.code y b nl r ∈ ALL) : ∀ w ∈ wsM y b nl r, w ∈ ALL := fun w hw => (List.mem_cons.mp hw).elim (fun e => by rw [e]; exact h) id
theorem cwV2 (hts : ∀ w ∈ c0 :: ALL, w.before args s = true) (hl : Cond.methodLink own idx y ∈ ALL) (h : MV y b nl r n) (hrc : rm.cells = mc) (hrs : rm.slots = ms) (hR : rm.frames + 1 ≤ R.frames ∧ 8 + (nl + 11) + rm.locals ≤ R.locals) : CallW R s args own y.cls idx y b nl r (wsM y b nl r) rm mc ms n :=
  ⟨callB_of n hts (good_all (code_in h.2.2.2.1)) rfl hrc hrs (hts _ (inA h.2.2.1)) (hts _ (inA hl)) h.2.2.2.2 hR, hts _ (inA h.1), hts _ (inA h.2.1)⟩
theorem cwS2 (hts : ∀ w ∈ c0 :: ALL, w.before args s = true) (hl : Cond.methodLink own idx y ∈ ALL) (h : MS y b nl r n) (hrc : rm.cells = mc) (hrs : rm.slots = ms) (hR : rm.frames + 1 ≤ R.frames ∧ 8 + (nl + 11) + rm.locals ≤ R.locals) : CallB R s args own idx y b nl r (wsM y b nl r) rm mc ms n ∧ (Cond.static y).before args s = true :=
  ⟨callB_of n hts (good_all (code_in h.2.2.1)) rfl hrc hrs (hts _ (inA h.2.1)) (hts _ (inA hl)) h.2.2.2 hR, hts _ (inA h.1)⟩
theorem cwSN2 {host : String} (hts : ∀ w ∈ c0 :: ALL, w.before args s = true) (hl : va_Nw (.methodLinkNest own idx y host) s) (h : MS y b nl r n) (hrc : rm.cells = mc) (hrs : rm.slots = ms) (hR : rm.frames + 1 ≤ R.frames ∧ 8 + (nl + 11) + rm.locals ≤ R.locals) : va_CN R s args own idx y host b nl r (wsM y b nl r) rm mc ms n ∧ (Cond.static y).before args s = true ∧ True :=
  ⟨va_cnB n hts (good_all (code_in h.2.2.1)) rfl hrc hrs hl (hts _ (inA h.2.1)) h.2.2.2 hR, hts _ (inA h.1), trivial⟩
theorem cwI2 (hts : ∀ w ∈ c0 :: ALL, w.before args s = true) (hl : Cond.methodLink own idx y ∈ ALL) (h : MI y b nl n) (hrc : rm.cells = mc) (hrs : rm.slots = ms) (hR : rm.frames + 1 ≤ R.frames ∧ 8 + (nl + 11) + rm.locals ≤ R.locals) : CallB R s args own idx y b nl none (wsM y b nl none) rm mc ms n ∧ y.name = "<init>" ∧ (Cond.instanceMethod y).before args s = true :=
  ⟨callB_of n hts (good_all (code_in h.2.2.1)) rfl hrc hrs (hts _ (inA h.2.1)) (hts _ (inA hl)) ⟨h.2.2.2.1, h.2.2.2.2.1, h.2.2.2.2.2.1⟩ hR, h.2.2.2.2.2.2, hts _ (inA h.1)⟩
end CW
theorem q204 : Cond.fieldLink "ControlText$Bytes" 15 "ControlText$Bytes" "size" "I" ∈ ALL := mem_t 204 (by decide +kernel) (by decide +kernel)
theorem q452 : Cond.fieldLink "ControlText" 14 "ControlText" "text" "LControlText$Bytes;" ∈ ALL := mem_t 452 (by decide +kernel) (by decide +kernel)
theorem q478 : Cond.methodLink "ControlText" 66 yX0_cut ∈ ALL := mem_t 478 (by decide +kernel) (by decide +kernel)
theorem q481 : Cond.code yX0_cut prog_2_method_5_code 2 (Option.none : Option Jvm.ClassFile.FieldType) ∈ ALL := mem_t 481 (by decide +kernel) (by decide +kernel)
theorem q174 : Cond.initialized "ControlText$Bytes" ∈ ALL := mem_t 174 (by decide +kernel) (by decide +kernel)
theorem q479 : Cond.instanceMethod yX0_cut ∈ ALL := mem_t 479 (by decide +kernel) (by decide +kernel)
theorem q480 : Cond.selects "ControlText$Bytes" yX0_cut yX0_cut ∈ ALL := mem_t 480 (by decide +kernel) (by decide +kernel)
theorem mvX0_cut : MV yX0_cut cX0_cut 2 (Option.none : Option Jvm.ClassFile.FieldType) 1 := ⟨q479, q480, q174, q481, by decide +kernel, by decide +kernel, by decide +kernel⟩
theorem q202 : Cond.fieldLink "ControlText$Bytes" 9 "ControlText$Bytes" "bytes" "[I" ∈ ALL := mem_t 202 (by decide +kernel) (by decide +kernel)
theorem q490 : Cond.methodLink "ControlText" 72 yX0_put ∈ ALL := mem_t 490 (by decide +kernel) (by decide +kernel)
theorem q493 : Cond.code yX0_put prog_2_method_3_code 2 (Option.none : Option Jvm.ClassFile.FieldType) ∈ ALL := mem_t 493 (by decide +kernel) (by decide +kernel)
theorem q491 : Cond.instanceMethod yX0_put ∈ ALL := mem_t 491 (by decide +kernel) (by decide +kernel)
theorem q492 : Cond.selects "ControlText$Bytes" yX0_put yX0_put ∈ ALL := mem_t 492 (by decide +kernel) (by decide +kernel)
theorem mvX0_put : MV yX0_put cX0_put 2 (Option.none : Option Jvm.ClassFile.FieldType) 1 := ⟨q491, q492, q174, q493, by decide +kernel, by decide +kernel, by decide +kernel⟩
theorem q486 : Cond.methodLink "ControlText" 69 yX6_feedNumber ∈ ALL := mem_t 486 (by decide +kernel) (by decide +kernel)
theorem q489 : Cond.code yX6_feedNumber prog_1_method_4_code 3 (Option.none : Option Jvm.ClassFile.FieldType) ∈ ALL := mem_t 489 (by decide +kernel) (by decide +kernel)
theorem q173 : Cond.initialized "ControlText" ∈ ALL := mem_t 173 (by decide +kernel) (by decide +kernel)
theorem q488 : Cond.instanceMethod yX6_feedNumber ∈ ALL := mem_t 488 (by decide +kernel) (by decide +kernel)
theorem q5 : Cond.selects "ControlText" yX6_feedNumber yX6_feedNumber ∈ ALL := mem_t 5 (by decide +kernel) (by decide +kernel)
theorem mvX6_feedNumber : MV yX6_feedNumber cX6_feedNumber 3 (Option.none : Option Jvm.ClassFile.FieldType) 1 := ⟨q488, q5, q173, q489, by decide +kernel, by decide +kernel, by decide +kernel⟩
theorem q506 : Cond.methodLink "ControlText$Bytes" 19 yX0_get ∈ ALL := mem_t 506 (by decide +kernel) (by decide +kernel)
theorem q509 : Cond.code yX0_get prog_2_method_2_code 2 (Option.some Jvm.ClassFile.FieldType.int) ∈ ALL := mem_t 509 (by decide +kernel) (by decide +kernel)
theorem q507 : Cond.instanceMethod yX0_get ∈ ALL := mem_t 507 (by decide +kernel) (by decide +kernel)
theorem q508 : Cond.selects "ControlText$Bytes" yX0_get yX0_get ∈ ALL := mem_t 508 (by decide +kernel) (by decide +kernel)
theorem mvX0_get : MV yX0_get cX0_get 2 (Option.some Jvm.ClassFile.FieldType.int) 1 := ⟨q507, q508, q174, q509, by decide +kernel, by decide +kernel, by decide +kernel⟩
theorem q502 : Cond.methodLink "ControlText" 75 yX0_swap ∈ ALL := mem_t 502 (by decide +kernel) (by decide +kernel)
theorem q505 : Cond.code yX0_swap prog_2_method_4_code 4 (Option.some Jvm.ClassFile.FieldType.int) ∈ ALL := mem_t 505 (by decide +kernel) (by decide +kernel)
theorem q503 : Cond.instanceMethod yX0_swap ∈ ALL := mem_t 503 (by decide +kernel) (by decide +kernel)
theorem q504 : Cond.selects "ControlText$Bytes" yX0_swap yX0_swap ∈ ALL := mem_t 504 (by decide +kernel) (by decide +kernel)
theorem mvX0_swap : MV yX0_swap cX0_swap 4 (Option.some Jvm.ClassFile.FieldType.int) 2 := ⟨q503, q504, q174, q505, by decide +kernel, by decide +kernel, by decide +kernel⟩
theorem q308 : Cond.fieldLink "ControlText$Names" 59 "ControlText$Names" "size" "I" ∈ ALL := mem_t 308 (by decide +kernel) (by decide +kernel)
theorem q306 : Cond.fieldLink "ControlText$Names" 20 "ControlText$Names" "slotOf" "[I" ∈ ALL := mem_t 306 (by decide +kernel) (by decide +kernel)
theorem q307 : Cond.fieldLink "ControlText$Names" 23 "ControlText$Names" "slots" "[I" ∈ ALL := mem_t 307 (by decide +kernel) (by decide +kernel)
theorem q305 : Cond.fieldLink "ControlText$Names" 17 "ControlText$Names" "starts" "[I" ∈ ALL := mem_t 305 (by decide +kernel) (by decide +kernel)
theorem q310 : Cond.fieldLink "ControlText$Names" 63 "ControlText$Names" "used" "I" ∈ ALL := mem_t 310 (by decide +kernel) (by decide +kernel)
theorem q400 : Cond.fieldLink "ControlText$Parser" 26 "ControlText$Parser" "kind" "I" ∈ ALL := mem_t 400 (by decide +kernel) (by decide +kernel)
theorem q401 : Cond.fieldLink "ControlText$Parser" 92 "ControlText$Parser" "place" "I" ∈ ALL := mem_t 401 (by decide +kernel) (by decide +kernel)
theorem q403 : Cond.fieldLink "ControlText$Parser" 94 "ControlText$Parser" "placeBefore" "I" ∈ ALL := mem_t 403 (by decide +kernel) (by decide +kernel)
theorem q399 : Cond.fieldLink "ControlText$Parser" 23 "ControlText$Parser" "at" "I" ∈ ALL := mem_t 399 (by decide +kernel) (by decide +kernel)
theorem q402 : Cond.fieldLink "ControlText$Parser" 110 "ControlText$Parser" "value" "I" ∈ ALL := mem_t 402 (by decide +kernel) (by decide +kernel)
theorem q397 : Cond.fieldLink "ControlText$Parser" 15 "ControlText$Parser" "tokens" "LControlText$Tokens;" ∈ ALL := mem_t 397 (by decide +kernel) (by decide +kernel)
theorem q370 : Cond.fieldLink "ControlText$Tree" 33 "ControlText$Tree" "size" "I" ∈ ALL := mem_t 370 (by decide +kernel) (by decide +kernel)
theorem q363 : Cond.fieldLink "ControlText$Tree" 9 "ControlText$Tree" "kinds" "[I" ∈ ALL := mem_t 363 (by decide +kernel) (by decide +kernel)
theorem q364 : Cond.fieldLink "ControlText$Tree" 15 "ControlText$Tree" "places" "[I" ∈ ALL := mem_t 364 (by decide +kernel) (by decide +kernel)
theorem q365 : Cond.fieldLink "ControlText$Tree" 18 "ControlText$Tree" "values" "[I" ∈ ALL := mem_t 365 (by decide +kernel) (by decide +kernel)
theorem q366 : Cond.fieldLink "ControlText$Tree" 21 "ControlText$Tree" "children" "[I" ∈ ALL := mem_t 366 (by decide +kernel) (by decide +kernel)
theorem q398 : Cond.fieldLink "ControlText$Parser" 19 "ControlText$Parser" "tree" "LControlText$Tree;" ∈ ALL := mem_t 398 (by decide +kernel) (by decide +kernel)
theorem q622 : Cond.methodLink "ControlText$Parser" 50 yX3_add ∈ ALL := mem_t 622 (by decide +kernel) (by decide +kernel)
theorem q625 : Cond.code yX3_add prog_8_method_10_code 6 (Option.some Jvm.ClassFile.FieldType.int) ∈ ALL := mem_t 625 (by decide +kernel) (by decide +kernel)
theorem q181 : Cond.initialized "ControlText$Tree" ∈ ALL := mem_t 181 (by decide +kernel) (by decide +kernel)
theorem q623 : Cond.instanceMethod yX3_add ∈ ALL := mem_t 623 (by decide +kernel) (by decide +kernel)
theorem q624 : Cond.selects "ControlText$Tree" yX3_add yX3_add ∈ ALL := mem_t 624 (by decide +kernel) (by decide +kernel)
theorem mvX3_add : MV yX3_add cX3_add 6 (Option.some Jvm.ClassFile.FieldType.int) 4 := ⟨q623, q624, q181, q625, by decide +kernel, by decide +kernel, by decide +kernel⟩
theorem q614 : Cond.methodLink "ControlText$Parser" 39 yX4_take ∈ ALL := mem_t 614 (by decide +kernel) (by decide +kernel)
theorem q617 : Cond.code yX4_take prog_5_method_4_code 3 (Option.none : Option Jvm.ClassFile.FieldType) ∈ ALL := mem_t 617 (by decide +kernel) (by decide +kernel)
theorem q182 : Cond.initialized "ControlText$Parser" ∈ ALL := mem_t 182 (by decide +kernel) (by decide +kernel)
theorem q616 : Cond.instanceMethod yX4_take ∈ ALL := mem_t 616 (by decide +kernel) (by decide +kernel)
theorem q18 : Cond.selects "ControlText$Parser" yX4_take yX4_take ∈ ALL := mem_t 18 (by decide +kernel) (by decide +kernel)
theorem mvX4_take : MV yX4_take cX4_take 3 (Option.none : Option Jvm.ClassFile.FieldType) 1 := ⟨q616, q18, q182, q617, by decide +kernel, by decide +kernel, by decide +kernel⟩
theorem q634 : Cond.methodLink "ControlText$Parser" 115 yX4_kindOfBlock ∈ ALL := mem_t 634 (by decide +kernel) (by decide +kernel)
theorem q636 : Cond.code yX4_kindOfBlock prog_5_method_12_code 1 (Option.some Jvm.ClassFile.FieldType.int) ∈ ALL := mem_t 636 (by decide +kernel) (by decide +kernel)
theorem q635 : Cond.static yX4_kindOfBlock ∈ ALL := mem_t 635 (by decide +kernel) (by decide +kernel)
theorem mvX4_kindOfBlock : MS yX4_kindOfBlock cX4_kindOfBlock 1 (Option.some Jvm.ClassFile.FieldType.int) 1 := ⟨q635, q182, q636, by decide +kernel, by decide +kernel, by decide +kernel⟩
theorem q637 : Cond.methodLink "ControlText$Parser" 118 yX4_takeName ∈ ALL := mem_t 637 (by decide +kernel) (by decide +kernel)
theorem q640 : Cond.code yX4_takeName prog_5_method_8_code 2 (Option.some Jvm.ClassFile.FieldType.int) ∈ ALL := mem_t 640 (by decide +kernel) (by decide +kernel)
theorem q639 : Cond.instanceMethod yX4_takeName ∈ ALL := mem_t 639 (by decide +kernel) (by decide +kernel)
theorem q21 : Cond.selects "ControlText$Parser" yX4_takeName yX4_takeName ∈ ALL := mem_t 21 (by decide +kernel) (by decide +kernel)
theorem mvX4_takeName : MV yX4_takeName cX4_takeName 2 (Option.some Jvm.ClassFile.FieldType.int) 0 := ⟨q639, q21, q182, q640, by decide +kernel, by decide +kernel, by decide +kernel⟩
theorem q641 : Cond.methodLink "ControlText$Parser" 122 yX4_simpleType ∈ ALL := mem_t 641 (by decide +kernel) (by decide +kernel)
theorem q644 : Cond.code yX4_simpleType prog_5_method_18_code 2 (Option.none : Option Jvm.ClassFile.FieldType) ∈ ALL := mem_t 644 (by decide +kernel) (by decide +kernel)
theorem q643 : Cond.instanceMethod yX4_simpleType ∈ ALL := mem_t 643 (by decide +kernel) (by decide +kernel)
theorem q22 : Cond.selects "ControlText$Parser" yX4_simpleType yX4_simpleType ∈ ALL := mem_t 22 (by decide +kernel) (by decide +kernel)
theorem mvX4_simpleType : MV yX4_simpleType cX4_simpleType 2 (Option.none : Option Jvm.ClassFile.FieldType) 1 := ⟨q643, q22, q182, q644, by decide +kernel, by decide +kernel, by decide +kernel⟩
theorem q405 : Cond.fieldLink "ControlText$Parser" 32 "ControlText$Parser" "open" "I" ∈ ALL := mem_t 405 (by decide +kernel) (by decide +kernel)
theorem q404 : Cond.fieldLink "ControlText$Parser" 29 "ControlText$Parser" "signs" "I" ∈ ALL := mem_t 404 (by decide +kernel) (by decide +kernel)
theorem q406 : Cond.fieldLink "ControlText$Parser" 35 "ControlText$Parser" "tooDeep" "Z" ∈ ALL := mem_t 406 (by decide +kernel) (by decide +kernel)
theorem q753 : Cond.fieldLink "ControlText$Sign" 15 "ControlText$Sign" "BINDING" "[I" ∈ ALL := mem_t 753 (by decide +kernel) (by decide +kernel)
theorem q759 : Cond.methodLink "ControlText$Tree" 37 yX3_has ∈ ALL := mem_t 759 (by decide +kernel) (by decide +kernel)
theorem q762 : Cond.code yX3_has prog_8_method_3_code 2 (Option.some Jvm.ClassFile.FieldType.boolean) ∈ ALL := mem_t 762 (by decide +kernel) (by decide +kernel)
theorem q761 : Cond.instanceMethod yX3_has ∈ ALL := mem_t 761 (by decide +kernel) (by decide +kernel)
theorem q47 : Cond.selects "ControlText$Tree" yX3_has yX3_has ∈ ALL := mem_t 47 (by decide +kernel) (by decide +kernel)
theorem mvX3_has : MV yX3_has cX3_has 2 (Option.some Jvm.ClassFile.FieldType.boolean) 1 := ⟨q761, q47, q181, q762, by decide +kernel, by decide +kernel, by decide +kernel⟩
theorem q763 : Cond.methodLink "ControlText$Tree" 41 ⟨"java/lang/System", "arraycopy", "(Ljava/lang/Object;ILjava/lang/Object;II)V"⟩ ∈ ALL := mem_t 763 (by decide +kernel) (by decide +kernel)
theorem q765 : Cond.native ⟨"java/lang/System", "arraycopy", "(Ljava/lang/Object;ILjava/lang/Object;II)V"⟩ ∈ ALL := mem_t 765 (by decide +kernel) (by decide +kernel)
theorem q764 : Cond.static ⟨"java/lang/System", "arraycopy", "(Ljava/lang/Object;ILjava/lang/Object;II)V"⟩ ∈ ALL := mem_t 764 (by decide +kernel) (by decide +kernel)
theorem q187 : Cond.initialized "java/lang/System" ∈ ALL := mem_t 187 (by decide +kernel) (by decide +kernel)
theorem q731 : Cond.methodLink "ControlText$Parser" 192 yX4_operand ∈ ALL := mem_t 731 (by decide +kernel) (by decide +kernel)
theorem q734 : Cond.code yX4_operand prog_5_method_33_code 3 (Option.none : Option Jvm.ClassFile.FieldType) ∈ ALL := mem_t 734 (by decide +kernel) (by decide +kernel)
theorem q733 : Cond.instanceMethod yX4_operand ∈ ALL := mem_t 733 (by decide +kernel) (by decide +kernel)
theorem q43 : Cond.selects "ControlText$Parser" yX4_operand yX4_operand ∈ ALL := mem_t 43 (by decide +kernel) (by decide +kernel)
theorem mvX4_operand : MV yX4_operand cX4_operand 3 (Option.none : Option Jvm.ClassFile.FieldType) 1 := ⟨q733, q43, q182, q734, by decide +kernel, by decide +kernel, by decide +kernel⟩
theorem q747 : Cond.methodLink "ControlText$Parser" 195 yX7_operation ∈ ALL := mem_t 747 (by decide +kernel) (by decide +kernel)
theorem q749 : Cond.code yX7_operation prog_6_method_2_code 1 (Option.some Jvm.ClassFile.FieldType.int) ∈ ALL := mem_t 749 (by decide +kernel) (by decide +kernel)
theorem q186 : Cond.initialized "ControlText$Sign" ∈ ALL := mem_t 186 (by decide +kernel) (by decide +kernel)
theorem q748 : Cond.static yX7_operation ∈ ALL := mem_t 748 (by decide +kernel) (by decide +kernel)
theorem mvX7_operation : MS yX7_operation cX7_operation 1 (Option.some Jvm.ClassFile.FieldType.int) 1 := ⟨q748, q186, q749, by decide +kernel, by decide +kernel, by decide +kernel⟩
theorem q750 : Cond.methodLink "ControlText$Parser" 198 yX7_binding ∈ ALL := mem_t 750 (by decide +kernel) (by decide +kernel)
theorem q752 : Cond.code yX7_binding prog_6_method_4_code 1 (Option.some Jvm.ClassFile.FieldType.int) ∈ ALL := mem_t 752 (by decide +kernel) (by decide +kernel)
theorem q751 : Cond.static yX7_binding ∈ ALL := mem_t 751 (by decide +kernel) (by decide +kernel)
theorem mvX7_binding : MS yX7_binding cX7_binding 1 (Option.some Jvm.ClassFile.FieldType.int) 1 := ⟨q751, q186, q752, by decide +kernel, by decide +kernel, by decide +kernel⟩
theorem q719 : Cond.methodLink "ControlText$Parser" 112 yX4_mayOpen ∈ ALL := mem_t 719 (by decide +kernel) (by decide +kernel)
theorem q722 : Cond.code yX4_mayOpen prog_5_method_6_code 1 (Option.some Jvm.ClassFile.FieldType.boolean) ∈ ALL := mem_t 722 (by decide +kernel) (by decide +kernel)
theorem q721 : Cond.instanceMethod yX4_mayOpen ∈ ALL := mem_t 721 (by decide +kernel) (by decide +kernel)
theorem q40 : Cond.selects "ControlText$Parser" yX4_mayOpen yX4_mayOpen ∈ ALL := mem_t 40 (by decide +kernel) (by decide +kernel)
theorem mvX4_mayOpen : MV yX4_mayOpen cX4_mayOpen 1 (Option.some Jvm.ClassFile.FieldType.boolean) 0 := ⟨q721, q40, q182, q722, by decide +kernel, by decide +kernel, by decide +kernel⟩
theorem q755 : Cond.methodLink "ControlText$Parser" 175 yX3_wrap ∈ ALL := mem_t 755 (by decide +kernel) (by decide +kernel)
theorem q758 : Cond.code yX3_wrap prog_8_method_11_code 6 (Option.none : Option Jvm.ClassFile.FieldType) ∈ ALL := mem_t 758 (by decide +kernel) (by decide +kernel)
theorem q756 : Cond.instanceMethod yX3_wrap ∈ ALL := mem_t 756 (by decide +kernel) (by decide +kernel)
theorem q757 : Cond.selects "ControlText$Tree" yX3_wrap yX3_wrap ∈ ALL := mem_t 757 (by decide +kernel) (by decide +kernel)
theorem mvX3_wrap : MV yX3_wrap cX3_wrap 6 (Option.none : Option Jvm.ClassFile.FieldType) 4 := ⟨q756, q757, q181, q758, by decide +kernel, by decide +kernel, by decide +kernel⟩
theorem q727 : Cond.methodLink "ControlText$Parser" 188 yX4_expression ∈ ALL := mem_t 727 (by decide +kernel) (by decide +kernel)
theorem q730 : Cond.code yX4_expression prog_5_method_32_code 7 (Option.none : Option Jvm.ClassFile.FieldType) ∈ ALL := mem_t 730 (by decide +kernel) (by decide +kernel)
theorem q729 : Cond.instanceMethod yX4_expression ∈ ALL := mem_t 729 (by decide +kernel) (by decide +kernel)
theorem q42 : Cond.selects "ControlText$Parser" yX4_expression yX4_expression ∈ ALL := mem_t 42 (by decide +kernel) (by decide +kernel)
theorem mvX4_expression : MV yX4_expression cX4_expression 7 (Option.none : Option Jvm.ClassFile.FieldType) 2 := ⟨q729, q42, q182, q730, by decide +kernel, by decide +kernel, by decide +kernel⟩
theorem q715 : Cond.methodLink "ControlText$Parser" 166 yX4_takeOpening ∈ ALL := mem_t 715 (by decide +kernel) (by decide +kernel)
theorem q718 : Cond.code yX4_takeOpening prog_5_method_5_code 1 (Option.none : Option Jvm.ClassFile.FieldType) ∈ ALL := mem_t 718 (by decide +kernel) (by decide +kernel)
theorem q717 : Cond.instanceMethod yX4_takeOpening ∈ ALL := mem_t 717 (by decide +kernel) (by decide +kernel)
theorem q39 : Cond.selects "ControlText$Parser" yX4_takeOpening yX4_takeOpening ∈ ALL := mem_t 39 (by decide +kernel) (by decide +kernel)
theorem mvX4_takeOpening : MV yX4_takeOpening cX4_takeOpening 1 (Option.none : Option Jvm.ClassFile.FieldType) 0 := ⟨q717, q39, q182, q718, by decide +kernel, by decide +kernel, by decide +kernel⟩
theorem q743 : Cond.methodLink "ControlText$Parser" 179 yX4_takeComma ∈ ALL := mem_t 743 (by decide +kernel) (by decide +kernel)
theorem q746 : Cond.code yX4_takeComma prog_5_method_26_code 1 (Option.some Jvm.ClassFile.FieldType.boolean) ∈ ALL := mem_t 746 (by decide +kernel) (by decide +kernel)
theorem q745 : Cond.instanceMethod yX4_takeComma ∈ ALL := mem_t 745 (by decide +kernel) (by decide +kernel)
theorem q46 : Cond.selects "ControlText$Parser" yX4_takeComma yX4_takeComma ∈ ALL := mem_t 46 (by decide +kernel) (by decide +kernel)
theorem mvX4_takeComma : MV yX4_takeComma cX4_takeComma 1 (Option.some Jvm.ClassFile.FieldType.boolean) 0 := ⟨q745, q46, q182, q746, by decide +kernel, by decide +kernel, by decide +kernel⟩
theorem q735 : Cond.methodLink "ControlText$Parser" 172 yX4_takeClosing ∈ ALL := mem_t 735 (by decide +kernel) (by decide +kernel)
theorem q738 : Cond.code yX4_takeClosing prog_5_method_7_code 2 (Option.none : Option Jvm.ClassFile.FieldType) ∈ ALL := mem_t 738 (by decide +kernel) (by decide +kernel)
theorem q737 : Cond.instanceMethod yX4_takeClosing ∈ ALL := mem_t 737 (by decide +kernel) (by decide +kernel)
theorem q44 : Cond.selects "ControlText$Parser" yX4_takeClosing yX4_takeClosing ∈ ALL := mem_t 44 (by decide +kernel) (by decide +kernel)
theorem mvX4_takeClosing : MV yX4_takeClosing cX4_takeClosing 2 (Option.none : Option Jvm.ClassFile.FieldType) 1 := ⟨q737, q44, q182, q738, by decide +kernel, by decide +kernel, by decide +kernel⟩
theorem q657 : Cond.methodLink "ControlText$Parser" 131 yX4_nameNode ∈ ALL := mem_t 657 (by decide +kernel) (by decide +kernel)
theorem q660 : Cond.code yX4_nameNode prog_5_method_9_code 2 (Option.none : Option Jvm.ClassFile.FieldType) ∈ ALL := mem_t 660 (by decide +kernel) (by decide +kernel)
theorem q659 : Cond.instanceMethod yX4_nameNode ∈ ALL := mem_t 659 (by decide +kernel) (by decide +kernel)
theorem q26 : Cond.selects "ControlText$Parser" yX4_nameNode yX4_nameNode ∈ ALL := mem_t 26 (by decide +kernel) (by decide +kernel)
theorem mvX4_nameNode : MV yX4_nameNode cX4_nameNode 2 (Option.none : Option Jvm.ClassFile.FieldType) 1 := ⟨q659, q26, q182, q660, by decide +kernel, by decide +kernel, by decide +kernel⟩
theorem q739 : Cond.methodLink "ControlText$Parser" 201 yX4_operandByName ∈ ALL := mem_t 739 (by decide +kernel) (by decide +kernel)
theorem q742 : Cond.code yX4_operandByName prog_5_method_34_code 8 (Option.none : Option Jvm.ClassFile.FieldType) ∈ ALL := mem_t 742 (by decide +kernel) (by decide +kernel)
theorem q741 : Cond.instanceMethod yX4_operandByName ∈ ALL := mem_t 741 (by decide +kernel) (by decide +kernel)
theorem q45 : Cond.selects "ControlText$Parser" yX4_operandByName yX4_operandByName ∈ ALL := mem_t 45 (by decide +kernel) (by decide +kernel)
theorem mvX4_operandByName : MV yX4_operandByName cX4_operandByName 8 (Option.none : Option Jvm.ClassFile.FieldType) 1 := ⟨q741, q45, q182, q742, by decide +kernel, by decide +kernel, by decide +kernel⟩
theorem q669 : Cond.methodLink "ControlText$Parser" 142 yX4_literal ∈ ALL := mem_t 669 (by decide +kernel) (by decide +kernel)
theorem q672 : Cond.code yX4_literal prog_5_method_21_code 2 (Option.none : Option Jvm.ClassFile.FieldType) ∈ ALL := mem_t 672 (by decide +kernel) (by decide +kernel)
theorem q671 : Cond.instanceMethod yX4_literal ∈ ALL := mem_t 671 (by decide +kernel) (by decide +kernel)
theorem q29 : Cond.selects "ControlText$Parser" yX4_literal yX4_literal ∈ ALL := mem_t 29 (by decide +kernel) (by decide +kernel)
theorem mvX4_literal : MV yX4_literal cX4_literal 2 (Option.none : Option Jvm.ClassFile.FieldType) 1 := ⟨q671, q29, q182, q672, by decide +kernel, by decide +kernel, by decide +kernel⟩
theorem q723 : Cond.methodLink "ControlText$Parser" 169 yX4_outermostExpression ∈ ALL := mem_t 723 (by decide +kernel) (by decide +kernel)
theorem q726 : Cond.code yX4_outermostExpression prog_5_method_31_code 2 (Option.none : Option Jvm.ClassFile.FieldType) ∈ ALL := mem_t 726 (by decide +kernel) (by decide +kernel)
theorem q725 : Cond.instanceMethod yX4_outermostExpression ∈ ALL := mem_t 725 (by decide +kernel) (by decide +kernel)
theorem q41 : Cond.selects "ControlText$Parser" yX4_outermostExpression yX4_outermostExpression ∈ ALL := mem_t 41 (by decide +kernel) (by decide +kernel)
theorem mvX4_outermostExpression : MV yX4_outermostExpression cX4_outermostExpression 2 (Option.none : Option Jvm.ClassFile.FieldType) 1 := ⟨q725, q41, q182, q726, by decide +kernel, by decide +kernel, by decide +kernel⟩
theorem q665 : Cond.methodLink "ControlText$Parser" 139 yX4_constant ∈ ALL := mem_t 665 (by decide +kernel) (by decide +kernel)
theorem q668 : Cond.code yX4_constant prog_5_method_20_code 3 (Option.none : Option Jvm.ClassFile.FieldType) ∈ ALL := mem_t 668 (by decide +kernel) (by decide +kernel)
theorem q667 : Cond.instanceMethod yX4_constant ∈ ALL := mem_t 667 (by decide +kernel) (by decide +kernel)
theorem q28 : Cond.selects "ControlText$Parser" yX4_constant yX4_constant ∈ ALL := mem_t 28 (by decide +kernel) (by decide +kernel)
theorem mvX4_constant : MV yX4_constant cX4_constant 3 (Option.none : Option Jvm.ClassFile.FieldType) 1 := ⟨q667, q28, q182, q668, by decide +kernel, by decide +kernel, by decide +kernel⟩
theorem q778 : Cond.methodLink "ControlText$Parser" 182 yX4_startsConstant ∈ ALL := mem_t 778 (by decide +kernel) (by decide +kernel)
theorem q781 : Cond.code yX4_startsConstant prog_5_method_19_code 1 (Option.some Jvm.ClassFile.FieldType.boolean) ∈ ALL := mem_t 781 (by decide +kernel) (by decide +kernel)
theorem q780 : Cond.instanceMethod yX4_startsConstant ∈ ALL := mem_t 780 (by decide +kernel) (by decide +kernel)
theorem q51 : Cond.selects "ControlText$Parser" yX4_startsConstant yX4_startsConstant ∈ ALL := mem_t 51 (by decide +kernel) (by decide +kernel)
theorem mvX4_startsConstant : MV yX4_startsConstant cX4_startsConstant 1 (Option.some Jvm.ClassFile.FieldType.boolean) 0 := ⟨q780, q51, q182, q781, by decide +kernel, by decide +kernel, by decide +kernel⟩
theorem q782 : Cond.methodLink "ControlText$Parser" 185 yX4_ranges ∈ ALL := mem_t 782 (by decide +kernel) (by decide +kernel)
theorem q785 : Cond.code yX4_ranges prog_5_method_29_code 5 (Option.none : Option Jvm.ClassFile.FieldType) ∈ ALL := mem_t 785 (by decide +kernel) (by decide +kernel)
theorem q784 : Cond.instanceMethod yX4_ranges ∈ ALL := mem_t 784 (by decide +kernel) (by decide +kernel)
theorem q52 : Cond.selects "ControlText$Parser" yX4_ranges yX4_ranges ∈ ALL := mem_t 52 (by decide +kernel) (by decide +kernel)
theorem mvX4_ranges : MV yX4_ranges cX4_ranges 5 (Option.none : Option Jvm.ClassFile.FieldType) 1 := ⟨q784, q52, q182, q785, by decide +kernel, by decide +kernel, by decide +kernel⟩
theorem q703 : Cond.methodLink "ControlText$Parser" 70 yX4_body ∈ ALL := mem_t 703 (by decide +kernel) (by decide +kernel)
theorem q706 : Cond.code yX4_body prog_5_method_22_code 5 (Option.none : Option Jvm.ClassFile.FieldType) ∈ ALL := mem_t 706 (by decide +kernel) (by decide +kernel)
theorem q705 : Cond.instanceMethod yX4_body ∈ ALL := mem_t 705 (by decide +kernel) (by decide +kernel)
theorem q36 : Cond.selects "ControlText$Parser" yX4_body yX4_body ∈ ALL := mem_t 36 (by decide +kernel) (by decide +kernel)
theorem mvX4_body : MV yX4_body cX4_body 5 (Option.none : Option Jvm.ClassFile.FieldType) 1 := ⟨q705, q36, q182, q706, by decide +kernel, by decide +kernel, by decide +kernel⟩
theorem q766 : Cond.methodLink "ControlText$Parser" 153 yX4_assignment ∈ ALL := mem_t 766 (by decide +kernel) (by decide +kernel)
theorem q769 : Cond.code yX4_assignment prog_5_method_24_code 6 (Option.none : Option Jvm.ClassFile.FieldType) ∈ ALL := mem_t 769 (by decide +kernel) (by decide +kernel)
theorem q768 : Cond.instanceMethod yX4_assignment ∈ ALL := mem_t 768 (by decide +kernel) (by decide +kernel)
theorem q48 : Cond.selects "ControlText$Parser" yX4_assignment yX4_assignment ∈ ALL := mem_t 48 (by decide +kernel) (by decide +kernel)
theorem mvX4_assignment : MV yX4_assignment cX4_assignment 6 (Option.none : Option Jvm.ClassFile.FieldType) 3 := ⟨q768, q48, q182, q769, by decide +kernel, by decide +kernel, by decide +kernel⟩
theorem q711 : Cond.methodLink "ControlText$Parser" 149 yX4_invocation ∈ ALL := mem_t 711 (by decide +kernel) (by decide +kernel)
theorem q714 : Cond.code yX4_invocation prog_5_method_25_code 9 (Option.none : Option Jvm.ClassFile.FieldType) ∈ ALL := mem_t 714 (by decide +kernel) (by decide +kernel)
theorem q713 : Cond.instanceMethod yX4_invocation ∈ ALL := mem_t 713 (by decide +kernel) (by decide +kernel)
theorem q38 : Cond.selects "ControlText$Parser" yX4_invocation yX4_invocation ∈ ALL := mem_t 38 (by decide +kernel) (by decide +kernel)
theorem mvX4_invocation : MV yX4_invocation cX4_invocation 9 (Option.none : Option Jvm.ClassFile.FieldType) 3 := ⟨q713, q38, q182, q714, by decide +kernel, by decide +kernel, by decide +kernel⟩
theorem q770 : Cond.methodLink "ControlText$Parser" 156 yX4_ifStatement ∈ ALL := mem_t 770 (by decide +kernel) (by decide +kernel)
theorem q773 : Cond.code yX4_ifStatement prog_5_method_27_code 4 (Option.none : Option Jvm.ClassFile.FieldType) ∈ ALL := mem_t 773 (by decide +kernel) (by decide +kernel)
theorem q772 : Cond.instanceMethod yX4_ifStatement ∈ ALL := mem_t 772 (by decide +kernel) (by decide +kernel)
theorem q49 : Cond.selects "ControlText$Parser" yX4_ifStatement yX4_ifStatement ∈ ALL := mem_t 49 (by decide +kernel) (by decide +kernel)
theorem mvX4_ifStatement : MV yX4_ifStatement cX4_ifStatement 4 (Option.none : Option Jvm.ClassFile.FieldType) 1 := ⟨q772, q49, q182, q773, by decide +kernel, by decide +kernel, by decide +kernel⟩
theorem q774 : Cond.methodLink "ControlText$Parser" 159 yX4_caseStatement ∈ ALL := mem_t 774 (by decide +kernel) (by decide +kernel)
theorem q777 : Cond.code yX4_caseStatement prog_5_method_28_code 5 (Option.none : Option Jvm.ClassFile.FieldType) ∈ ALL := mem_t 777 (by decide +kernel) (by decide +kernel)
theorem q776 : Cond.instanceMethod yX4_caseStatement ∈ ALL := mem_t 776 (by decide +kernel) (by decide +kernel)
theorem q50 : Cond.selects "ControlText$Parser" yX4_caseStatement yX4_caseStatement ∈ ALL := mem_t 50 (by decide +kernel) (by decide +kernel)
theorem mvX4_caseStatement : MV yX4_caseStatement cX4_caseStatement 5 (Option.none : Option Jvm.ClassFile.FieldType) 1 := ⟨q776, q50, q182, q777, by decide +kernel, by decide +kernel, by decide +kernel⟩
theorem q786 : Cond.methodLink "ControlText$Parser" 162 yX4_forStatement ∈ ALL := mem_t 786 (by decide +kernel) (by decide +kernel)
theorem q789 : Cond.code yX4_forStatement prog_5_method_30_code 4 (Option.none : Option Jvm.ClassFile.FieldType) ∈ ALL := mem_t 789 (by decide +kernel) (by decide +kernel)
theorem q788 : Cond.instanceMethod yX4_forStatement ∈ ALL := mem_t 788 (by decide +kernel) (by decide +kernel)
theorem q53 : Cond.selects "ControlText$Parser" yX4_forStatement yX4_forStatement ∈ ALL := mem_t 53 (by decide +kernel) (by decide +kernel)
theorem mvX4_forStatement : MV yX4_forStatement cX4_forStatement 4 (Option.none : Option Jvm.ClassFile.FieldType) 1 := ⟨q788, q53, q182, q789, by decide +kernel, by decide +kernel, by decide +kernel⟩
theorem q707 : Cond.methodLink "ControlText$Parser" 145 yX4_statement ∈ ALL := mem_t 707 (by decide +kernel) (by decide +kernel)
theorem q710 : Cond.code yX4_statement prog_5_method_23_code 4 (Option.some Jvm.ClassFile.FieldType.boolean) ∈ ALL := mem_t 710 (by decide +kernel) (by decide +kernel)
theorem q709 : Cond.instanceMethod yX4_statement ∈ ALL := mem_t 709 (by decide +kernel) (by decide +kernel)
theorem q37 : Cond.selects "ControlText$Parser" yX4_statement yX4_statement ∈ ALL := mem_t 37 (by decide +kernel) (by decide +kernel)
theorem mvX4_statement : MV yX4_statement cX4_statement 4 (Option.some Jvm.ClassFile.FieldType.boolean) 1 := ⟨q709, q37, q182, q710, by decide +kernel, by decide +kernel, by decide +kernel⟩
theorem q689 : Cond.methodLink "ControlText$Parser" 222 yX4_coilValue ∈ ALL := mem_t 689 (by decide +kernel) (by decide +kernel)
theorem q691 : Cond.code yX4_coilValue prog_5_method_42_code 1 (Option.some Jvm.ClassFile.FieldType.int) ∈ ALL := mem_t 691 (by decide +kernel) (by decide +kernel)
theorem q690 : Cond.static yX4_coilValue ∈ ALL := mem_t 690 (by decide +kernel) (by decide +kernel)
theorem mvX4_coilValue : MS yX4_coilValue cX4_coilValue 1 (Option.some Jvm.ClassFile.FieldType.int) 1 := ⟨q690, q182, q691, by decide +kernel, by decide +kernel, by decide +kernel⟩
theorem q696 : Cond.methodLink "ControlText$Parser" 219 yX4_contactValue ∈ ALL := mem_t 696 (by decide +kernel) (by decide +kernel)
theorem q698 : Cond.code yX4_contactValue prog_5_method_40_code 1 (Option.some Jvm.ClassFile.FieldType.int) ∈ ALL := mem_t 698 (by decide +kernel) (by decide +kernel)
theorem q697 : Cond.static yX4_contactValue ∈ ALL := mem_t 697 (by decide +kernel) (by decide +kernel)
theorem mvX4_contactValue : MS yX4_contactValue cX4_contactValue 1 (Option.some Jvm.ClassFile.FieldType.int) 1 := ⟨q697, q182, q698, by decide +kernel, by decide +kernel, by decide +kernel⟩
theorem q692 : Cond.methodLink "ControlText$Parser" 216 yX4_contact ∈ ALL := mem_t 692 (by decide +kernel) (by decide +kernel)
theorem q695 : Cond.code yX4_contact prog_5_method_39_code 6 (Option.none : Option Jvm.ClassFile.FieldType) ∈ ALL := mem_t 695 (by decide +kernel) (by decide +kernel)
theorem q694 : Cond.instanceMethod yX4_contact ∈ ALL := mem_t 694 (by decide +kernel) (by decide +kernel)
theorem q34 : Cond.selects "ControlText$Parser" yX4_contact yX4_contact ∈ ALL := mem_t 34 (by decide +kernel) (by decide +kernel)
theorem mvX4_contact : MV yX4_contact cX4_contact 6 (Option.none : Option Jvm.ClassFile.FieldType) 1 := ⟨q694, q34, q182, q695, by decide +kernel, by decide +kernel, by decide +kernel⟩
theorem q685 : Cond.methodLink "ControlText$Parser" 213 yX4_coil ∈ ALL := mem_t 685 (by decide +kernel) (by decide +kernel)
theorem q688 : Cond.code yX4_coil prog_5_method_41_code 5 (Option.none : Option Jvm.ClassFile.FieldType) ∈ ALL := mem_t 688 (by decide +kernel) (by decide +kernel)
theorem q687 : Cond.instanceMethod yX4_coil ∈ ALL := mem_t 687 (by decide +kernel) (by decide +kernel)
theorem q33 : Cond.selects "ControlText$Parser" yX4_coil yX4_coil ∈ ALL := mem_t 33 (by decide +kernel) (by decide +kernel)
theorem mvX4_coil : MV yX4_coil cX4_coil 5 (Option.none : Option Jvm.ClassFile.FieldType) 1 := ⟨q687, q33, q182, q688, by decide +kernel, by decide +kernel, by decide +kernel⟩
theorem q681 : Cond.methodLink "ControlText$Parser" 210 yX4_cell ∈ ALL := mem_t 681 (by decide +kernel) (by decide +kernel)
theorem q684 : Cond.code yX4_cell prog_5_method_38_code 2 (Option.none : Option Jvm.ClassFile.FieldType) ∈ ALL := mem_t 684 (by decide +kernel) (by decide +kernel)
theorem q683 : Cond.instanceMethod yX4_cell ∈ ALL := mem_t 683 (by decide +kernel) (by decide +kernel)
theorem q32 : Cond.selects "ControlText$Parser" yX4_cell yX4_cell ∈ ALL := mem_t 32 (by decide +kernel) (by decide +kernel)
theorem mvX4_cell : MV yX4_cell cX4_cell 2 (Option.none : Option Jvm.ClassFile.FieldType) 1 := ⟨q683, q32, q182, q684, by decide +kernel, by decide +kernel, by decide +kernel⟩
theorem q699 : Cond.methodLink "ControlText$Parser" 207 yX4_startsCell ∈ ALL := mem_t 699 (by decide +kernel) (by decide +kernel)
theorem q702 : Cond.code yX4_startsCell prog_5_method_36_code 1 (Option.some Jvm.ClassFile.FieldType.boolean) ∈ ALL := mem_t 702 (by decide +kernel) (by decide +kernel)
theorem q701 : Cond.instanceMethod yX4_startsCell ∈ ALL := mem_t 701 (by decide +kernel) (by decide +kernel)
theorem q35 : Cond.selects "ControlText$Parser" yX4_startsCell yX4_startsCell ∈ ALL := mem_t 35 (by decide +kernel) (by decide +kernel)
theorem mvX4_startsCell : MV yX4_startsCell cX4_startsCell 1 (Option.some Jvm.ClassFile.FieldType.boolean) 0 := ⟨q701, q35, q182, q702, by decide +kernel, by decide +kernel, by decide +kernel⟩
theorem q677 : Cond.methodLink "ControlText$Parser" 204 yX4_row ∈ ALL := mem_t 677 (by decide +kernel) (by decide +kernel)
theorem q680 : Cond.code yX4_row prog_5_method_37_code 4 (Option.none : Option Jvm.ClassFile.FieldType) ∈ ALL := mem_t 680 (by decide +kernel) (by decide +kernel)
theorem q679 : Cond.instanceMethod yX4_row ∈ ALL := mem_t 679 (by decide +kernel) (by decide +kernel)
theorem q31 : Cond.selects "ControlText$Parser" yX4_row yX4_row ∈ ALL := mem_t 31 (by decide +kernel) (by decide +kernel)
theorem mvX4_row : MV yX4_row cX4_row 4 (Option.none : Option Jvm.ClassFile.FieldType) 1 := ⟨q679, q31, q182, q680, by decide +kernel, by decide +kernel, by decide +kernel⟩
theorem q661 : Cond.methodLink "ControlText$Parser" 134 yX4_type ∈ ALL := mem_t 661 (by decide +kernel) (by decide +kernel)
theorem q664 : Cond.code yX4_type prog_5_method_17_code 3 (Option.none : Option Jvm.ClassFile.FieldType) ∈ ALL := mem_t 664 (by decide +kernel) (by decide +kernel)
theorem q663 : Cond.instanceMethod yX4_type ∈ ALL := mem_t 663 (by decide +kernel) (by decide +kernel)
theorem q27 : Cond.selects "ControlText$Parser" yX4_type yX4_type ∈ ALL := mem_t 27 (by decide +kernel) (by decide +kernel)
theorem mvX4_type : MV yX4_type cX4_type 3 (Option.none : Option Jvm.ClassFile.FieldType) 1 := ⟨q663, q27, q182, q664, by decide +kernel, by decide +kernel, by decide +kernel⟩
theorem q649 : Cond.methodLink "ControlText$Parser" 125 yX4_startsSection ∈ ALL := mem_t 649 (by decide +kernel) (by decide +kernel)
theorem q652 : Cond.code yX4_startsSection prog_5_method_14_code 1 (Option.some Jvm.ClassFile.FieldType.boolean) ∈ ALL := mem_t 652 (by decide +kernel) (by decide +kernel)
theorem q651 : Cond.instanceMethod yX4_startsSection ∈ ALL := mem_t 651 (by decide +kernel) (by decide +kernel)
theorem q24 : Cond.selects "ControlText$Parser" yX4_startsSection yX4_startsSection ∈ ALL := mem_t 24 (by decide +kernel) (by decide +kernel)
theorem mvX4_startsSection : MV yX4_startsSection cX4_startsSection 1 (Option.some Jvm.ClassFile.FieldType.boolean) 0 := ⟨q651, q24, q182, q652, by decide +kernel, by decide +kernel, by decide +kernel⟩
theorem q653 : Cond.methodLink "ControlText$Parser" 128 yX4_declaration ∈ ALL := mem_t 653 (by decide +kernel) (by decide +kernel)
theorem q656 : Cond.code yX4_declaration prog_5_method_16_code 4 (Option.none : Option Jvm.ClassFile.FieldType) ∈ ALL := mem_t 656 (by decide +kernel) (by decide +kernel)
theorem q655 : Cond.instanceMethod yX4_declaration ∈ ALL := mem_t 655 (by decide +kernel) (by decide +kernel)
theorem q25 : Cond.selects "ControlText$Parser" yX4_declaration yX4_declaration ∈ ALL := mem_t 25 (by decide +kernel) (by decide +kernel)
theorem mvX4_declaration : MV yX4_declaration cX4_declaration 4 (Option.none : Option Jvm.ClassFile.FieldType) 1 := ⟨q655, q25, q182, q656, by decide +kernel, by decide +kernel, by decide +kernel⟩
theorem q339 : Cond.fieldLink "ControlText$Tokens" 29 "ControlText$Tokens" "size" "I" ∈ ALL := mem_t 339 (by decide +kernel) (by decide +kernel)
theorem q333 : Cond.fieldLink "ControlText$Tokens" 11 "ControlText$Tokens" "kinds" "[I" ∈ ALL := mem_t 333 (by decide +kernel) (by decide +kernel)
theorem q335 : Cond.fieldLink "ControlText$Tokens" 15 "ControlText$Tokens" "places" "[I" ∈ ALL := mem_t 335 (by decide +kernel) (by decide +kernel)
theorem q337 : Cond.fieldLink "ControlText$Tokens" 18 "ControlText$Tokens" "values" "[I" ∈ ALL := mem_t 337 (by decide +kernel) (by decide +kernel)
theorem q797 : Cond.methodLink "ControlText$Parser" 81 yX2_kind ∈ ALL := mem_t 797 (by decide +kernel) (by decide +kernel)
theorem q609 : Cond.code yX2_kind prog_7_method_2_code 2 (Option.some Jvm.ClassFile.FieldType.int) ∈ ALL := mem_t 609 (by decide +kernel) (by decide +kernel)
theorem q180 : Cond.initialized "ControlText$Tokens" ∈ ALL := mem_t 180 (by decide +kernel) (by decide +kernel)
theorem q607 : Cond.instanceMethod yX2_kind ∈ ALL := mem_t 607 (by decide +kernel) (by decide +kernel)
theorem q608 : Cond.selects "ControlText$Tokens" yX2_kind yX2_kind ∈ ALL := mem_t 608 (by decide +kernel) (by decide +kernel)
theorem mvX2_kind : MV yX2_kind cX2_kind 2 (Option.some Jvm.ClassFile.FieldType.int) 1 := ⟨q607, q608, q180, q609, by decide +kernel, by decide +kernel, by decide +kernel⟩
theorem q407 : Cond.fieldLink "ControlText$Parser" 83 "ControlText$Parser" "fault" "I" ∈ ALL := mem_t 407 (by decide +kernel) (by decide +kernel)
theorem q802 : Cond.methodLink "ControlText$Parser" 89 yX2_place ∈ ALL := mem_t 802 (by decide +kernel) (by decide +kernel)
theorem q805 : Cond.code yX2_place prog_7_method_3_code 2 (Option.some Jvm.ClassFile.FieldType.int) ∈ ALL := mem_t 805 (by decide +kernel) (by decide +kernel)
theorem q803 : Cond.instanceMethod yX2_place ∈ ALL := mem_t 803 (by decide +kernel) (by decide +kernel)
theorem q804 : Cond.selects "ControlText$Tokens" yX2_place yX2_place ∈ ALL := mem_t 804 (by decide +kernel) (by decide +kernel)
theorem mvX2_place : MV yX2_place cX2_place 2 (Option.some Jvm.ClassFile.FieldType.int) 1 := ⟨q803, q804, q180, q805, by decide +kernel, by decide +kernel, by decide +kernel⟩
theorem q409 : Cond.fieldLink "ControlText$Parser" 9 "ControlText$Parser" "faultPlace" "I" ∈ ALL := mem_t 409 (by decide +kernel) (by decide +kernel)
theorem q798 : Cond.methodLink "ControlText$Parser" 86 yX2_value ∈ ALL := mem_t 798 (by decide +kernel) (by decide +kernel)
theorem q801 : Cond.code yX2_value prog_7_method_4_code 2 (Option.some Jvm.ClassFile.FieldType.int) ∈ ALL := mem_t 801 (by decide +kernel) (by decide +kernel)
theorem q799 : Cond.instanceMethod yX2_value ∈ ALL := mem_t 799 (by decide +kernel) (by decide +kernel)
theorem q800 : Cond.selects "ControlText$Tokens" yX2_value yX2_value ∈ ALL := mem_t 800 (by decide +kernel) (by decide +kernel)
theorem mvX2_value : MV yX2_value cX2_value 2 (Option.some Jvm.ClassFile.FieldType.int) 1 := ⟨q799, q800, q180, q801, by decide +kernel, by decide +kernel, by decide +kernel⟩
theorem q618 : Cond.methodLink "ControlText$Parser" 43 yX3_forget ∈ ALL := mem_t 618 (by decide +kernel) (by decide +kernel)
theorem q621 : Cond.code yX3_forget prog_8_method_2_code 1 (Option.none : Option Jvm.ClassFile.FieldType) ∈ ALL := mem_t 621 (by decide +kernel) (by decide +kernel)
theorem q619 : Cond.instanceMethod yX3_forget ∈ ALL := mem_t 619 (by decide +kernel) (by decide +kernel)
theorem q620 : Cond.selects "ControlText$Tree" yX3_forget yX3_forget ∈ ALL := mem_t 620 (by decide +kernel) (by decide +kernel)
theorem mvX3_forget : MV yX3_forget cX3_forget 1 (Option.none : Option Jvm.ClassFile.FieldType) 0 := ⟨q619, q620, q181, q621, by decide +kernel, by decide +kernel, by decide +kernel⟩
theorem q626 : Cond.methodLink "ControlText$Parser" 54 yX4_startsBlock ∈ ALL := mem_t 626 (by decide +kernel) (by decide +kernel)
theorem q629 : Cond.code yX4_startsBlock prog_5_method_10_code 1 (Option.some Jvm.ClassFile.FieldType.boolean) ∈ ALL := mem_t 629 (by decide +kernel) (by decide +kernel)
theorem q628 : Cond.instanceMethod yX4_startsBlock ∈ ALL := mem_t 628 (by decide +kernel) (by decide +kernel)
theorem q19 : Cond.selects "ControlText$Parser" yX4_startsBlock yX4_startsBlock ∈ ALL := mem_t 19 (by decide +kernel) (by decide +kernel)
theorem mvX4_startsBlock : MV yX4_startsBlock cX4_startsBlock 1 (Option.some Jvm.ClassFile.FieldType.boolean) 0 := ⟨q628, q19, q182, q629, by decide +kernel, by decide +kernel, by decide +kernel⟩
theorem q630 : Cond.methodLink "ControlText$Parser" 58 yX4_blockHead ∈ ALL := mem_t 630 (by decide +kernel) (by decide +kernel)
theorem q633 : Cond.code yX4_blockHead prog_5_method_13_code 5 (Option.some Jvm.ClassFile.FieldType.int) ∈ ALL := mem_t 633 (by decide +kernel) (by decide +kernel)
theorem q632 : Cond.instanceMethod yX4_blockHead ∈ ALL := mem_t 632 (by decide +kernel) (by decide +kernel)
theorem q20 : Cond.selects "ControlText$Parser" yX4_blockHead yX4_blockHead ∈ ALL := mem_t 20 (by decide +kernel) (by decide +kernel)
theorem mvX4_blockHead : MV yX4_blockHead cX4_blockHead 5 (Option.some Jvm.ClassFile.FieldType.int) 1 := ⟨q632, q20, q182, q633, by decide +kernel, by decide +kernel, by decide +kernel⟩
theorem q645 : Cond.methodLink "ControlText$Parser" 62 yX4_sections ∈ ALL := mem_t 645 (by decide +kernel) (by decide +kernel)
theorem q648 : Cond.code yX4_sections prog_5_method_15_code 5 (Option.none : Option Jvm.ClassFile.FieldType) ∈ ALL := mem_t 648 (by decide +kernel) (by decide +kernel)
theorem q647 : Cond.instanceMethod yX4_sections ∈ ALL := mem_t 647 (by decide +kernel) (by decide +kernel)
theorem q23 : Cond.selects "ControlText$Parser" yX4_sections yX4_sections ∈ ALL := mem_t 23 (by decide +kernel) (by decide +kernel)
theorem mvX4_sections : MV yX4_sections cX4_sections 5 (Option.none : Option Jvm.ClassFile.FieldType) 1 := ⟨q647, q23, q182, q648, by decide +kernel, by decide +kernel, by decide +kernel⟩
theorem q790 : Cond.methodLink "ControlText$Parser" 73 yX4_endOfBlock ∈ ALL := mem_t 790 (by decide +kernel) (by decide +kernel)
theorem q792 : Cond.code yX4_endOfBlock prog_5_method_11_code 1 (Option.some Jvm.ClassFile.FieldType.int) ∈ ALL := mem_t 792 (by decide +kernel) (by decide +kernel)
theorem q791 : Cond.static yX4_endOfBlock ∈ ALL := mem_t 791 (by decide +kernel) (by decide +kernel)
theorem mvX4_endOfBlock : MS yX4_endOfBlock cX4_endOfBlock 1 (Option.some Jvm.ClassFile.FieldType.int) 1 := ⟨q791, q182, q792, by decide +kernel, by decide +kernel, by decide +kernel⟩
theorem q673 : Cond.methodLink "ControlText$Parser" 67 yX4_ladder ∈ ALL := mem_t 673 (by decide +kernel) (by decide +kernel)
theorem q676 : Cond.code yX4_ladder prog_5_method_35_code 6 (Option.none : Option Jvm.ClassFile.FieldType) ∈ ALL := mem_t 676 (by decide +kernel) (by decide +kernel)
theorem q675 : Cond.instanceMethod yX4_ladder ∈ ALL := mem_t 675 (by decide +kernel) (by decide +kernel)
theorem q30 : Cond.selects "ControlText$Parser" yX4_ladder yX4_ladder ∈ ALL := mem_t 30 (by decide +kernel) (by decide +kernel)
theorem mvX4_ladder : MV yX4_ladder cX4_ladder 6 (Option.none : Option Jvm.ClassFile.FieldType) 1 := ⟨q675, q30, q182, q676, by decide +kernel, by decide +kernel, by decide +kernel⟩
theorem q793 : Cond.methodLink "ControlText$Parser" 78 yX4_tellFault ∈ ALL := mem_t 793 (by decide +kernel) (by decide +kernel)
theorem q796 : Cond.code yX4_tellFault prog_5_method_3_code 2 (Option.none : Option Jvm.ClassFile.FieldType) ∈ ALL := mem_t 796 (by decide +kernel) (by decide +kernel)
theorem q795 : Cond.instanceMethod yX4_tellFault ∈ ALL := mem_t 795 (by decide +kernel) (by decide +kernel)
theorem q54 : Cond.selects "ControlText$Parser" yX4_tellFault yX4_tellFault ∈ ALL := mem_t 54 (by decide +kernel) (by decide +kernel)
theorem mvX4_tellFault : MV yX4_tellFault cX4_tellFault 2 (Option.none : Option Jvm.ClassFile.FieldType) 0 := ⟨q795, q54, q182, q796, by decide +kernel, by decide +kernel, by decide +kernel⟩
theorem q304 : Cond.fieldLink "ControlText$Names" 11 "ControlText$Names" "letters" "[I" ∈ ALL := mem_t 304 (by decide +kernel) (by decide +kernel)
theorem q298 : Cond.code yX6_great prog_1_method_16_code 1 (Option.some Jvm.ClassFile.FieldType.int) ∈ ALL := mem_t 298 (by decide +kernel) (by decide +kernel)
theorem q297 : Cond.static yX6_great ∈ ALL := mem_t 297 (by decide +kernel) (by decide +kernel)
theorem mvX6_great : MS yX6_great cX6_great 1 (Option.some Jvm.ClassFile.FieldType.int) 1 := ⟨q297, q173, q298, by decide +kernel, by decide +kernel, by decide +kernel⟩
theorem q280 : Cond.methodLink "ControlText$Names" 80 yX1_startOf ∈ ALL := mem_t 280 (by decide +kernel) (by decide +kernel)
theorem q283 : Cond.code yX1_startOf prog_4_method_9_code 2 (Option.some Jvm.ClassFile.FieldType.int) ∈ ALL := mem_t 283 (by decide +kernel) (by decide +kernel)
theorem q175 : Cond.initialized "ControlText$Names" ∈ ALL := mem_t 175 (by decide +kernel) (by decide +kernel)
theorem q282 : Cond.instanceMethod yX1_startOf ∈ ALL := mem_t 282 (by decide +kernel) (by decide +kernel)
theorem q2 : Cond.selects "ControlText$Names" yX1_startOf yX1_startOf ∈ ALL := mem_t 2 (by decide +kernel) (by decide +kernel)
theorem mvX1_startOf : MV yX1_startOf cX1_startOf 2 (Option.some Jvm.ClassFile.FieldType.int) 1 := ⟨q282, q2, q175, q283, by decide +kernel, by decide +kernel, by decide +kernel⟩
theorem q276 : Cond.methodLink "ControlText$Names" 70 yX1_firstSlot ∈ ALL := mem_t 276 (by decide +kernel) (by decide +kernel)
theorem q279 : Cond.code yX1_firstSlot prog_4_method_6_code 3 (Option.some Jvm.ClassFile.FieldType.int) ∈ ALL := mem_t 279 (by decide +kernel) (by decide +kernel)
theorem q278 : Cond.instanceMethod yX1_firstSlot ∈ ALL := mem_t 278 (by decide +kernel) (by decide +kernel)
theorem q1 : Cond.selects "ControlText$Names" yX1_firstSlot yX1_firstSlot ∈ ALL := mem_t 1 (by decide +kernel) (by decide +kernel)
theorem mvX1_firstSlot : MV yX1_firstSlot cX1_firstSlot 3 (Option.some Jvm.ClassFile.FieldType.int) 0 := ⟨q278, q1, q175, q279, by decide +kernel, by decide +kernel, by decide +kernel⟩
theorem q288 : Cond.methodLink "ControlText$Names" 76 yX1_isAddedLast ∈ ALL := mem_t 288 (by decide +kernel) (by decide +kernel)
theorem q291 : Cond.code yX1_isAddedLast prog_4_method_8_code 6 (Option.some Jvm.ClassFile.FieldType.boolean) ∈ ALL := mem_t 291 (by decide +kernel) (by decide +kernel)
theorem q290 : Cond.instanceMethod yX1_isAddedLast ∈ ALL := mem_t 290 (by decide +kernel) (by decide +kernel)
theorem q4 : Cond.selects "ControlText$Names" yX1_isAddedLast yX1_isAddedLast ∈ ALL := mem_t 4 (by decide +kernel) (by decide +kernel)
theorem mvX1_isAddedLast : MV yX1_isAddedLast cX1_isAddedLast 6 (Option.some Jvm.ClassFile.FieldType.boolean) 1 := ⟨q290, q4, q175, q291, by decide +kernel, by decide +kernel, by decide +kernel⟩
theorem q284 : Cond.methodLink "ControlText$Names" 73 yX1_keep ∈ ALL := mem_t 284 (by decide +kernel) (by decide +kernel)
theorem q287 : Cond.code yX1_keep prog_4_method_7_code 3 (Option.some Jvm.ClassFile.FieldType.int) ∈ ALL := mem_t 287 (by decide +kernel) (by decide +kernel)
theorem q286 : Cond.instanceMethod yX1_keep ∈ ALL := mem_t 286 (by decide +kernel) (by decide +kernel)
theorem q3 : Cond.selects "ControlText$Names" yX1_keep yX1_keep ∈ ALL := mem_t 3 (by decide +kernel) (by decide +kernel)
theorem mvX1_keep : MV yX1_keep cX1_keep 3 (Option.some Jvm.ClassFile.FieldType.int) 1 := ⟨q286, q3, q175, q287, by decide +kernel, by decide +kernel, by decide +kernel⟩
theorem q341 : Cond.fieldLink "ControlText$Tokens" 38 "ControlText$Tokens" "at" "I" ∈ ALL := mem_t 341 (by decide +kernel) (by decide +kernel)
theorem q331 : Cond.fieldLink "ControlText$Tokens" 21 "ControlText$Tokens" "text" "LControlText$Bytes;" ∈ ALL := mem_t 331 (by decide +kernel) (by decide +kernel)
theorem q530 : Cond.methodLink "ControlText$Tokens" 52 yX0_get ∈ ALL := mem_t 530 (by decide +kernel) (by decide +kernel)
theorem q573 : Cond.code yX6_isNameByte prog_1_method_15_code 1 (Option.some Jvm.ClassFile.FieldType.boolean) ∈ ALL := mem_t 573 (by decide +kernel) (by decide +kernel)
theorem q572 : Cond.static yX6_isNameByte ∈ ALL := mem_t 572 (by decide +kernel) (by decide +kernel)
theorem mvX6_isNameByte : MS yX6_isNameByte cX6_isNameByte 1 (Option.some Jvm.ClassFile.FieldType.boolean) 1 := ⟨q572, q173, q573, by decide +kernel, by decide +kernel, by decide +kernel⟩
theorem q332 : Cond.fieldLink "ControlText$Tokens" 25 "ControlText$Tokens" "names" "LControlText$Names;" ∈ ALL := mem_t 332 (by decide +kernel) (by decide +kernel)
theorem q584 : Cond.methodLink "ControlText$Tokens" 90 yX1_addLetter ∈ ALL := mem_t 584 (by decide +kernel) (by decide +kernel)
theorem q295 : Cond.code yX1_addLetter prog_4_method_4_code 2 (Option.none : Option Jvm.ClassFile.FieldType) ∈ ALL := mem_t 295 (by decide +kernel) (by decide +kernel)
theorem q293 : Cond.instanceMethod yX1_addLetter ∈ ALL := mem_t 293 (by decide +kernel) (by decide +kernel)
theorem q294 : Cond.selects "ControlText$Names" yX1_addLetter yX1_addLetter ∈ ALL := mem_t 294 (by decide +kernel) (by decide +kernel)
theorem mvX1_addLetter : MV yX1_addLetter cX1_addLetter 2 (Option.none : Option Jvm.ClassFile.FieldType) 1 := ⟨q293, q294, q175, q295, by decide +kernel, by decide +kernel, by decide +kernel⟩
theorem q585 : Cond.methodLink "ControlText$Tokens" 94 yX1_number ∈ ALL := mem_t 585 (by decide +kernel) (by decide +kernel)
theorem q275 : Cond.code yX1_number prog_4_method_5_code 4 (Option.some Jvm.ClassFile.FieldType.int) ∈ ALL := mem_t 275 (by decide +kernel) (by decide +kernel)
theorem q273 : Cond.instanceMethod yX1_number ∈ ALL := mem_t 273 (by decide +kernel) (by decide +kernel)
theorem q274 : Cond.selects "ControlText$Names" yX1_number yX1_number ∈ ALL := mem_t 274 (by decide +kernel) (by decide +kernel)
theorem mvX1_number : MV yX1_number cX1_number 4 (Option.some Jvm.ClassFile.FieldType.int) 0 := ⟨q273, q274, q175, q275, by decide +kernel, by decide +kernel, by decide +kernel⟩
theorem q535 : Cond.methodLink "ControlText$Tokens" 57 yX2_add ∈ ALL := mem_t 535 (by decide +kernel) (by decide +kernel)
theorem q538 : Cond.code yX2_add prog_7_method_6_code 4 (Option.none : Option Jvm.ClassFile.FieldType) ∈ ALL := mem_t 538 (by decide +kernel) (by decide +kernel)
theorem q537 : Cond.instanceMethod yX2_add ∈ ALL := mem_t 537 (by decide +kernel) (by decide +kernel)
theorem q9 : Cond.selects "ControlText$Tokens" yX2_add yX2_add ∈ ALL := mem_t 9 (by decide +kernel) (by decide +kernel)
theorem mvX2_add : MV yX2_add cX2_add 4 (Option.none : Option Jvm.ClassFile.FieldType) 3 := ⟨q537, q9, q180, q538, by decide +kernel, by decide +kernel, by decide +kernel⟩
theorem q570 : Cond.constantLong "ControlText$Tokens" 118 2147483647 ∈ ALL := mem_t 570 (by decide +kernel) (by decide +kernel)
theorem q553 : Cond.code yX6_isDigit prog_1_method_14_code 1 (Option.some Jvm.ClassFile.FieldType.boolean) ∈ ALL := mem_t 553 (by decide +kernel) (by decide +kernel)
theorem q552 : Cond.static yX6_isDigit ∈ ALL := mem_t 552 (by decide +kernel) (by decide +kernel)
theorem mvX6_isDigit : MS yX6_isDigit cX6_isDigit 1 (Option.some Jvm.ClassFile.FieldType.boolean) 1 := ⟨q552, q173, q553, by decide +kernel, by decide +kernel, by decide +kernel⟩
theorem q558 : Cond.constantLong "ControlText$Tokens" 108 (-1) ∈ ALL := mem_t 558 (by decide +kernel) (by decide +kernel)
theorem q548 : Cond.methodLink "ControlText$Tokens" 120 yX2_digit ∈ ALL := mem_t 548 (by decide +kernel) (by decide +kernel)
theorem q550 : Cond.code yX2_digit prog_7_method_15_code 2 (Option.some Jvm.ClassFile.FieldType.int) ∈ ALL := mem_t 550 (by decide +kernel) (by decide +kernel)
theorem q549 : Cond.static yX2_digit ∈ ALL := mem_t 549 (by decide +kernel) (by decide +kernel)
theorem mvX2_digit : MS yX2_digit cX2_digit 2 (Option.some Jvm.ClassFile.FieldType.int) 1 := ⟨q549, q180, q550, by decide +kernel, by decide +kernel, by decide +kernel⟩
theorem q554 : Cond.constantLong "ControlText$Tokens" 123 2147483648 ∈ ALL := mem_t 554 (by decide +kernel) (by decide +kernel)
theorem q555 : Cond.methodLink "ControlText$Tokens" 125 yX10_min ∈ ALL := mem_t 555 (by decide +kernel) (by decide +kernel)
theorem q557 : Cond.code yX10_min prog_13_method_70_code 4 (Option.some Jvm.ClassFile.FieldType.long) ∈ ALL := mem_t 557 (by decide +kernel) (by decide +kernel)
theorem q185 : Cond.initialized "java/lang/Math" ∈ ALL := mem_t 185 (by decide +kernel) (by decide +kernel)
theorem q556 : Cond.static yX10_min ∈ ALL := mem_t 556 (by decide +kernel) (by decide +kernel)
theorem mvX10_min : MS yX10_min cX10_min 4 (Option.some Jvm.ClassFile.FieldType.long) 2 := ⟨q556, q185, q557, by decide +kernel, by decide +kernel, by decide +kernel⟩
theorem q544 : Cond.methodLink "ControlText$Tokens" 100 yX2_digits ∈ ALL := mem_t 544 (by decide +kernel) (by decide +kernel)
theorem q547 : Cond.code yX2_digits prog_7_method_14_code 7 (Option.some Jvm.ClassFile.FieldType.long) ∈ ALL := mem_t 547 (by decide +kernel) (by decide +kernel)
theorem q546 : Cond.instanceMethod yX2_digits ∈ ALL := mem_t 546 (by decide +kernel) (by decide +kernel)
theorem q11 : Cond.selects "ControlText$Tokens" yX2_digits yX2_digits ∈ ALL := mem_t 11 (by decide +kernel) (by decide +kernel)
theorem mvX2_digits : MV yX2_digits cX2_digits 7 (Option.some Jvm.ClassFile.FieldType.long) 1 := ⟨q546, q11, q180, q547, by decide +kernel, by decide +kernel, by decide +kernel⟩
theorem q566 : Cond.methodLink "ControlText$Tokens" 110 yX2_addNumber ∈ ALL := mem_t 566 (by decide +kernel) (by decide +kernel)
theorem q569 : Cond.code yX2_addNumber prog_7_method_13_code 4 (Option.none : Option Jvm.ClassFile.FieldType) ∈ ALL := mem_t 569 (by decide +kernel) (by decide +kernel)
theorem q568 : Cond.instanceMethod yX2_addNumber ∈ ALL := mem_t 568 (by decide +kernel) (by decide +kernel)
theorem q13 : Cond.selects "ControlText$Tokens" yX2_addNumber yX2_addNumber ∈ ALL := mem_t 13 (by decide +kernel) (by decide +kernel)
theorem mvX2_addNumber : MV yX2_addNumber cX2_addNumber 4 (Option.none : Option Jvm.ClassFile.FieldType) 2 := ⟨q568, q13, q180, q569, by decide +kernel, by decide +kernel, by decide +kernel⟩
theorem q578 : Cond.constantLong "ControlText$Tokens" 104 16 ∈ ALL := mem_t 578 (by decide +kernel) (by decide +kernel)
theorem q579 : Cond.constantLong "ControlText$Tokens" 106 2 ∈ ALL := mem_t 579 (by decide +kernel) (by decide +kernel)
theorem q590 : Cond.methodLink "ControlText$Tokens" 137 yX2_placeRow ∈ ALL := mem_t 590 (by decide +kernel) (by decide +kernel)
theorem q592 : Cond.code yX2_placeRow prog_7_method_18_code 3 (Option.some Jvm.ClassFile.FieldType.int) ∈ ALL := mem_t 592 (by decide +kernel) (by decide +kernel)
theorem q591 : Cond.static yX2_placeRow ∈ ALL := mem_t 591 (by decide +kernel) (by decide +kernel)
theorem mvX2_placeRow : MS yX2_placeRow cX2_placeRow 3 (Option.some Jvm.ClassFile.FieldType.int) 2 := ⟨q591, q180, q592, by decide +kernel, by decide +kernel, by decide +kernel⟩
theorem q597 : Cond.methodLink "ControlText$Tokens" 141 yX10_max ∈ ALL := mem_t 597 (by decide +kernel) (by decide +kernel)
theorem q599 : Cond.code yX10_max prog_13_method_65_code 2 (Option.some Jvm.ClassFile.FieldType.int) ∈ ALL := mem_t 599 (by decide +kernel) (by decide +kernel)
theorem q598 : Cond.static yX10_max ∈ ALL := mem_t 598 (by decide +kernel) (by decide +kernel)
theorem mvX10_max : MS yX10_max cX10_max 2 (Option.some Jvm.ClassFile.FieldType.int) 2 := ⟨q598, q185, q599, by decide +kernel, by decide +kernel, by decide +kernel⟩
theorem q600 : Cond.methodLink "ControlText$Tokens" 144 yX2_isSignOfTwo ∈ ALL := mem_t 600 (by decide +kernel) (by decide +kernel)
theorem q602 : Cond.code yX2_isSignOfTwo prog_7_method_21_code 1 (Option.some Jvm.ClassFile.FieldType.boolean) ∈ ALL := mem_t 602 (by decide +kernel) (by decide +kernel)
theorem q601 : Cond.static yX2_isSignOfTwo ∈ ALL := mem_t 601 (by decide +kernel) (by decide +kernel)
theorem mvX2_isSignOfTwo : MS yX2_isSignOfTwo cX2_isSignOfTwo 1 (Option.some Jvm.ClassFile.FieldType.boolean) 1 := ⟨q601, q180, q602, by decide +kernel, by decide +kernel, by decide +kernel⟩
theorem q603 : Cond.methodLink "ControlText$Tokens" 147 yX2_isSignOfOne ∈ ALL := mem_t 603 (by decide +kernel) (by decide +kernel)
theorem q605 : Cond.code yX2_isSignOfOne prog_7_method_20_code 1 (Option.some Jvm.ClassFile.FieldType.boolean) ∈ ALL := mem_t 605 (by decide +kernel) (by decide +kernel)
theorem q604 : Cond.static yX2_isSignOfOne ∈ ALL := mem_t 604 (by decide +kernel) (by decide +kernel)
theorem mvX2_isSignOfOne : MS yX2_isSignOfOne cX2_isSignOfOne 1 (Option.some Jvm.ClassFile.FieldType.boolean) 1 := ⟨q604, q180, q605, by decide +kernel, by decide +kernel, by decide +kernel⟩
theorem q565 : Cond.constantLong "ControlText$Tokens" 135 3600000 ∈ ALL := mem_t 565 (by decide +kernel) (by decide +kernel)
theorem q564 : Cond.constantLong "ControlText$Tokens" 133 60000 ∈ ALL := mem_t 564 (by decide +kernel) (by decide +kernel)
theorem q563 : Cond.constantLong "ControlText$Tokens" 131 1000 ∈ ALL := mem_t 563 (by decide +kernel) (by decide +kernel)
theorem q559 : Cond.methodLink "ControlText$Tokens" 114 yX2_unit ∈ ALL := mem_t 559 (by decide +kernel) (by decide +kernel)
theorem q562 : Cond.code yX2_unit prog_7_method_16_code 2 (Option.some Jvm.ClassFile.FieldType.long) ∈ ALL := mem_t 562 (by decide +kernel) (by decide +kernel)
theorem q561 : Cond.instanceMethod yX2_unit ∈ ALL := mem_t 561 (by decide +kernel) (by decide +kernel)
theorem q12 : Cond.selects "ControlText$Tokens" yX2_unit yX2_unit ∈ ALL := mem_t 12 (by decide +kernel) (by decide +kernel)
theorem mvX2_unit : MV yX2_unit cX2_unit 2 (Option.some Jvm.ClassFile.FieldType.long) 0 := ⟨q561, q12, q180, q562, by decide +kernel, by decide +kernel, by decide +kernel⟩
theorem q531 : Cond.methodLink "ControlText$Tokens" 86 yX2_endOfComment ∈ ALL := mem_t 531 (by decide +kernel) (by decide +kernel)
theorem q534 : Cond.code yX2_endOfComment prog_7_method_9_code 3 (Option.some Jvm.ClassFile.FieldType.int) ∈ ALL := mem_t 534 (by decide +kernel) (by decide +kernel)
theorem q533 : Cond.instanceMethod yX2_endOfComment ∈ ALL := mem_t 533 (by decide +kernel) (by decide +kernel)
theorem q8 : Cond.selects "ControlText$Tokens" yX2_endOfComment yX2_endOfComment ∈ ALL := mem_t 8 (by decide +kernel) (by decide +kernel)
theorem mvX2_endOfComment : MV yX2_endOfComment cX2_endOfComment 3 (Option.some Jvm.ClassFile.FieldType.int) 1 := ⟨q533, q8, q180, q534, by decide +kernel, by decide +kernel, by decide +kernel⟩
theorem q526 : Cond.methodLink "ControlText$Tokens" 48 yX2_skipBlanks ∈ ALL := mem_t 526 (by decide +kernel) (by decide +kernel)
theorem q529 : Cond.code yX2_skipBlanks prog_7_method_8_code 4 (Option.some Jvm.ClassFile.FieldType.boolean) ∈ ALL := mem_t 529 (by decide +kernel) (by decide +kernel)
theorem q528 : Cond.instanceMethod yX2_skipBlanks ∈ ALL := mem_t 528 (by decide +kernel) (by decide +kernel)
theorem q7 : Cond.selects "ControlText$Tokens" yX2_skipBlanks yX2_skipBlanks ∈ ALL := mem_t 7 (by decide +kernel) (by decide +kernel)
theorem mvX2_skipBlanks : MV yX2_skipBlanks cX2_skipBlanks 4 (Option.some Jvm.ClassFile.FieldType.boolean) 0 := ⟨q528, q7, q180, q529, by decide +kernel, by decide +kernel, by decide +kernel⟩
theorem q593 : Cond.methodLink "ControlText$Tokens" 83 yX2_scanSign ∈ ALL := mem_t 593 (by decide +kernel) (by decide +kernel)
theorem q596 : Cond.code yX2_scanSign prog_7_method_19_code 4 (Option.none : Option Jvm.ClassFile.FieldType) ∈ ALL := mem_t 596 (by decide +kernel) (by decide +kernel)
theorem q595 : Cond.instanceMethod yX2_scanSign ∈ ALL := mem_t 595 (by decide +kernel) (by decide +kernel)
theorem q17 : Cond.selects "ControlText$Tokens" yX2_scanSign yX2_scanSign ∈ ALL := mem_t 17 (by decide +kernel) (by decide +kernel)
theorem mvX2_scanSign : MV yX2_scanSign cX2_scanSign 4 (Option.none : Option Jvm.ClassFile.FieldType) 0 := ⟨q595, q17, q180, q596, by decide +kernel, by decide +kernel, by decide +kernel⟩
theorem q586 : Cond.methodLink "ControlText$Tokens" 80 yX2_scanPlace ∈ ALL := mem_t 586 (by decide +kernel) (by decide +kernel)
theorem q589 : Cond.code yX2_scanPlace prog_7_method_17_code 6 (Option.none : Option Jvm.ClassFile.FieldType) ∈ ALL := mem_t 589 (by decide +kernel) (by decide +kernel)
theorem q588 : Cond.instanceMethod yX2_scanPlace ∈ ALL := mem_t 588 (by decide +kernel) (by decide +kernel)
theorem q16 : Cond.selects "ControlText$Tokens" yX2_scanPlace yX2_scanPlace ∈ ALL := mem_t 16 (by decide +kernel) (by decide +kernel)
theorem mvX2_scanPlace : MV yX2_scanPlace cX2_scanPlace 6 (Option.none : Option Jvm.ClassFile.FieldType) 0 := ⟨q588, q16, q180, q589, by decide +kernel, by decide +kernel, by decide +kernel⟩
theorem q580 : Cond.methodLink "ControlText$Tokens" 77 yX2_scanName ∈ ALL := mem_t 580 (by decide +kernel) (by decide +kernel)
theorem q583 : Cond.code yX2_scanName prog_7_method_10_code 3 (Option.none : Option Jvm.ClassFile.FieldType) ∈ ALL := mem_t 583 (by decide +kernel) (by decide +kernel)
theorem q582 : Cond.instanceMethod yX2_scanName ∈ ALL := mem_t 582 (by decide +kernel) (by decide +kernel)
theorem q15 : Cond.selects "ControlText$Tokens" yX2_scanName yX2_scanName ∈ ALL := mem_t 15 (by decide +kernel) (by decide +kernel)
theorem mvX2_scanName : MV yX2_scanName cX2_scanName 3 (Option.none : Option Jvm.ClassFile.FieldType) 0 := ⟨q582, q15, q180, q583, by decide +kernel, by decide +kernel, by decide +kernel⟩
theorem q574 : Cond.methodLink "ControlText$Tokens" 71 yX2_scanNumber ∈ ALL := mem_t 574 (by decide +kernel) (by decide +kernel)
theorem q577 : Cond.code yX2_scanNumber prog_7_method_11_code 4 (Option.none : Option Jvm.ClassFile.FieldType) ∈ ALL := mem_t 577 (by decide +kernel) (by decide +kernel)
theorem q576 : Cond.instanceMethod yX2_scanNumber ∈ ALL := mem_t 576 (by decide +kernel) (by decide +kernel)
theorem q14 : Cond.selects "ControlText$Tokens" yX2_scanNumber yX2_scanNumber ∈ ALL := mem_t 14 (by decide +kernel) (by decide +kernel)
theorem mvX2_scanNumber : MV yX2_scanNumber cX2_scanNumber 4 (Option.none : Option Jvm.ClassFile.FieldType) 0 := ⟨q576, q14, q180, q577, by decide +kernel, by decide +kernel, by decide +kernel⟩
theorem q540 : Cond.methodLink "ControlText$Tokens" 64 yX2_scanTime ∈ ALL := mem_t 540 (by decide +kernel) (by decide +kernel)
theorem q543 : Cond.code yX2_scanTime prog_7_method_12_code 6 (Option.none : Option Jvm.ClassFile.FieldType) ∈ ALL := mem_t 543 (by decide +kernel) (by decide +kernel)
theorem q542 : Cond.instanceMethod yX2_scanTime ∈ ALL := mem_t 542 (by decide +kernel) (by decide +kernel)
theorem q10 : Cond.selects "ControlText$Tokens" yX2_scanTime yX2_scanTime ∈ ALL := mem_t 10 (by decide +kernel) (by decide +kernel)
theorem mvX2_scanTime : MV yX2_scanTime cX2_scanTime 6 (Option.none : Option Jvm.ClassFile.FieldType) 0 := ⟨q542, q10, q180, q543, by decide +kernel, by decide +kernel, by decide +kernel⟩
theorem q518 : Cond.methodLink "ControlText$Tokens" 33 yX1_forget ∈ ALL := mem_t 518 (by decide +kernel) (by decide +kernel)
theorem q521 : Cond.code yX1_forget prog_4_method_3_code 3 (Option.none : Option Jvm.ClassFile.FieldType) ∈ ALL := mem_t 521 (by decide +kernel) (by decide +kernel)
theorem q519 : Cond.instanceMethod yX1_forget ∈ ALL := mem_t 519 (by decide +kernel) (by decide +kernel)
theorem q520 : Cond.selects "ControlText$Names" yX1_forget yX1_forget ∈ ALL := mem_t 520 (by decide +kernel) (by decide +kernel)
theorem mvX1_forget : MV yX1_forget cX1_forget 3 (Option.none : Option Jvm.ClassFile.FieldType) 0 := ⟨q519, q520, q175, q521, by decide +kernel, by decide +kernel, by decide +kernel⟩
theorem q522 : Cond.methodLink "ControlText$Tokens" 41 yX2_scanToken ∈ ALL := mem_t 522 (by decide +kernel) (by decide +kernel)
theorem q525 : Cond.code yX2_scanToken prog_7_method_7_code 3 (Option.none : Option Jvm.ClassFile.FieldType) ∈ ALL := mem_t 525 (by decide +kernel) (by decide +kernel)
theorem q524 : Cond.instanceMethod yX2_scanToken ∈ ALL := mem_t 524 (by decide +kernel) (by decide +kernel)
theorem q6 : Cond.selects "ControlText$Tokens" yX2_scanToken yX2_scanToken ∈ ALL := mem_t 6 (by decide +kernel) (by decide +kernel)
theorem mvX2_scanToken : MV yX2_scanToken cX2_scanToken 3 (Option.none : Option Jvm.ClassFile.FieldType) 0 := ⟨q524, q6, q180, q525, by decide +kernel, by decide +kernel, by decide +kernel⟩
theorem q606 : Cond.methodLink "ControlText$Tokens" 44 yX2_kind ∈ ALL := mem_t 606 (by decide +kernel) (by decide +kernel)
theorem q369 : Cond.fieldLink "ControlText$Tree" 30 "ControlText$Tree" "met" "[I" ∈ ALL := mem_t 369 (by decide +kernel) (by decide +kernel)
theorem q367 : Cond.fieldLink "ControlText$Tree" 24 "ControlText$Tree" "parents" "[I" ∈ ALL := mem_t 367 (by decide +kernel) (by decide +kernel)
theorem q810 : Cond.methodLink "ControlText$Tree" 47 yX3_firstUnfilled ∈ ALL := mem_t 810 (by decide +kernel) (by decide +kernel)
theorem q813 : Cond.code yX3_firstUnfilled prog_8_method_13_code 4 (Option.some Jvm.ClassFile.FieldType.int) ∈ ALL := mem_t 813 (by decide +kernel) (by decide +kernel)
theorem q812 : Cond.instanceMethod yX3_firstUnfilled ∈ ALL := mem_t 812 (by decide +kernel) (by decide +kernel)
theorem q55 : Cond.selects "ControlText$Tree" yX3_firstUnfilled yX3_firstUnfilled ∈ ALL := mem_t 55 (by decide +kernel) (by decide +kernel)
theorem mvX3_firstUnfilled : MV yX3_firstUnfilled cX3_firstUnfilled 4 (Option.some Jvm.ClassFile.FieldType.int) 1 := ⟨q812, q55, q181, q813, by decide +kernel, by decide +kernel, by decide +kernel⟩
theorem q368 : Cond.fieldLink "ControlText$Tree" 27 "ControlText$Tree" "ranks" "[I" ∈ ALL := mem_t 368 (by decide +kernel) (by decide +kernel)
theorem q455 : Cond.fieldLink "ControlText" 33 "ControlText" "tokens" "LControlText$Tokens;" ∈ ALL := mem_t 455 (by decide +kernel) (by decide +kernel)
theorem q514 : Cond.methodLink "ControlText" 79 yX2_scan ∈ ALL := mem_t 514 (by decide +kernel) (by decide +kernel)
theorem q517 : Cond.code yX2_scan prog_7_method_5_code 4 (Option.none : Option Jvm.ClassFile.FieldType) ∈ ALL := mem_t 517 (by decide +kernel) (by decide +kernel)
theorem q515 : Cond.instanceMethod yX2_scan ∈ ALL := mem_t 515 (by decide +kernel) (by decide +kernel)
theorem q516 : Cond.selects "ControlText$Tokens" yX2_scan yX2_scan ∈ ALL := mem_t 516 (by decide +kernel) (by decide +kernel)
theorem mvX2_scan : MV yX2_scan cX2_scan 4 (Option.none : Option Jvm.ClassFile.FieldType) 0 := ⟨q515, q516, q180, q517, by decide +kernel, by decide +kernel, by decide +kernel⟩
theorem q457 : Cond.fieldLink "ControlText" 49 "ControlText" "parser" "LControlText$Parser;" ∈ ALL := mem_t 457 (by decide +kernel) (by decide +kernel)
theorem q610 : Cond.methodLink "ControlText" 82 yX4_parse ∈ ALL := mem_t 610 (by decide +kernel) (by decide +kernel)
theorem q613 : Cond.code yX4_parse prog_5_method_2_code 5 (Option.none : Option Jvm.ClassFile.FieldType) ∈ ALL := mem_t 613 (by decide +kernel) (by decide +kernel)
theorem q611 : Cond.instanceMethod yX4_parse ∈ ALL := mem_t 611 (by decide +kernel) (by decide +kernel)
theorem q612 : Cond.selects "ControlText$Parser" yX4_parse yX4_parse ∈ ALL := mem_t 612 (by decide +kernel) (by decide +kernel)
theorem mvX4_parse : MV yX4_parse cX4_parse 5 (Option.none : Option Jvm.ClassFile.FieldType) 0 := ⟨q611, q612, q182, q613, by decide +kernel, by decide +kernel, by decide +kernel⟩
theorem q456 : Cond.fieldLink "ControlText" 40 "ControlText" "tree" "LControlText$Tree;" ∈ ALL := mem_t 456 (by decide +kernel) (by decide +kernel)
theorem q814 : Cond.methodLink "ControlText" 91 yX3_forget ∈ ALL := mem_t 814 (by decide +kernel) (by decide +kernel)
theorem q454 : Cond.fieldLink "ControlText" 24 "ControlText" "names" "LControlText$Names;" ∈ ALL := mem_t 454 (by decide +kernel) (by decide +kernel)
theorem q815 : Cond.methodLink "ControlText" 94 yX1_forget ∈ ALL := mem_t 815 (by decide +kernel) (by decide +kernel)
theorem q806 : Cond.methodLink "ControlText" 88 yX3_link ∈ ALL := mem_t 806 (by decide +kernel) (by decide +kernel)
theorem q809 : Cond.code yX3_link prog_8_method_12_code 3 (Option.none : Option Jvm.ClassFile.FieldType) ∈ ALL := mem_t 809 (by decide +kernel) (by decide +kernel)
theorem q807 : Cond.instanceMethod yX3_link ∈ ALL := mem_t 807 (by decide +kernel) (by decide +kernel)
theorem q808 : Cond.selects "ControlText$Tree" yX3_link yX3_link ∈ ALL := mem_t 808 (by decide +kernel) (by decide +kernel)
theorem mvX3_link : MV yX3_link cX3_link 3 (Option.none : Option Jvm.ClassFile.FieldType) 0 := ⟨q807, q808, q181, q809, by decide +kernel, by decide +kernel, by decide +kernel⟩
theorem q453 : Cond.fieldLink "ControlText" 18 "ControlText" "written" "LControlText$Bytes;" ∈ ALL := mem_t 453 (by decide +kernel) (by decide +kernel)
theorem q824 : Cond.methodLink "ControlText" 102 yX3_kind ∈ ALL := mem_t 824 (by decide +kernel) (by decide +kernel)
theorem q827 : Cond.code yX3_kind prog_8_method_4_code 2 (Option.some Jvm.ClassFile.FieldType.int) ∈ ALL := mem_t 827 (by decide +kernel) (by decide +kernel)
theorem q825 : Cond.instanceMethod yX3_kind ∈ ALL := mem_t 825 (by decide +kernel) (by decide +kernel)
theorem q826 : Cond.selects "ControlText$Tree" yX3_kind yX3_kind ∈ ALL := mem_t 826 (by decide +kernel) (by decide +kernel)
theorem mvX3_kind : MV yX3_kind cX3_kind 2 (Option.some Jvm.ClassFile.FieldType.int) 1 := ⟨q825, q826, q181, q827, by decide +kernel, by decide +kernel, by decide +kernel⟩
theorem q828 : Cond.methodLink "ControlText" 106 yX3_place ∈ ALL := mem_t 828 (by decide +kernel) (by decide +kernel)
theorem q831 : Cond.code yX3_place prog_8_method_5_code 2 (Option.some Jvm.ClassFile.FieldType.int) ∈ ALL := mem_t 831 (by decide +kernel) (by decide +kernel)
theorem q829 : Cond.instanceMethod yX3_place ∈ ALL := mem_t 829 (by decide +kernel) (by decide +kernel)
theorem q830 : Cond.selects "ControlText$Tree" yX3_place yX3_place ∈ ALL := mem_t 830 (by decide +kernel) (by decide +kernel)
theorem mvX3_place : MV yX3_place cX3_place 2 (Option.some Jvm.ClassFile.FieldType.int) 1 := ⟨q829, q830, q181, q831, by decide +kernel, by decide +kernel, by decide +kernel⟩
theorem q832 : Cond.methodLink "ControlText" 109 yX3_value ∈ ALL := mem_t 832 (by decide +kernel) (by decide +kernel)
theorem q835 : Cond.code yX3_value prog_8_method_6_code 2 (Option.some Jvm.ClassFile.FieldType.int) ∈ ALL := mem_t 835 (by decide +kernel) (by decide +kernel)
theorem q833 : Cond.instanceMethod yX3_value ∈ ALL := mem_t 833 (by decide +kernel) (by decide +kernel)
theorem q834 : Cond.selects "ControlText$Tree" yX3_value yX3_value ∈ ALL := mem_t 834 (by decide +kernel) (by decide +kernel)
theorem mvX3_value : MV yX3_value cX3_value 2 (Option.some Jvm.ClassFile.FieldType.int) 1 := ⟨q833, q834, q181, q835, by decide +kernel, by decide +kernel, by decide +kernel⟩
theorem q836 : Cond.methodLink "ControlText" 112 yX3_parent ∈ ALL := mem_t 836 (by decide +kernel) (by decide +kernel)
theorem q839 : Cond.code yX3_parent prog_8_method_8_code 2 (Option.some Jvm.ClassFile.FieldType.int) ∈ ALL := mem_t 839 (by decide +kernel) (by decide +kernel)
theorem q837 : Cond.instanceMethod yX3_parent ∈ ALL := mem_t 837 (by decide +kernel) (by decide +kernel)
theorem q838 : Cond.selects "ControlText$Tree" yX3_parent yX3_parent ∈ ALL := mem_t 838 (by decide +kernel) (by decide +kernel)
theorem mvX3_parent : MV yX3_parent cX3_parent 2 (Option.some Jvm.ClassFile.FieldType.int) 1 := ⟨q837, q838, q181, q839, by decide +kernel, by decide +kernel, by decide +kernel⟩
theorem q840 : Cond.methodLink "ControlText" 115 yX3_children ∈ ALL := mem_t 840 (by decide +kernel) (by decide +kernel)
theorem q843 : Cond.code yX3_children prog_8_method_7_code 2 (Option.some Jvm.ClassFile.FieldType.int) ∈ ALL := mem_t 843 (by decide +kernel) (by decide +kernel)
theorem q841 : Cond.instanceMethod yX3_children ∈ ALL := mem_t 841 (by decide +kernel) (by decide +kernel)
theorem q842 : Cond.selects "ControlText$Tree" yX3_children yX3_children ∈ ALL := mem_t 842 (by decide +kernel) (by decide +kernel)
theorem mvX3_children : MV yX3_children cX3_children 2 (Option.some Jvm.ClassFile.FieldType.int) 1 := ⟨q841, q842, q181, q843, by decide +kernel, by decide +kernel, by decide +kernel⟩
theorem q848 : Cond.methodLink "ControlText" 118 yX1_letterOf ∈ ALL := mem_t 848 (by decide +kernel) (by decide +kernel)
theorem q851 : Cond.code yX1_letterOf prog_4_method_10_code 4 (Option.some Jvm.ClassFile.FieldType.int) ∈ ALL := mem_t 851 (by decide +kernel) (by decide +kernel)
theorem q849 : Cond.instanceMethod yX1_letterOf ∈ ALL := mem_t 849 (by decide +kernel) (by decide +kernel)
theorem q850 : Cond.selects "ControlText$Names" yX1_letterOf yX1_letterOf ∈ ALL := mem_t 850 (by decide +kernel) (by decide +kernel)
theorem mvX1_letterOf : MV yX1_letterOf cX1_letterOf 4 (Option.some Jvm.ClassFile.FieldType.int) 2 := ⟨q849, q850, q175, q851, by decide +kernel, by decide +kernel, by decide +kernel⟩
theorem q935 : Cond.methodLink "ControlText$Writer" 112 yX5_contactSign ∈ ALL := mem_t 935 (by decide +kernel) (by decide +kernel)
theorem q937 : Cond.code yX5_contactSign prog_10_method_12_code 1 (Option.some Jvm.ClassFile.FieldType.int) ∈ ALL := mem_t 937 (by decide +kernel) (by decide +kernel)
theorem q183 : Cond.initialized "ControlText$Writer" ∈ ALL := mem_t 183 (by decide +kernel) (by decide +kernel)
theorem q936 : Cond.static yX5_contactSign ∈ ALL := mem_t 936 (by decide +kernel) (by decide +kernel)
theorem mvX5_contactSign : MS yX5_contactSign cX5_contactSign 1 (Option.some Jvm.ClassFile.FieldType.int) 1 := ⟨q936, q183, q937, by decide +kernel, by decide +kernel, by decide +kernel⟩
theorem q442 : Cond.fieldLink "ControlText$Writer" 9 "ControlText$Writer" "tree" "LControlText$Tree;" ∈ ALL := mem_t 442 (by decide +kernel) (by decide +kernel)
theorem q861 : Cond.methodLink "ControlText$Writer" 35 yX3_parent ∈ ALL := mem_t 861 (by decide +kernel) (by decide +kernel)
theorem q870 : Cond.methodLink "ControlText$Writer" 55 yX3_kind ∈ ALL := mem_t 870 (by decide +kernel) (by decide +kernel)
theorem q892 : Cond.methodLink "ControlText$Writer" 65 yX3_value ∈ ALL := mem_t 892 (by decide +kernel) (by decide +kernel)
theorem q893 : Cond.methodLink "ControlText$Writer" 118 yX7_binding ∈ ALL := mem_t 893 (by decide +kernel) (by decide +kernel)
theorem q894 : Cond.methodLink "ControlText$Writer" 52 yX3_rank ∈ ALL := mem_t 894 (by decide +kernel) (by decide +kernel)
theorem q897 : Cond.code yX3_rank prog_8_method_9_code 2 (Option.some Jvm.ClassFile.FieldType.int) ∈ ALL := mem_t 897 (by decide +kernel) (by decide +kernel)
theorem q895 : Cond.instanceMethod yX3_rank ∈ ALL := mem_t 895 (by decide +kernel) (by decide +kernel)
theorem q896 : Cond.selects "ControlText$Tree" yX3_rank yX3_rank ∈ ALL := mem_t 896 (by decide +kernel) (by decide +kernel)
theorem mvX3_rank : MV yX3_rank cX3_rank 2 (Option.some Jvm.ClassFile.FieldType.int) 1 := ⟨q895, q896, q181, q897, by decide +kernel, by decide +kernel, by decide +kernel⟩
theorem q960 : Cond.methodLink "ControlText$Writer" 115 yX5_coilSign ∈ ALL := mem_t 960 (by decide +kernel) (by decide +kernel)
theorem q962 : Cond.code yX5_coilSign prog_10_method_13_code 1 (Option.some Jvm.ClassFile.FieldType.int) ∈ ALL := mem_t 962 (by decide +kernel) (by decide +kernel)
theorem q961 : Cond.static yX5_coilSign ∈ ALL := mem_t 961 (by decide +kernel) (by decide +kernel)
theorem mvX5_coilSign : MS yX5_coilSign cX5_coilSign 1 (Option.some Jvm.ClassFile.FieldType.int) 1 := ⟨q961, q183, q962, by decide +kernel, by decide +kernel, by decide +kernel⟩
theorem q952 : Cond.constant "ControlText$Writer" 156 1000000000 ∈ ALL := mem_t 952 (by decide +kernel) (by decide +kernel)
theorem q444 : Cond.fieldLink "ControlText$Writer" 19 "ControlText$Writer" "out" "LControlText$Bytes;" ∈ ALL := mem_t 444 (by decide +kernel) (by decide +kernel)
theorem q886 : Cond.methodLink "ControlText$Writer" 130 yX0_put ∈ ALL := mem_t 886 (by decide +kernel) (by decide +kernel)
theorem q884 : Cond.methodLink "ControlText$Writer" 142 yX0_get ∈ ALL := mem_t 884 (by decide +kernel) (by decide +kernel)
theorem q880 : Cond.methodLink "ControlText$Writer" 133 yX5_part ∈ ALL := mem_t 880 (by decide +kernel) (by decide +kernel)
theorem q883 : Cond.code yX5_part prog_10_method_22_code 1 (Option.none : Option Jvm.ClassFile.FieldType) ∈ ALL := mem_t 883 (by decide +kernel) (by decide +kernel)
theorem q882 : Cond.instanceMethod yX5_part ∈ ALL := mem_t 882 (by decide +kernel) (by decide +kernel)
theorem q60 : Cond.selects "ControlText$Writer" yX5_part yX5_part ∈ ALL := mem_t 60 (by decide +kernel) (by decide +kernel)
theorem mvX5_part : MV yX5_part cX5_part 1 (Option.none : Option Jvm.ClassFile.FieldType) 0 := ⟨q882, q60, q183, q883, by decide +kernel, by decide +kernel, by decide +kernel⟩
theorem q443 : Cond.fieldLink "ControlText$Writer" 15 "ControlText$Writer" "names" "LControlText$Names;" ∈ ALL := mem_t 443 (by decide +kernel) (by decide +kernel)
theorem q887 : Cond.methodLink "ControlText$Writer" 136 yX1_letterOf ∈ ALL := mem_t 887 (by decide +kernel) (by decide +kernel)
theorem q876 : Cond.methodLink "ControlText$Writer" 100 yX5_word ∈ ALL := mem_t 876 (by decide +kernel) (by decide +kernel)
theorem q879 : Cond.code yX5_word prog_10_method_21_code 4 (Option.none : Option Jvm.ClassFile.FieldType) ∈ ALL := mem_t 879 (by decide +kernel) (by decide +kernel)
theorem q878 : Cond.instanceMethod yX5_word ∈ ALL := mem_t 878 (by decide +kernel) (by decide +kernel)
theorem q59 : Cond.selects "ControlText$Writer" yX5_word yX5_word ∈ ALL := mem_t 59 (by decide +kernel) (by decide +kernel)
theorem mvX5_word : MV yX5_word cX5_word 4 (Option.none : Option Jvm.ClassFile.FieldType) 1 := ⟨q878, q59, q183, q879, by decide +kernel, by decide +kernel, by decide +kernel⟩
theorem q945 : Cond.methodLink "ControlText$Writer" 148 yX10_abs ∈ ALL := mem_t 945 (by decide +kernel) (by decide +kernel)
theorem q947 : Cond.code yX10_abs prog_13_method_59_code 1 (Option.some Jvm.ClassFile.FieldType.int) ∈ ALL := mem_t 947 (by decide +kernel) (by decide +kernel)
theorem q946 : Cond.static yX10_abs ∈ ALL := mem_t 946 (by decide +kernel) (by decide +kernel)
theorem mvX10_abs : MS yX10_abs cX10_abs 1 (Option.some Jvm.ClassFile.FieldType.int) 1 := ⟨q946, q185, q947, by decide +kernel, by decide +kernel, by decide +kernel⟩
theorem q948 : Cond.methodLink "ControlText$Writer" 153 yX5_digits ∈ ALL := mem_t 948 (by decide +kernel) (by decide +kernel)
theorem q951 : Cond.code yX5_digits prog_10_method_25_code 3 (Option.none : Option Jvm.ClassFile.FieldType) ∈ ALL := mem_t 951 (by decide +kernel) (by decide +kernel)
theorem q950 : Cond.instanceMethod yX5_digits ∈ ALL := mem_t 950 (by decide +kernel) (by decide +kernel)
theorem q65 : Cond.selects "ControlText$Writer" yX5_digits yX5_digits ∈ ALL := mem_t 65 (by decide +kernel) (by decide +kernel)
theorem mvX5_digits : MV yX5_digits cX5_digits 3 (Option.none : Option Jvm.ClassFile.FieldType) 1 := ⟨q950, q65, q183, q951, by decide +kernel, by decide +kernel, by decide +kernel⟩
theorem q872 : Cond.methodLink "ControlText$Writer" 60 yX5_token ∈ ALL := mem_t 872 (by decide +kernel) (by decide +kernel)
theorem q875 : Cond.code yX5_token prog_10_method_20_code 2 (Option.none : Option Jvm.ClassFile.FieldType) ∈ ALL := mem_t 875 (by decide +kernel) (by decide +kernel)
theorem q874 : Cond.instanceMethod yX5_token ∈ ALL := mem_t 874 (by decide +kernel) (by decide +kernel)
theorem q58 : Cond.selects "ControlText$Writer" yX5_token yX5_token ∈ ALL := mem_t 58 (by decide +kernel) (by decide +kernel)
theorem mvX5_token : MV yX5_token cX5_token 2 (Option.none : Option Jvm.ClassFile.FieldType) 1 := ⟨q874, q58, q183, q875, by decide +kernel, by decide +kernel, by decide +kernel⟩
theorem q932 : Cond.methodLink "ControlText$Writer" 90 yX5_firstToken ∈ ALL := mem_t 932 (by decide +kernel) (by decide +kernel)
theorem q934 : Cond.code yX5_firstToken prog_10_method_11_code 2 (Option.some Jvm.ClassFile.FieldType.int) ∈ ALL := mem_t 934 (by decide +kernel) (by decide +kernel)
theorem q933 : Cond.static yX5_firstToken ∈ ALL := mem_t 933 (by decide +kernel) (by decide +kernel)
theorem mvX5_firstToken : MS yX5_firstToken cX5_firstToken 2 (Option.some Jvm.ClassFile.FieldType.int) 2 := ⟨q933, q183, q934, by decide +kernel, by decide +kernel, by decide +kernel⟩
theorem q938 : Cond.methodLink "ControlText$Writer" 97 yX5_bearsName ∈ ALL := mem_t 938 (by decide +kernel) (by decide +kernel)
theorem q940 : Cond.code yX5_bearsName prog_10_method_14_code 1 (Option.some Jvm.ClassFile.FieldType.boolean) ∈ ALL := mem_t 940 (by decide +kernel) (by decide +kernel)
theorem q939 : Cond.static yX5_bearsName ∈ ALL := mem_t 939 (by decide +kernel) (by decide +kernel)
theorem mvX5_bearsName : MS yX5_bearsName cX5_bearsName 1 (Option.some Jvm.ClassFile.FieldType.boolean) 1 := ⟨q939, q183, q940, by decide +kernel, by decide +kernel, by decide +kernel⟩
theorem q957 : Cond.methodLink "ControlText$Writer" 109 yX5_nextToken ∈ ALL := mem_t 957 (by decide +kernel) (by decide +kernel)
theorem q959 : Cond.code yX5_nextToken prog_10_method_15_code 2 (Option.some Jvm.ClassFile.FieldType.int) ∈ ALL := mem_t 959 (by decide +kernel) (by decide +kernel)
theorem q958 : Cond.static yX5_nextToken ∈ ALL := mem_t 958 (by decide +kernel) (by decide +kernel)
theorem mvX5_nextToken : MS yX5_nextToken cX5_nextToken 2 (Option.some Jvm.ClassFile.FieldType.int) 2 := ⟨q958, q183, q959, by decide +kernel, by decide +kernel, by decide +kernel⟩
theorem q953 : Cond.methodLink "ControlText$Writer" 106 yX5_place ∈ ALL := mem_t 953 (by decide +kernel) (by decide +kernel)
theorem q956 : Cond.code yX5_place prog_10_method_24_code 4 (Option.none : Option Jvm.ClassFile.FieldType) ∈ ALL := mem_t 956 (by decide +kernel) (by decide +kernel)
theorem q955 : Cond.instanceMethod yX5_place ∈ ALL := mem_t 955 (by decide +kernel) (by decide +kernel)
theorem q66 : Cond.selects "ControlText$Writer" yX5_place yX5_place ∈ ALL := mem_t 66 (by decide +kernel) (by decide +kernel)
theorem mvX5_place : MV yX5_place cX5_place 4 (Option.none : Option Jvm.ClassFile.FieldType) 1 := ⟨q955, q66, q183, q956, by decide +kernel, by decide +kernel, by decide +kernel⟩
theorem q941 : Cond.methodLink "ControlText$Writer" 103 yX5_number ∈ ALL := mem_t 941 (by decide +kernel) (by decide +kernel)
theorem q944 : Cond.code yX5_number prog_10_method_23_code 2 (Option.none : Option Jvm.ClassFile.FieldType) ∈ ALL := mem_t 944 (by decide +kernel) (by decide +kernel)
theorem q943 : Cond.instanceMethod yX5_number ∈ ALL := mem_t 943 (by decide +kernel) (by decide +kernel)
theorem q64 : Cond.selects "ControlText$Writer" yX5_number yX5_number ∈ ALL := mem_t 64 (by decide +kernel) (by decide +kernel)
theorem mvX5_number : MV yX5_number cX5_number 2 (Option.none : Option Jvm.ClassFile.FieldType) 1 := ⟨q943, q64, q183, q944, by decide +kernel, by decide +kernel, by decide +kernel⟩
theorem q888 : Cond.methodLink "ControlText$Writer" 93 yX5_isBracketed ∈ ALL := mem_t 888 (by decide +kernel) (by decide +kernel)
theorem q891 : Cond.code yX5_isBracketed prog_10_method_16_code 5 (Option.some Jvm.ClassFile.FieldType.boolean) ∈ ALL := mem_t 891 (by decide +kernel) (by decide +kernel)
theorem q890 : Cond.instanceMethod yX5_isBracketed ∈ ALL := mem_t 890 (by decide +kernel) (by decide +kernel)
theorem q61 : Cond.selects "ControlText$Writer" yX5_isBracketed yX5_isBracketed ∈ ALL := mem_t 61 (by decide +kernel) (by decide +kernel)
theorem mvX5_isBracketed : MV yX5_isBracketed cX5_isBracketed 5 (Option.some Jvm.ClassFile.FieldType.boolean) 1 := ⟨q890, q61, q183, q891, by decide +kernel, by decide +kernel, by decide +kernel⟩
theorem q898 : Cond.methodLink "ControlText$Writer" 124 yX5_lastToken ∈ ALL := mem_t 898 (by decide +kernel) (by decide +kernel)
theorem q900 : Cond.code yX5_lastToken prog_10_method_18_code 1 (Option.some Jvm.ClassFile.FieldType.int) ∈ ALL := mem_t 900 (by decide +kernel) (by decide +kernel)
theorem q899 : Cond.static yX5_lastToken ∈ ALL := mem_t 899 (by decide +kernel) (by decide +kernel)
theorem mvX5_lastToken : MS yX5_lastToken cX5_lastToken 1 (Option.some Jvm.ClassFile.FieldType.int) 1 := ⟨q899, q183, q900, by decide +kernel, by decide +kernel, by decide +kernel⟩
theorem q901 : Cond.methodLink "ControlText$Writer" 127 yX5_endsBySemicolon ∈ ALL := mem_t 901 (by decide +kernel) (by decide +kernel)
theorem q903 : Cond.code yX5_endsBySemicolon prog_10_method_19_code 1 (Option.some Jvm.ClassFile.FieldType.boolean) ∈ ALL := mem_t 903 (by decide +kernel) (by decide +kernel)
theorem q902 : Cond.static yX5_endsBySemicolon ∈ ALL := mem_t 902 (by decide +kernel) (by decide +kernel)
theorem mvX5_endsBySemicolon : MS yX5_endsBySemicolon cX5_endsBySemicolon 1 (Option.some Jvm.ClassFile.FieldType.boolean) 1 := ⟨q902, q183, q903, by decide +kernel, by decide +kernel, by decide +kernel⟩
theorem q871 : Cond.methodLink "ControlText$Writer" 121 yX3_children ∈ ALL := mem_t 871 (by decide +kernel) (by decide +kernel)
theorem q866 : Cond.methodLink "ControlText$Writer" 49 yX5_finish ∈ ALL := mem_t 866 (by decide +kernel) (by decide +kernel)
theorem q869 : Cond.code yX5_finish prog_10_method_17_code 3 (Option.none : Option Jvm.ClassFile.FieldType) ∈ ALL := mem_t 869 (by decide +kernel) (by decide +kernel)
theorem q868 : Cond.instanceMethod yX5_finish ∈ ALL := mem_t 868 (by decide +kernel) (by decide +kernel)
theorem q57 : Cond.selects "ControlText$Writer" yX5_finish yX5_finish ∈ ALL := mem_t 57 (by decide +kernel) (by decide +kernel)
theorem mvX5_finish : MV yX5_finish cX5_finish 3 (Option.none : Option Jvm.ClassFile.FieldType) 1 := ⟨q868, q57, q183, q869, by decide +kernel, by decide +kernel, by decide +kernel⟩
theorem q911 : Cond.fieldLink "ControlText$Sign" 9 "ControlText$Sign" "BETWEEN" "[I" ∈ ALL := mem_t 911 (by decide +kernel) (by decide +kernel)
theorem q919 : Cond.methodLink "ControlText$Writer" 84 yX5_behindFirst ∈ ALL := mem_t 919 (by decide +kernel) (by decide +kernel)
theorem q921 : Cond.code yX5_behindFirst prog_10_method_6_code 2 (Option.some Jvm.ClassFile.FieldType.int) ∈ ALL := mem_t 921 (by decide +kernel) (by decide +kernel)
theorem q920 : Cond.static yX5_behindFirst ∈ ALL := mem_t 920 (by decide +kernel) (by decide +kernel)
theorem mvX5_behindFirst : MS yX5_behindFirst cX5_behindFirst 2 (Option.some Jvm.ClassFile.FieldType.int) 2 := ⟨q920, q183, q921, by decide +kernel, by decide +kernel, by decide +kernel⟩
theorem q916 : Cond.methodLink "ControlText$Writer" 77 yX5_separatorInDeclaration ∈ ALL := mem_t 916 (by decide +kernel) (by decide +kernel)
theorem q918 : Cond.code yX5_separatorInDeclaration prog_10_method_7_code 2 (Option.some Jvm.ClassFile.FieldType.int) ∈ ALL := mem_t 918 (by decide +kernel) (by decide +kernel)
theorem q917 : Cond.static yX5_separatorInDeclaration ∈ ALL := mem_t 917 (by decide +kernel) (by decide +kernel)
theorem mvX5_separatorInDeclaration : MS yX5_separatorInDeclaration cX5_separatorInDeclaration 2 (Option.some Jvm.ClassFile.FieldType.int) 2 := ⟨q917, q183, q918, by decide +kernel, by decide +kernel, by decide +kernel⟩
theorem q922 : Cond.methodLink "ControlText$Writer" 81 yX5_separatorInIf ∈ ALL := mem_t 922 (by decide +kernel) (by decide +kernel)
theorem q924 : Cond.code yX5_separatorInIf prog_10_method_8_code 2 (Option.some Jvm.ClassFile.FieldType.int) ∈ ALL := mem_t 924 (by decide +kernel) (by decide +kernel)
theorem q923 : Cond.static yX5_separatorInIf ∈ ALL := mem_t 923 (by decide +kernel) (by decide +kernel)
theorem mvX5_separatorInIf : MS yX5_separatorInIf cX5_separatorInIf 2 (Option.some Jvm.ClassFile.FieldType.int) 2 := ⟨q923, q183, q924, by decide +kernel, by decide +kernel, by decide +kernel⟩
theorem q925 : Cond.methodLink "ControlText$Writer" 87 yX5_separatorInFor ∈ ALL := mem_t 925 (by decide +kernel) (by decide +kernel)
theorem q927 : Cond.code yX5_separatorInFor prog_10_method_9_code 2 (Option.some Jvm.ClassFile.FieldType.int) ∈ ALL := mem_t 927 (by decide +kernel) (by decide +kernel)
theorem q926 : Cond.static yX5_separatorInFor ∈ ALL := mem_t 926 (by decide +kernel) (by decide +kernel)
theorem mvX5_separatorInFor : MS yX5_separatorInFor cX5_separatorInFor 2 (Option.some Jvm.ClassFile.FieldType.int) 2 := ⟨q926, q183, q927, by decide +kernel, by decide +kernel, by decide +kernel⟩
theorem q913 : Cond.methodLink "ControlText$Writer" 73 yX5_separator ∈ ALL := mem_t 913 (by decide +kernel) (by decide +kernel)
theorem q915 : Cond.code yX5_separator prog_10_method_5_code 3 (Option.some Jvm.ClassFile.FieldType.int) ∈ ALL := mem_t 915 (by decide +kernel) (by decide +kernel)
theorem q914 : Cond.static yX5_separator ∈ ALL := mem_t 914 (by decide +kernel) (by decide +kernel)
theorem mvX5_separator : MS yX5_separator cX5_separator 3 (Option.some Jvm.ClassFile.FieldType.int) 3 := ⟨q914, q183, q915, by decide +kernel, by decide +kernel, by decide +kernel⟩
theorem q908 : Cond.methodLink "ControlText$Writer" 68 yX7_between ∈ ALL := mem_t 908 (by decide +kernel) (by decide +kernel)
theorem q910 : Cond.code yX7_between prog_6_method_3_code 1 (Option.some Jvm.ClassFile.FieldType.int) ∈ ALL := mem_t 910 (by decide +kernel) (by decide +kernel)
theorem q909 : Cond.static yX7_between ∈ ALL := mem_t 909 (by decide +kernel) (by decide +kernel)
theorem mvX7_between : MS yX7_between cX7_between 1 (Option.some Jvm.ClassFile.FieldType.int) 1 := ⟨q909, q186, q910, by decide +kernel, by decide +kernel, by decide +kernel⟩
theorem q860 : Cond.methodLink "ControlText$Writer" 23 yX0_cut ∈ ALL := mem_t 860 (by decide +kernel) (by decide +kernel)
theorem q862 : Cond.methodLink "ControlText$Writer" 39 yX5_finishUpTo ∈ ALL := mem_t 862 (by decide +kernel) (by decide +kernel)
theorem q865 : Cond.code yX5_finishUpTo prog_10_method_3_code 5 (Option.none : Option Jvm.ClassFile.FieldType) ∈ ALL := mem_t 865 (by decide +kernel) (by decide +kernel)
theorem q864 : Cond.instanceMethod yX5_finishUpTo ∈ ALL := mem_t 864 (by decide +kernel) (by decide +kernel)
theorem q56 : Cond.selects "ControlText$Writer" yX5_finishUpTo yX5_finishUpTo ∈ ALL := mem_t 56 (by decide +kernel) (by decide +kernel)
theorem mvX5_finishUpTo : MV yX5_finishUpTo cX5_finishUpTo 5 (Option.none : Option Jvm.ClassFile.FieldType) 2 := ⟨q864, q56, q183, q865, by decide +kernel, by decide +kernel, by decide +kernel⟩
theorem q904 : Cond.methodLink "ControlText$Writer" 43 yX5_separate ∈ ALL := mem_t 904 (by decide +kernel) (by decide +kernel)
theorem q907 : Cond.code yX5_separate prog_10_method_4_code 5 (Option.none : Option Jvm.ClassFile.FieldType) ∈ ALL := mem_t 907 (by decide +kernel) (by decide +kernel)
theorem q906 : Cond.instanceMethod yX5_separate ∈ ALL := mem_t 906 (by decide +kernel) (by decide +kernel)
theorem q62 : Cond.selects "ControlText$Writer" yX5_separate yX5_separate ∈ ALL := mem_t 62 (by decide +kernel) (by decide +kernel)
theorem mvX5_separate : MV yX5_separate cX5_separate 5 (Option.none : Option Jvm.ClassFile.FieldType) 1 := ⟨q906, q62, q183, q907, by decide +kernel, by decide +kernel, by decide +kernel⟩
theorem q928 : Cond.methodLink "ControlText$Writer" 46 yX5_begin ∈ ALL := mem_t 928 (by decide +kernel) (by decide +kernel)
theorem q931 : Cond.code yX5_begin prog_10_method_10_code 4 (Option.none : Option Jvm.ClassFile.FieldType) ∈ ALL := mem_t 931 (by decide +kernel) (by decide +kernel)
theorem q930 : Cond.instanceMethod yX5_begin ∈ ALL := mem_t 930 (by decide +kernel) (by decide +kernel)
theorem q63 : Cond.selects "ControlText$Writer" yX5_begin yX5_begin ∈ ALL := mem_t 63 (by decide +kernel) (by decide +kernel)
theorem mvX5_begin : MV yX5_begin cX5_begin 4 (Option.none : Option Jvm.ClassFile.FieldType) 1 := ⟨q930, q63, q183, q931, by decide +kernel, by decide +kernel, by decide +kernel⟩
theorem q458 : Cond.fieldLink "ControlText" 58 "ControlText" "writer" "LControlText$Writer;" ∈ ALL := mem_t 458 (by decide +kernel) (by decide +kernel)
theorem q856 : Cond.methodLink "ControlText" 121 yX5_writeTree ∈ ALL := mem_t 856 (by decide +kernel) (by decide +kernel)
theorem q859 : Cond.code yX5_writeTree prog_10_method_2_code 3 (Option.none : Option Jvm.ClassFile.FieldType) ∈ ALL := mem_t 859 (by decide +kernel) (by decide +kernel)
theorem q857 : Cond.instanceMethod yX5_writeTree ∈ ALL := mem_t 857 (by decide +kernel) (by decide +kernel)
theorem q858 : Cond.selects "ControlText$Writer" yX5_writeTree yX5_writeTree ∈ ALL := mem_t 858 (by decide +kernel) (by decide +kernel)
theorem mvX5_writeTree : MV yX5_writeTree cX5_writeTree 3 (Option.none : Option Jvm.ClassFile.FieldType) 0 := ⟨q857, q858, q183, q859, by decide +kernel, by decide +kernel, by decide +kernel⟩
theorem q967 : Cond.methodLink "ControlText" 124 yX0_get ∈ ALL := mem_t 967 (by decide +kernel) (by decide +kernel)
theorem q207 : Cond.laysFinal "ControlText$Bytes" "ControlText$Bytes" "bytes" "[I" ∈ ALL := mem_t 207 (by decide +kernel) (by decide +kernel)
theorem q209 : Cond.lays "ControlText$Bytes" "ControlText$Bytes" "size" "I" ∈ ALL := mem_t 209 (by decide +kernel) (by decide +kernel)
theorem q311 : Cond.laysFinal "ControlText$Names" "ControlText$Names" "letters" "[I" ∈ ALL := mem_t 311 (by decide +kernel) (by decide +kernel)
theorem q313 : Cond.laysFinal "ControlText$Names" "ControlText$Names" "starts" "[I" ∈ ALL := mem_t 313 (by decide +kernel) (by decide +kernel)
theorem q315 : Cond.laysFinal "ControlText$Names" "ControlText$Names" "slotOf" "[I" ∈ ALL := mem_t 315 (by decide +kernel) (by decide +kernel)
theorem q317 : Cond.laysFinal "ControlText$Names" "ControlText$Names" "slots" "[I" ∈ ALL := mem_t 317 (by decide +kernel) (by decide +kernel)
theorem q319 : Cond.lays "ControlText$Names" "ControlText$Names" "size" "I" ∈ ALL := mem_t 319 (by decide +kernel) (by decide +kernel)
theorem q321 : Cond.lays "ControlText$Names" "ControlText$Names" "used" "I" ∈ ALL := mem_t 321 (by decide +kernel) (by decide +kernel)
theorem q342 : Cond.laysFinal "ControlText$Tokens" "ControlText$Tokens" "text" "LControlText$Bytes;" ∈ ALL := mem_t 342 (by decide +kernel) (by decide +kernel)
theorem q344 : Cond.laysFinal "ControlText$Tokens" "ControlText$Tokens" "names" "LControlText$Names;" ∈ ALL := mem_t 344 (by decide +kernel) (by decide +kernel)
theorem q346 : Cond.laysFinal "ControlText$Tokens" "ControlText$Tokens" "kinds" "[I" ∈ ALL := mem_t 346 (by decide +kernel) (by decide +kernel)
theorem q348 : Cond.laysFinal "ControlText$Tokens" "ControlText$Tokens" "places" "[I" ∈ ALL := mem_t 348 (by decide +kernel) (by decide +kernel)
theorem q350 : Cond.laysFinal "ControlText$Tokens" "ControlText$Tokens" "values" "[I" ∈ ALL := mem_t 350 (by decide +kernel) (by decide +kernel)
theorem q352 : Cond.lays "ControlText$Tokens" "ControlText$Tokens" "size" "I" ∈ ALL := mem_t 352 (by decide +kernel) (by decide +kernel)
theorem q354 : Cond.lays "ControlText$Tokens" "ControlText$Tokens" "at" "I" ∈ ALL := mem_t 354 (by decide +kernel) (by decide +kernel)
theorem q374 : Cond.laysFinal "ControlText$Tree" "ControlText$Tree" "kinds" "[I" ∈ ALL := mem_t 374 (by decide +kernel) (by decide +kernel)
theorem q376 : Cond.laysFinal "ControlText$Tree" "ControlText$Tree" "places" "[I" ∈ ALL := mem_t 376 (by decide +kernel) (by decide +kernel)
theorem q378 : Cond.laysFinal "ControlText$Tree" "ControlText$Tree" "values" "[I" ∈ ALL := mem_t 378 (by decide +kernel) (by decide +kernel)
theorem q380 : Cond.laysFinal "ControlText$Tree" "ControlText$Tree" "children" "[I" ∈ ALL := mem_t 380 (by decide +kernel) (by decide +kernel)
theorem q382 : Cond.laysFinal "ControlText$Tree" "ControlText$Tree" "parents" "[I" ∈ ALL := mem_t 382 (by decide +kernel) (by decide +kernel)
theorem q384 : Cond.laysFinal "ControlText$Tree" "ControlText$Tree" "ranks" "[I" ∈ ALL := mem_t 384 (by decide +kernel) (by decide +kernel)
theorem q386 : Cond.laysFinal "ControlText$Tree" "ControlText$Tree" "met" "[I" ∈ ALL := mem_t 386 (by decide +kernel) (by decide +kernel)
theorem q388 : Cond.lays "ControlText$Tree" "ControlText$Tree" "size" "I" ∈ ALL := mem_t 388 (by decide +kernel) (by decide +kernel)
theorem q411 : Cond.laysFinal "ControlText$Parser" "ControlText$Parser" "tokens" "LControlText$Tokens;" ∈ ALL := mem_t 411 (by decide +kernel) (by decide +kernel)
theorem q413 : Cond.laysFinal "ControlText$Parser" "ControlText$Parser" "tree" "LControlText$Tree;" ∈ ALL := mem_t 413 (by decide +kernel) (by decide +kernel)
theorem q415 : Cond.lays "ControlText$Parser" "ControlText$Parser" "at" "I" ∈ ALL := mem_t 415 (by decide +kernel) (by decide +kernel)
theorem q417 : Cond.lays "ControlText$Parser" "ControlText$Parser" "kind" "I" ∈ ALL := mem_t 417 (by decide +kernel) (by decide +kernel)
theorem q419 : Cond.lays "ControlText$Parser" "ControlText$Parser" "place" "I" ∈ ALL := mem_t 419 (by decide +kernel) (by decide +kernel)
theorem q421 : Cond.lays "ControlText$Parser" "ControlText$Parser" "value" "I" ∈ ALL := mem_t 421 (by decide +kernel) (by decide +kernel)
theorem q423 : Cond.lays "ControlText$Parser" "ControlText$Parser" "placeBefore" "I" ∈ ALL := mem_t 423 (by decide +kernel) (by decide +kernel)
theorem q425 : Cond.lays "ControlText$Parser" "ControlText$Parser" "signs" "I" ∈ ALL := mem_t 425 (by decide +kernel) (by decide +kernel)
theorem q427 : Cond.lays "ControlText$Parser" "ControlText$Parser" "open" "I" ∈ ALL := mem_t 427 (by decide +kernel) (by decide +kernel)
theorem q429 : Cond.lays "ControlText$Parser" "ControlText$Parser" "tooDeep" "Z" ∈ ALL := mem_t 429 (by decide +kernel) (by decide +kernel)
theorem q431 : Cond.lays "ControlText$Parser" "ControlText$Parser" "fault" "I" ∈ ALL := mem_t 431 (by decide +kernel) (by decide +kernel)
theorem q433 : Cond.lays "ControlText$Parser" "ControlText$Parser" "faultPlace" "I" ∈ ALL := mem_t 433 (by decide +kernel) (by decide +kernel)
theorem q445 : Cond.laysFinal "ControlText$Writer" "ControlText$Writer" "tree" "LControlText$Tree;" ∈ ALL := mem_t 445 (by decide +kernel) (by decide +kernel)
theorem q447 : Cond.laysFinal "ControlText$Writer" "ControlText$Writer" "names" "LControlText$Names;" ∈ ALL := mem_t 447 (by decide +kernel) (by decide +kernel)
theorem q449 : Cond.laysFinal "ControlText$Writer" "ControlText$Writer" "out" "LControlText$Bytes;" ∈ ALL := mem_t 449 (by decide +kernel) (by decide +kernel)
theorem q459 : Cond.laysFinal "ControlText" "ControlText" "text" "LControlText$Bytes;" ∈ ALL := mem_t 459 (by decide +kernel) (by decide +kernel)
theorem q461 : Cond.laysFinal "ControlText" "ControlText" "written" "LControlText$Bytes;" ∈ ALL := mem_t 461 (by decide +kernel) (by decide +kernel)
theorem q463 : Cond.laysFinal "ControlText" "ControlText" "names" "LControlText$Names;" ∈ ALL := mem_t 463 (by decide +kernel) (by decide +kernel)
theorem q465 : Cond.laysFinal "ControlText" "ControlText" "tokens" "LControlText$Tokens;" ∈ ALL := mem_t 465 (by decide +kernel) (by decide +kernel)
theorem q467 : Cond.laysFinal "ControlText" "ControlText" "tree" "LControlText$Tree;" ∈ ALL := mem_t 467 (by decide +kernel) (by decide +kernel)
theorem q469 : Cond.laysFinal "ControlText" "ControlText" "parser" "LControlText$Parser;" ∈ ALL := mem_t 469 (by decide +kernel) (by decide +kernel)
theorem q471 : Cond.laysFinal "ControlText" "ControlText" "writer" "LControlText$Writer;" ∈ ALL := mem_t 471 (by decide +kernel) (by decide +kernel)
theorem q1026 : Cond.laysFinal "ControlTextModel" "ControlTextModel" "letters" "[I" ∈ ALL := mem_t 1026 (by decide +kernel) (by decide +kernel)
theorem q1028 : Cond.laysFinal "ControlTextModel" "ControlTextModel" "wordAt" "[I" ∈ ALL := mem_t 1028 (by decide +kernel) (by decide +kernel)
theorem q1030 : Cond.laysFinal "ControlTextModel" "ControlTextModel" "signs" "[I" ∈ ALL := mem_t 1030 (by decide +kernel) (by decide +kernel)
theorem q1032 : Cond.laysFinal "ControlTextModel" "ControlTextModel" "places" "[I" ∈ ALL := mem_t 1032 (by decide +kernel) (by decide +kernel)
theorem q1034 : Cond.lays "ControlTextModel" "ControlTextModel" "size" "I" ∈ ALL := mem_t 1034 (by decide +kernel) (by decide +kernel)
theorem q1036 : Cond.laysFinal "ControlTextModel" "ControlTextModel" "text" "[I" ∈ ALL := mem_t 1036 (by decide +kernel) (by decide +kernel)
theorem q1038 : Cond.lays "ControlTextModel" "ControlTextModel" "begin" "I" ∈ ALL := mem_t 1038 (by decide +kernel) (by decide +kernel)
theorem q1040 : Cond.lays "ControlTextModel" "ControlTextModel" "token" "I" ∈ ALL := mem_t 1040 (by decide +kernel) (by decide +kernel)
theorem q1042 : Cond.lays "ControlTextModel" "ControlTextModel" "worth" "I" ∈ ALL := mem_t 1042 (by decide +kernel) (by decide +kernel)
theorem q1044 : Cond.lays "ControlTextModel" "ControlTextModel" "next" "I" ∈ ALL := mem_t 1044 (by decide +kernel) (by decide +kernel)
theorem q1046 : Cond.lays "ControlTextModel" "ControlTextModel" "lastPlace" "I" ∈ ALL := mem_t 1046 (by decide +kernel) (by decide +kernel)
theorem q1048 : Cond.lays "ControlTextModel" "ControlTextModel" "fault" "I" ∈ ALL := mem_t 1048 (by decide +kernel) (by decide +kernel)
theorem q1050 : Cond.lays "ControlTextModel" "ControlTextModel" "faultPlace" "I" ∈ ALL := mem_t 1050 (by decide +kernel) (by decide +kernel)
theorem q1052 : Cond.lays "ControlTextModel" "ControlTextModel" "names" "I" ∈ ALL := mem_t 1052 (by decide +kernel) (by decide +kernel)
theorem q1054 : Cond.laysFinal "ControlTextModel" "ControlTextModel" "nameAt" "[I" ∈ ALL := mem_t 1054 (by decide +kernel) (by decide +kernel)
theorem q1056 : Cond.laysFinal "ControlTextModel" "ControlTextModel" "nameBytes" "[I" ∈ ALL := mem_t 1056 (by decide +kernel) (by decide +kernel)
theorem q1058 : Cond.lays "ControlTextModel" "ControlTextModel" "nodes" "I" ∈ ALL := mem_t 1058 (by decide +kernel) (by decide +kernel)
theorem q1060 : Cond.laysFinal "ControlTextModel" "ControlTextModel" "kinds" "[I" ∈ ALL := mem_t 1060 (by decide +kernel) (by decide +kernel)
theorem q1062 : Cond.laysFinal "ControlTextModel" "ControlTextModel" "where" "[I" ∈ ALL := mem_t 1062 (by decide +kernel) (by decide +kernel)
theorem q1064 : Cond.laysFinal "ControlTextModel" "ControlTextModel" "values" "[I" ∈ ALL := mem_t 1064 (by decide +kernel) (by decide +kernel)
theorem q1066 : Cond.laysFinal "ControlTextModel" "ControlTextModel" "parents" "[I" ∈ ALL := mem_t 1066 (by decide +kernel) (by decide +kernel)
theorem q1068 : Cond.laysFinal "ControlTextModel" "ControlTextModel" "firsts" "[I" ∈ ALL := mem_t 1068 (by decide +kernel) (by decide +kernel)
theorem q1070 : Cond.laysFinal "ControlTextModel" "ControlTextModel" "lasts" "[I" ∈ ALL := mem_t 1070 (by decide +kernel) (by decide +kernel)
theorem q1072 : Cond.laysFinal "ControlTextModel" "ControlTextModel" "siblings" "[I" ∈ ALL := mem_t 1072 (by decide +kernel) (by decide +kernel)
theorem q1074 : Cond.lays "ControlTextModel" "ControlTextModel" "current" "I" ∈ ALL := mem_t 1074 (by decide +kernel) (by decide +kernel)
theorem q1076 : Cond.lays "ControlTextModel" "ControlTextModel" "due" "I" ∈ ALL := mem_t 1076 (by decide +kernel) (by decide +kernel)
theorem q1078 : Cond.laysFinal "ControlTextModel" "ControlTextModel" "dues" "[I" ∈ ALL := mem_t 1078 (by decide +kernel) (by decide +kernel)
theorem q1080 : Cond.lays "ControlTextModel" "ControlTextModel" "open" "I" ∈ ALL := mem_t 1080 (by decide +kernel) (by decide +kernel)
theorem q1082 : Cond.lays "ControlTextModel" "ControlTextModel" "signsOpen" "I" ∈ ALL := mem_t 1082 (by decide +kernel) (by decide +kernel)
theorem q1084 : Cond.lays "ControlTextModel" "ControlTextModel" "inner" "I" ∈ ALL := mem_t 1084 (by decide +kernel) (by decide +kernel)
theorem q1086 : Cond.lays "ControlTextModel" "ControlTextModel" "namePlace" "I" ∈ ALL := mem_t 1086 (by decide +kernel) (by decide +kernel)
theorem q1088 : Cond.lays "ControlTextModel" "ControlTextModel" "nameNumber" "I" ∈ ALL := mem_t 1088 (by decide +kernel) (by decide +kernel)
theorem q1090 : Cond.lays "ControlTextModel" "ControlTextModel" "minusPlace" "I" ∈ ALL := mem_t 1090 (by decide +kernel) (by decide +kernel)
theorem q1092 : Cond.lays "ControlTextModel" "ControlTextModel" "operands" "I" ∈ ALL := mem_t 1092 (by decide +kernel) (by decide +kernel)
theorem q1094 : Cond.laysFinal "ControlTextModel" "ControlTextModel" "operand" "[I" ∈ ALL := mem_t 1094 (by decide +kernel) (by decide +kernel)
theorem q1096 : Cond.lays "ControlTextModel" "ControlTextModel" "waiting" "I" ∈ ALL := mem_t 1096 (by decide +kernel) (by decide +kernel)
theorem q1098 : Cond.laysFinal "ControlTextModel" "ControlTextModel" "waitingSign" "[I" ∈ ALL := mem_t 1098 (by decide +kernel) (by decide +kernel)
theorem q1100 : Cond.laysFinal "ControlTextModel" "ControlTextModel" "waitingPlace" "[I" ∈ ALL := mem_t 1100 (by decide +kernel) (by decide +kernel)
theorem q1102 : Cond.lays "ControlTextModel" "ControlTextModel" "beginnings" "I" ∈ ALL := mem_t 1102 (by decide +kernel) (by decide +kernel)
theorem q1104 : Cond.laysFinal "ControlTextModel" "ControlTextModel" "beginning" "[I" ∈ ALL := mem_t 1104 (by decide +kernel) (by decide +kernel)
theorem q1106 : Cond.lays "ControlTextModel" "ControlTextModel" "count" "I" ∈ ALL := mem_t 1106 (by decide +kernel) (by decide +kernel)
theorem q1108 : Cond.laysFinal "ControlTextModel" "ControlTextModel" "byNumber" "[I" ∈ ALL := mem_t 1108 (by decide +kernel) (by decide +kernel)
theorem q1110 : Cond.laysFinal "ControlTextModel" "ControlTextModel" "numberOf" "[I" ∈ ALL := mem_t 1110 (by decide +kernel) (by decide +kernel)
theorem q1112 : Cond.lays "ControlTextModel" "ControlTextModel" "writtenSize" "I" ∈ ALL := mem_t 1112 (by decide +kernel) (by decide +kernel)
theorem q1114 : Cond.laysFinal "ControlTextModel" "ControlTextModel" "written" "[I" ∈ ALL := mem_t 1114 (by decide +kernel) (by decide +kernel)
theorem q1116 : Cond.lays "ControlTextModel" "ControlTextModel" "items" "I" ∈ ALL := mem_t 1116 (by decide +kernel) (by decide +kernel)
theorem q1118 : Cond.laysFinal "ControlTextModel" "ControlTextModel" "itemKind" "[I" ∈ ALL := mem_t 1118 (by decide +kernel) (by decide +kernel)
theorem q1120 : Cond.laysFinal "ControlTextModel" "ControlTextModel" "itemOf" "[I" ∈ ALL := mem_t 1120 (by decide +kernel) (by decide +kernel)
theorem layX0a : ∀ w ∈ u_ws RX0 TX0 2, w ∈ ALL := by
  show ∀ w ∈ ([Cond.laysFinal "ControlText$Bytes" "ControlText$Bytes" "bytes" "[I", Cond.lays "ControlText$Bytes" "ControlText$Bytes" "size" "I"] : List Cond), w ∈ ALL
  exact List.forall_mem_cons.mpr ⟨q207, List.forall_mem_cons.mpr ⟨q209, fun _ h => absurd h List.not_mem_nil⟩⟩
theorem layX0 {c0 : Cond} : ∀ w ∈ u_ws RX0 TX0 2, w ∈ c0 :: ALL := fun w h => inA (layX0a w h)
theorem layX1a : ∀ w ∈ u_ws RX1 TX1 6, w ∈ ALL := by
  show ∀ w ∈ ([Cond.laysFinal "ControlText$Names" "ControlText$Names" "letters" "[I", Cond.laysFinal "ControlText$Names" "ControlText$Names" "starts" "[I", Cond.laysFinal "ControlText$Names" "ControlText$Names" "slotOf" "[I", Cond.laysFinal "ControlText$Names" "ControlText$Names" "slots" "[I", Cond.lays "ControlText$Names" "ControlText$Names" "size" "I", Cond.lays "ControlText$Names" "ControlText$Names" "used" "I"] : List Cond), w ∈ ALL
  exact List.forall_mem_cons.mpr ⟨q311, List.forall_mem_cons.mpr ⟨q313, List.forall_mem_cons.mpr ⟨q315, List.forall_mem_cons.mpr ⟨q317, List.forall_mem_cons.mpr ⟨q319, List.forall_mem_cons.mpr ⟨q321, fun _ h => absurd h List.not_mem_nil⟩⟩⟩⟩⟩⟩
theorem layX1 {c0 : Cond} : ∀ w ∈ u_ws RX1 TX1 6, w ∈ c0 :: ALL := fun w h => inA (layX1a w h)
theorem layX2a : ∀ w ∈ u_ws RX2 TX2 7, w ∈ ALL := by
  show ∀ w ∈ ([Cond.laysFinal "ControlText$Tokens" "ControlText$Tokens" "text" "LControlText$Bytes;", Cond.laysFinal "ControlText$Tokens" "ControlText$Tokens" "names" "LControlText$Names;", Cond.laysFinal "ControlText$Tokens" "ControlText$Tokens" "kinds" "[I", Cond.laysFinal "ControlText$Tokens" "ControlText$Tokens" "places" "[I", Cond.laysFinal "ControlText$Tokens" "ControlText$Tokens" "values" "[I", Cond.lays "ControlText$Tokens" "ControlText$Tokens" "size" "I", Cond.lays "ControlText$Tokens" "ControlText$Tokens" "at" "I"] : List Cond), w ∈ ALL
  exact List.forall_mem_cons.mpr ⟨q342, List.forall_mem_cons.mpr ⟨q344, List.forall_mem_cons.mpr ⟨q346, List.forall_mem_cons.mpr ⟨q348, List.forall_mem_cons.mpr ⟨q350, List.forall_mem_cons.mpr ⟨q352, List.forall_mem_cons.mpr ⟨q354, fun _ h => absurd h List.not_mem_nil⟩⟩⟩⟩⟩⟩⟩
theorem layX2 {c0 : Cond} : ∀ w ∈ u_ws RX2 TX2 7, w ∈ c0 :: ALL := fun w h => inA (layX2a w h)
theorem layX3a : ∀ w ∈ u_ws RX3 TX3 8, w ∈ ALL := by
  show ∀ w ∈ ([Cond.laysFinal "ControlText$Tree" "ControlText$Tree" "kinds" "[I", Cond.laysFinal "ControlText$Tree" "ControlText$Tree" "places" "[I", Cond.laysFinal "ControlText$Tree" "ControlText$Tree" "values" "[I", Cond.laysFinal "ControlText$Tree" "ControlText$Tree" "children" "[I", Cond.laysFinal "ControlText$Tree" "ControlText$Tree" "parents" "[I", Cond.laysFinal "ControlText$Tree" "ControlText$Tree" "ranks" "[I", Cond.laysFinal "ControlText$Tree" "ControlText$Tree" "met" "[I", Cond.lays "ControlText$Tree" "ControlText$Tree" "size" "I"] : List Cond), w ∈ ALL
  exact List.forall_mem_cons.mpr ⟨q374, List.forall_mem_cons.mpr ⟨q376, List.forall_mem_cons.mpr ⟨q378, List.forall_mem_cons.mpr ⟨q380, List.forall_mem_cons.mpr ⟨q382, List.forall_mem_cons.mpr ⟨q384, List.forall_mem_cons.mpr ⟨q386, List.forall_mem_cons.mpr ⟨q388, fun _ h => absurd h List.not_mem_nil⟩⟩⟩⟩⟩⟩⟩⟩
theorem layX3 {c0 : Cond} : ∀ w ∈ u_ws RX3 TX3 8, w ∈ c0 :: ALL := fun w h => inA (layX3a w h)
theorem layX4a : ∀ w ∈ u_ws RX4 TX4 12, w ∈ ALL := by
  show ∀ w ∈ ([Cond.laysFinal "ControlText$Parser" "ControlText$Parser" "tokens" "LControlText$Tokens;", Cond.laysFinal "ControlText$Parser" "ControlText$Parser" "tree" "LControlText$Tree;", Cond.lays "ControlText$Parser" "ControlText$Parser" "at" "I", Cond.lays "ControlText$Parser" "ControlText$Parser" "kind" "I", Cond.lays "ControlText$Parser" "ControlText$Parser" "place" "I", Cond.lays "ControlText$Parser" "ControlText$Parser" "value" "I", Cond.lays "ControlText$Parser" "ControlText$Parser" "placeBefore" "I", Cond.lays "ControlText$Parser" "ControlText$Parser" "signs" "I", Cond.lays "ControlText$Parser" "ControlText$Parser" "open" "I", Cond.lays "ControlText$Parser" "ControlText$Parser" "tooDeep" "Z", Cond.lays "ControlText$Parser" "ControlText$Parser" "fault" "I", Cond.lays "ControlText$Parser" "ControlText$Parser" "faultPlace" "I"] : List Cond), w ∈ ALL
  exact List.forall_mem_cons.mpr ⟨q411, List.forall_mem_cons.mpr ⟨q413, List.forall_mem_cons.mpr ⟨q415, List.forall_mem_cons.mpr ⟨q417, List.forall_mem_cons.mpr ⟨q419, List.forall_mem_cons.mpr ⟨q421, List.forall_mem_cons.mpr ⟨q423, List.forall_mem_cons.mpr ⟨q425, List.forall_mem_cons.mpr ⟨q427, List.forall_mem_cons.mpr ⟨q429, List.forall_mem_cons.mpr ⟨q431, List.forall_mem_cons.mpr ⟨q433, fun _ h => absurd h List.not_mem_nil⟩⟩⟩⟩⟩⟩⟩⟩⟩⟩⟩⟩
theorem layX4 {c0 : Cond} : ∀ w ∈ u_ws RX4 TX4 12, w ∈ c0 :: ALL := fun w h => inA (layX4a w h)
theorem layX5a : ∀ w ∈ u_ws RX5 TX5 3, w ∈ ALL := by
  show ∀ w ∈ ([Cond.laysFinal "ControlText$Writer" "ControlText$Writer" "tree" "LControlText$Tree;", Cond.laysFinal "ControlText$Writer" "ControlText$Writer" "names" "LControlText$Names;", Cond.laysFinal "ControlText$Writer" "ControlText$Writer" "out" "LControlText$Bytes;"] : List Cond), w ∈ ALL
  exact List.forall_mem_cons.mpr ⟨q445, List.forall_mem_cons.mpr ⟨q447, List.forall_mem_cons.mpr ⟨q449, fun _ h => absurd h List.not_mem_nil⟩⟩⟩
theorem layX5 {c0 : Cond} : ∀ w ∈ u_ws RX5 TX5 3, w ∈ c0 :: ALL := fun w h => inA (layX5a w h)
theorem layX6a : ∀ w ∈ u_ws RX6 TX6 7, w ∈ ALL := by
  show ∀ w ∈ ([Cond.laysFinal "ControlText" "ControlText" "text" "LControlText$Bytes;", Cond.laysFinal "ControlText" "ControlText" "written" "LControlText$Bytes;", Cond.laysFinal "ControlText" "ControlText" "names" "LControlText$Names;", Cond.laysFinal "ControlText" "ControlText" "tokens" "LControlText$Tokens;", Cond.laysFinal "ControlText" "ControlText" "tree" "LControlText$Tree;", Cond.laysFinal "ControlText" "ControlText" "parser" "LControlText$Parser;", Cond.laysFinal "ControlText" "ControlText" "writer" "LControlText$Writer;"] : List Cond), w ∈ ALL
  exact List.forall_mem_cons.mpr ⟨q459, List.forall_mem_cons.mpr ⟨q461, List.forall_mem_cons.mpr ⟨q463, List.forall_mem_cons.mpr ⟨q465, List.forall_mem_cons.mpr ⟨q467, List.forall_mem_cons.mpr ⟨q469, List.forall_mem_cons.mpr ⟨q471, fun _ h => absurd h List.not_mem_nil⟩⟩⟩⟩⟩⟩⟩
theorem layX6 {c0 : Cond} : ∀ w ∈ u_ws RX6 TX6 7, w ∈ c0 :: ALL := fun w h => inA (layX6a w h)
theorem layX8a : ∀ w ∈ u_ws RX8 TX8 48, w ∈ ALL := by
  show ∀ w ∈ ([Cond.laysFinal "ControlTextModel" "ControlTextModel" "letters" "[I", Cond.laysFinal "ControlTextModel" "ControlTextModel" "wordAt" "[I", Cond.laysFinal "ControlTextModel" "ControlTextModel" "signs" "[I", Cond.laysFinal "ControlTextModel" "ControlTextModel" "places" "[I", Cond.lays "ControlTextModel" "ControlTextModel" "size" "I", Cond.laysFinal "ControlTextModel" "ControlTextModel" "text" "[I", Cond.lays "ControlTextModel" "ControlTextModel" "begin" "I", Cond.lays "ControlTextModel" "ControlTextModel" "token" "I", Cond.lays "ControlTextModel" "ControlTextModel" "worth" "I", Cond.lays "ControlTextModel" "ControlTextModel" "next" "I", Cond.lays "ControlTextModel" "ControlTextModel" "lastPlace" "I", Cond.lays "ControlTextModel" "ControlTextModel" "fault" "I", Cond.lays "ControlTextModel" "ControlTextModel" "faultPlace" "I", Cond.lays "ControlTextModel" "ControlTextModel" "names" "I", Cond.laysFinal "ControlTextModel" "ControlTextModel" "nameAt" "[I", Cond.laysFinal "ControlTextModel" "ControlTextModel" "nameBytes" "[I", Cond.lays "ControlTextModel" "ControlTextModel" "nodes" "I", Cond.laysFinal "ControlTextModel" "ControlTextModel" "kinds" "[I", Cond.laysFinal "ControlTextModel" "ControlTextModel" "where" "[I", Cond.laysFinal "ControlTextModel" "ControlTextModel" "values" "[I", Cond.laysFinal "ControlTextModel" "ControlTextModel" "parents" "[I", Cond.laysFinal "ControlTextModel" "ControlTextModel" "firsts" "[I", Cond.laysFinal "ControlTextModel" "ControlTextModel" "lasts" "[I", Cond.laysFinal "ControlTextModel" "ControlTextModel" "siblings" "[I", Cond.lays "ControlTextModel" "ControlTextModel" "current" "I", Cond.lays "ControlTextModel" "ControlTextModel" "due" "I", Cond.laysFinal "ControlTextModel" "ControlTextModel" "dues" "[I", Cond.lays "ControlTextModel" "ControlTextModel" "open" "I", Cond.lays "ControlTextModel" "ControlTextModel" "signsOpen" "I", Cond.lays "ControlTextModel" "ControlTextModel" "inner" "I", Cond.lays "ControlTextModel" "ControlTextModel" "namePlace" "I", Cond.lays "ControlTextModel" "ControlTextModel" "nameNumber" "I", Cond.lays "ControlTextModel" "ControlTextModel" "minusPlace" "I", Cond.lays "ControlTextModel" "ControlTextModel" "operands" "I", Cond.laysFinal "ControlTextModel" "ControlTextModel" "operand" "[I", Cond.lays "ControlTextModel" "ControlTextModel" "waiting" "I", Cond.laysFinal "ControlTextModel" "ControlTextModel" "waitingSign" "[I", Cond.laysFinal "ControlTextModel" "ControlTextModel" "waitingPlace" "[I", Cond.lays "ControlTextModel" "ControlTextModel" "beginnings" "I", Cond.laysFinal "ControlTextModel" "ControlTextModel" "beginning" "[I", Cond.lays "ControlTextModel" "ControlTextModel" "count" "I", Cond.laysFinal "ControlTextModel" "ControlTextModel" "byNumber" "[I", Cond.laysFinal "ControlTextModel" "ControlTextModel" "numberOf" "[I", Cond.lays "ControlTextModel" "ControlTextModel" "writtenSize" "I", Cond.laysFinal "ControlTextModel" "ControlTextModel" "written" "[I", Cond.lays "ControlTextModel" "ControlTextModel" "items" "I", Cond.laysFinal "ControlTextModel" "ControlTextModel" "itemKind" "[I", Cond.laysFinal "ControlTextModel" "ControlTextModel" "itemOf" "[I"] : List Cond), w ∈ ALL
  exact List.forall_mem_cons.mpr ⟨q1026, List.forall_mem_cons.mpr ⟨q1028, List.forall_mem_cons.mpr ⟨q1030, List.forall_mem_cons.mpr ⟨q1032, List.forall_mem_cons.mpr ⟨q1034, List.forall_mem_cons.mpr ⟨q1036, List.forall_mem_cons.mpr ⟨q1038, List.forall_mem_cons.mpr ⟨q1040, List.forall_mem_cons.mpr ⟨q1042, List.forall_mem_cons.mpr ⟨q1044, List.forall_mem_cons.mpr ⟨q1046, List.forall_mem_cons.mpr ⟨q1048, List.forall_mem_cons.mpr ⟨q1050, List.forall_mem_cons.mpr ⟨q1052, List.forall_mem_cons.mpr ⟨q1054, List.forall_mem_cons.mpr ⟨q1056, List.forall_mem_cons.mpr ⟨q1058, List.forall_mem_cons.mpr ⟨q1060, List.forall_mem_cons.mpr ⟨q1062, List.forall_mem_cons.mpr ⟨q1064, List.forall_mem_cons.mpr ⟨q1066, List.forall_mem_cons.mpr ⟨q1068, List.forall_mem_cons.mpr ⟨q1070, List.forall_mem_cons.mpr ⟨q1072, List.forall_mem_cons.mpr ⟨q1074, List.forall_mem_cons.mpr ⟨q1076, List.forall_mem_cons.mpr ⟨q1078, List.forall_mem_cons.mpr ⟨q1080, List.forall_mem_cons.mpr ⟨q1082, List.forall_mem_cons.mpr ⟨q1084, List.forall_mem_cons.mpr ⟨q1086, List.forall_mem_cons.mpr ⟨q1088, List.forall_mem_cons.mpr ⟨q1090, List.forall_mem_cons.mpr ⟨q1092, List.forall_mem_cons.mpr ⟨q1094, List.forall_mem_cons.mpr ⟨q1096, List.forall_mem_cons.mpr ⟨q1098, List.forall_mem_cons.mpr ⟨q1100, List.forall_mem_cons.mpr ⟨q1102, List.forall_mem_cons.mpr ⟨q1104, List.forall_mem_cons.mpr ⟨q1106, List.forall_mem_cons.mpr ⟨q1108, List.forall_mem_cons.mpr ⟨q1110, List.forall_mem_cons.mpr ⟨q1112, List.forall_mem_cons.mpr ⟨q1114, List.forall_mem_cons.mpr ⟨q1116, List.forall_mem_cons.mpr ⟨q1118, List.forall_mem_cons.mpr ⟨q1120, fun _ h => absurd h List.not_mem_nil⟩⟩⟩⟩⟩⟩⟩⟩⟩⟩⟩⟩⟩⟩⟩⟩⟩⟩⟩⟩⟩⟩⟩⟩⟩⟩⟩⟩⟩⟩⟩⟩⟩⟩⟩⟩⟩⟩⟩⟩⟩⟩⟩⟩⟩⟩⟩⟩
theorem layX8 {c0 : Cond} : ∀ w ∈ u_ws RX8 TX8 48, w ∈ c0 :: ALL := fun w h => inA (layX8a w h)
def nestF : List (String × Nat × String × String × String × String) := [("ControlText", 62, "ControlText$Bytes", "size", "I", "ControlText"), ("ControlText$Tokens", 89, "ControlText$Bytes", "size", "I", "ControlText"), ("ControlText$Writer", 141, "ControlText$Bytes", "size", "I", "ControlText"), ("ControlText", 99, "ControlText$Names", "size", "I", "ControlText"), ("ControlText$Parser", 100, "ControlText$Tokens", "kinds", "[I", "ControlText"), ("ControlText$Parser", 104, "ControlText$Tokens", "places", "[I", "ControlText"), ("ControlText$Parser", 107, "ControlText$Tokens", "values", "[I", "ControlText"), ("ControlText$Parser", 97, "ControlText$Tokens", "size", "I", "ControlText"), ("ControlText$Writer", 29, "ControlText$Tree", "size", "I", "ControlText"), ("ControlText", 98, "ControlText$Tree", "size", "I", "ControlText"), ("ControlText$Parser", 165, "ControlText$Tree", "size", "I", "ControlText"), ("ControlText", 85, "ControlText$Parser", "fault", "I", "ControlText"), ("ControlText", 95, "ControlText$Parser", "faultPlace", "I", "ControlText")]
def nestM : List (String × Nat × MethodName × String) := [("ControlText$Names", 66, yX6_great, "ControlText"), ("ControlText", 39, yX3_init, "ControlText"), ("ControlText$Tokens", 61, yX6_great, "ControlText"), ("ControlText$Tokens", 67, yX6_isDigit, "ControlText"), ("ControlText$Tokens", 74, yX6_isNameByte, "ControlText"), ("ControlText$Writer", 145, yX6_isNameByte, "ControlText")]
theorem nf0 : ("ControlText", 62, "ControlText$Bytes", "size", "I", "ControlText") ∈ nestF := List.mem_of_getElem? (i := 0) rfl
theorem nf1 : ("ControlText$Tokens", 89, "ControlText$Bytes", "size", "I", "ControlText") ∈ nestF := List.mem_of_getElem? (i := 1) rfl
theorem nf2 : ("ControlText$Writer", 141, "ControlText$Bytes", "size", "I", "ControlText") ∈ nestF := List.mem_of_getElem? (i := 2) rfl
theorem nf3 : ("ControlText", 99, "ControlText$Names", "size", "I", "ControlText") ∈ nestF := List.mem_of_getElem? (i := 3) rfl
theorem nf4 : ("ControlText$Parser", 100, "ControlText$Tokens", "kinds", "[I", "ControlText") ∈ nestF := List.mem_of_getElem? (i := 4) rfl
theorem nf5 : ("ControlText$Parser", 104, "ControlText$Tokens", "places", "[I", "ControlText") ∈ nestF := List.mem_of_getElem? (i := 5) rfl
theorem nf6 : ("ControlText$Parser", 107, "ControlText$Tokens", "values", "[I", "ControlText") ∈ nestF := List.mem_of_getElem? (i := 6) rfl
theorem nf7 : ("ControlText$Parser", 97, "ControlText$Tokens", "size", "I", "ControlText") ∈ nestF := List.mem_of_getElem? (i := 7) rfl
theorem nf8 : ("ControlText$Writer", 29, "ControlText$Tree", "size", "I", "ControlText") ∈ nestF := List.mem_of_getElem? (i := 8) rfl
theorem nf9 : ("ControlText", 98, "ControlText$Tree", "size", "I", "ControlText") ∈ nestF := List.mem_of_getElem? (i := 9) rfl
theorem nf10 : ("ControlText$Parser", 165, "ControlText$Tree", "size", "I", "ControlText") ∈ nestF := List.mem_of_getElem? (i := 10) rfl
theorem nf11 : ("ControlText", 85, "ControlText$Parser", "fault", "I", "ControlText") ∈ nestF := List.mem_of_getElem? (i := 11) rfl
theorem nf12 : ("ControlText", 95, "ControlText$Parser", "faultPlace", "I", "ControlText") ∈ nestF := List.mem_of_getElem? (i := 12) rfl
theorem nm0_in : ("ControlText$Names", 66, yX6_great, "ControlText") ∈ nestM := List.mem_of_getElem? (i := 0) rfl
theorem nm1_in : ("ControlText", 39, yX3_init, "ControlText") ∈ nestM := List.mem_of_getElem? (i := 1) rfl
theorem nm2_in : ("ControlText$Tokens", 61, yX6_great, "ControlText") ∈ nestM := List.mem_of_getElem? (i := 2) rfl
theorem nm3_in : ("ControlText$Tokens", 67, yX6_isDigit, "ControlText") ∈ nestM := List.mem_of_getElem? (i := 3) rfl
theorem nm4_in : ("ControlText$Tokens", 74, yX6_isNameByte, "ControlText") ∈ nestM := List.mem_of_getElem? (i := 4) rfl
theorem nm5_in : ("ControlText$Writer", 145, yX6_isNameByte, "ControlText") ∈ nestM := List.mem_of_getElem? (i := 5) rfl
abbrev t_BETWEEN : List Int32 := [286, 287, 38, 61, 15422, 60, 62, 15421, 15933, 43, 45, 42, 47, 289]
abbrev t_BINDING : List Int32 := [0, 1, 2, 3, 3, 4, 4, 4, 4, 5, 5, 6, 6, 6]
def statA : List (String × String × Nat × List Int32) := [("ControlText$Sign", "BETWEEN", 0, t_BETWEEN), ("ControlText$Sign", "BINDING", 1, t_BINDING)]
theorem st0 : ("ControlText$Sign", "BETWEEN", 0, t_BETWEEN) ∈ statA := List.mem_of_getElem? (i := 0) rfl
theorem st1 : ("ControlText$Sign", "BINDING", 1, t_BINDING) ∈ statA := List.mem_of_getElem? (i := 1) rfl
end
section
/-! Words for what a method computes: an Option, none where the machine would leave the road (an index out of its row, a division by 0, no fuel). -/
def FU : Nat := 20000
def nm {α β : Type} (a : α) (f : α → Option β) : Option β := f a
def gd {β : Type} (i : Int32) (n : Nat) (k : Option β) : Option β := if ¬ (i < 0 ∨ n ≤ i.toNatClampNeg) then k else none
def dz {β : Type} (y : Int32) (k : Option β) : Option β := if y = 0 then none else k
def ac {β : Type} (sp dp n : Int32) (n0 n1 : Nat) (k : Option β) : Option β := if ¬ sp < 0 ∧ ¬ dp < 0 ∧ ¬ n < 0 ∧ sp.toNatClampNeg + n.toNatClampNeg ≤ n0 ∧ dp.toNatClampNeg + n.toNatClampNeg ≤ n1 then k else none
theorem nm_use {α β : Type} {a x : α} {f : α → Option β} {r : β} (e : x = a) (h : nm a f = some r) : f x = some r := by subst e; exact h
theorem gd_use {β : Type} {i : Int32} {n : Nat} {k : Option β} {r : β} (h : gd i n k = some r) : vp_in i n ∧ k = some r := by
  unfold gd at h
  by_cases c : ¬ (i < 0 ∨ n ≤ i.toNatClampNeg)
  · rw [if_pos c] at h; exact ⟨c, h⟩
  · rw [if_neg c] at h; cases h
theorem dz_use {β : Type} {y : Int32} {k : Option β} {r : β} (h : dz y k = some r) : ¬ y = 0 ∧ k = some r := by
  unfold dz at h
  by_cases c : y = 0
  · rw [if_pos c] at h; cases h
  · rw [if_neg c] at h; exact ⟨c, h⟩
theorem ac_use {β : Type} {sp dp n : Int32} {n0 n1 : Nat} {k : Option β} {r : β} (h : ac sp dp n n0 n1 k = some r) : ¬ sp < 0 ∧ ¬ dp < 0 ∧ ¬ n < 0 ∧ sp.toNatClampNeg + n.toNatClampNeg ≤ n0 ∧ dp.toNatClampNeg + n.toNatClampNeg ≤ n1 ∧ k = some r := by
  unfold ac at h
  by_cases c : ¬ sp < 0 ∧ ¬ dp < 0 ∧ ¬ n < 0 ∧ sp.toNatClampNeg + n.toNatClampNeg ≤ n0 ∧ dp.toNatClampNeg + n.toNatClampNeg ≤ n1
  · rw [if_pos c] at h; exact ⟨c.1, c.2.1, c.2.2.1, c.2.2.2.1, c.2.2.2.2, h⟩
  · rw [if_neg c] at h; cases h
theorem ob_use {α β : Type} {x : Option α} {f : α → Option β} {t : β} (h : x.bind f = some t) : ∃ r, x = some r ∧ f r = some t := by
  cases x with
  | none => cases h
  | some r => exact ⟨r, rfl, h⟩
theorem if_t {β : Type} {c : Prop} {dc : Decidable c} {a b x : β} (hc : c) (h : (if c then a else b) = x) : a = x := by rw [if_pos hc] at h; exact h
theorem if_f {β : Type} {c : Prop} {dc : Decidable c} {a b x : β} (hc : ¬ c) (h : (if c then a else b) = x) : b = x := by rw [if_neg hc] at h; exact h
theorem sw_hit {x k : Int32} {a o d : Int} {r : List (Int × Int)} (h : x = k) (hk : k.toInt = a) : Op.lookupswitch.offset ((a, o) :: r) d x.toInt = o := by
  rw [Op.lookupswitch.offset_cons, if_pos]
  rw [h, hk]
/-- some cells of a world by others, place for place -/
def va_rep : va_W → List Nat → va_W → va_W
  | w, i :: is, x :: xs => va_rep (w.set i x) is xs
  | w, _, _ => w
theorem va_rep_get : ∀ (is : List Nat) (xs w : va_W) (k : Nat) (q : Nat × va_E), (va_rep w is xs)[k]? = some q → (∃ j : Nat, xs[j]? = some q) ∨ (w[k]? = some q ∧ k ∉ is.take xs.length)
  | [], xs, w, k, q, h => Or.inr ⟨by simpa [va_rep] using h, by simp⟩
  | _ :: _, [], w, k, q, h => Or.inr ⟨by simpa [va_rep] using h, by simp⟩
  | i :: is, x :: xs, w, k, q, h => by
    rcases va_rep_get is xs (w.set i x) k q h with ⟨j, hj⟩ | ⟨h1, h2⟩
    · exact Or.inl ⟨j + 1, by simpa using hj⟩
    · by_cases e : k = i
      · subst e
        rw [List.getElem?_set] at h1
        by_cases hl : k < w.length
        · simp [hl] at h1
          exact Or.inl ⟨0, by simp [h1]⟩
        · simp [hl] at h1
      · rw [List.getElem?_set_ne (Ne.symm e)] at h1
        refine Or.inr ⟨h1, ?_⟩
        simp only [List.length_cons, List.take_succ_cons, List.mem_cons, not_or]
        exact ⟨e, h2⟩
theorem va_D.fst {A : Nat → Prop} {w w' : va_W} (hD : va_D A w) (h : w'.map Prod.fst = w.map Prod.fst) : va_D A w' := by
  have key : ∀ (k : Nat) (q : Nat × va_E), w'[k]? = some q → ∃ q', w[k]? = some q' ∧ q'.1 = q.1 := by
    intro k q hq
    have h1 : (w'.map Prod.fst)[k]? = some q.1 := by rw [List.getElem?_map, hq]; rfl
    rw [h, List.getElem?_map] at h1
    cases hw : w[k]? with
    | none => rw [hw] at h1; cases h1
    | some q' => rw [hw] at h1; exact ⟨q', rfl, Option.some.inj h1⟩
  refine ⟨fun i j p q hi hj e => ?_, fun k q hk => ?_⟩
  · obtain ⟨p', a1, a2⟩ := key i p hi
    obtain ⟨q', b1, b2⟩ := key j q hj
    exact hD.1 i j p' q' a1 b1 (by rw [a2, b2, e])
  · obtain ⟨q', a1, a2⟩ := key k q hk
    have := hD.2 k q' a1
    rw [a2] at this
    exact this
theorem va_rep_P {A : Nat → Prop} {D : va_G} {cl : List vw_C} {w wc w1 : va_W} {H H1 : Heap} (hP : va_P D cl w H) (hD : va_D A w) (isC : List Nat) (hC : isC.map (fun i => w[i]?) = wc.map some) (hlen : w1.length = wc.length)
    (hk : ∀ q : Nat, q < H.size → ¬ va_A wc H.size q → H1[q]? = H[q]?) (hP1 : va_P D cl w1 H1) : va_P D cl (va_rep w isC w1) H1 := by
  intro k q hq
  rcases va_rep_get isC w1 w k q hq with ⟨j, hj⟩ | ⟨h1, h2⟩
  · exact hP1 j q hj
  · have hlt := (hP k q h1).lt
    refine (hP k q h1).kept (hk q.1 hlt ?_)
    rintro (⟨k2, e, h⟩ | h)
    · have h3 : (isC.map (fun i => w[i]?))[k2]? = some (some (q.1, e)) := by rw [hC, List.getElem?_map, h]; rfl
      rw [List.getElem?_map] at h3
      cases hi : isC[k2]? with
      | none => rw [hi] at h3; cases h3
      | some i =>
        rw [hi] at h3
        have h4 : w[i]? = some (q.1, e) := Option.some.inj h3
        have h5 := hD.1 k i q (q.1, e) h1 h4 rfl
        subst h5
        apply h2
        have hl2 : isC.length = wc.length := by have := congrArg List.length hC; simpa using this
        rw [hlen, ← hl2, List.take_length]
        exact List.mem_of_getElem? hi
    · omega
end
section
/-! What holds beside the world: links to private members of nest mates, and the rows of numbers in static fields. -/
def Ev (cI : ClassId) (sd : Nat → Nat) (A : Nat → Prop) (U : State) : Prop :=
  (∀ q ∈ nestF, va_Nw (.fieldLinkNest q.1 q.2.1 q.2.2.1 q.2.2.2.1 q.2.2.2.2.1 q.2.2.2.2.2) U) ∧ (∀ q ∈ nestM, va_Nw (.methodLinkNest q.1 q.2.1 q.2.2.1 q.2.2.2) U) ∧
  ∀ q ∈ statA, va_Z q.1 q.2.1 "[I" (.ref (sd q.2.2.1)) A U U.heap ∧ U.heap[sd q.2.2.1]? = some (vp_cell cI (q.2.2.2.length, .inl (fun j => q.2.2.2.getD j 0))) ∧ ¬ A (sd q.2.2.1)
theorem Ev.go {cI : ClassId} {sd : Nat → Nat} {A A1 : Nat → Prop} {s U : State} (hW : s.WarmedH U.vm) (hq : ∀ a : Nat, a < s.heap.size → ¬ A a → U.heap[a]? = s.heap[a]?) (hA : ∀ q, A1 q → A q) (h : Ev cI sd A s) : Ev cI sd A1 U := by
  refine ⟨fun q hq2 => va_Nw.warmF hW (h.1 q hq2), fun q hq2 => va_Nw.warmM hW (h.2.1 q hq2), fun q hq2 => ?_⟩
  obtain ⟨h1, h2, h3⟩ := h.2.2 q hq2
  refine ⟨((h1.moved hW.alike).kept hq).narrow hA, ?_, fun z => h3 (hA _ z)⟩
  rw [hq _ (Array.getElem?_eq_some_iff.mp h2).1 h3]
  exact h2
theorem Ev.same {cI : ClassId} {sd : Nat → Nat} {A : Nat → Prop} {s U : State} (hv : s.vm = U.vm) (hh : U.heap = s.heap) (h : Ev cI sd A s) : Ev cI sd A U := by
  refine ⟨fun q hq2 => va_Nw.same rfl hv (h.1 q hq2), fun q hq2 => va_Nw.same rfl hv (h.2.1 q hq2), fun q hq2 => ?_⟩
  obtain ⟨h1, h2, h3⟩ := h.2.2 q hq2
  rw [hh]
  exact ⟨h1.moved (by rw [hv]; exact Vm.Alike.refl _), h2, h3⟩
/-- a contract: from the world w0 to the world w1, the answer 'ret', nothing else changed, nothing made -/
def CP (D : va_G) (cI : ClassId) (sd : Nat → Nat) (w0 : va_W) (as : List Value) (sz : Nat) : Array Value → State → Prop := va_Pc as (fun U => U.heap.size = sz ∧ va_P D vwCl w0 U.heap ∧ va_K D vwCl [(cI, .int)] U ∧ va_D (fun _ => True) w0 ∧ Ev cI sd (va_A w0 sz) U)
def CQ (D : va_G) (A : Nat → Prop) (w1 : va_W) (ret : Option Value) : Array Value → State → Outcome → State → Prop := fun _ st oc t => (oc = .returned ret ∧ va_P D vwCl w1 t.heap ∧ va_D A w1) ∧ va_F A st t
def Ctr (l : Launch) (D : va_G) (cI : ClassId) (sd : Nat → Nat) (y : MethodName) (ws : List Cond) (rm : Room) (as : List Value) (w0 w1 : va_W) (ret : Option Value) : Prop := ∀ sz : Nat, Met l y ws rm (CP D cI sd w0 as sz) (CQ D (va_A w0 sz) w1 ret) 0 0 (va_A w0 sz)
theorem CP.blind {D : va_G} {cI : ClassId} {sd : Nat → Nat} {w0 : va_W} {as : List Value} {sz : Nat} : FrameBlind (CP D cI sd w0 as sz) := fun a U g mk q => by
  obtain ⟨q0, q1, qP, qK, qD, qE⟩ := q
  exact ⟨q0, q1, qP, va_K.moved (u := U) (U := U.calling g mk a) (Vm.Alike.refl U.vm) qK, qD, Ev.same (s := U) (U := U.calling g mk a) rfl rfl qE⟩
/-- a contract out of a walk, for methods of the JDK too -/
theorem met_of {l : Launch} {y : MethodName} {ws ws' : List Cond} {rm : Room} {Pc : Array Value → State → Prop} {Qc : Array Value → State → Outcome → State → Prop} {mc ms : Nat} {free : Addr → Prop} {cc : ByteArray} {maxL : Nat} {rt : Option FieldType}
    (hy : plainFor y = true) (hw : ws = Cond.code y cc maxL rt :: ws')
    (body : ∀ p e s m args below meth c s₁, BodyLoose p l y (headSpec ws rm) cc maxL rt e s m args below meth c s₁ → c.maxLocals = maxL → Pc args s →
      W p l e rm s m args below meth c s.heap [] 0 0 (MQ below Qc args s mc ms free) (entryFrame m args maxL)) : Met l y ws rm Pc Qc mc ms free := by
  refine MetFree.of_bodySF (code := cc) (maxLocals := maxL) (ret := rt) hy (fun args s m h hn => ?_) (fun p e s m args below meth c s₁ B hml hP _ => ?_)
  · obtain ⟨meth, c, h1, h2, h3, h4, h5, h6, -, -⟩ := Cond.code_spec hn (atoms_spec (ws := ws) h _ (by rw [hw]; exact List.mem_cons_self))
    exact ⟨meth, c, h1, h2, h3, h4, h5, h6⟩
  · obtain ⟨t, a1, o, b1, b2, b3⟩ := body p e s m args below meth c s₁ B hml hP s₁ (by rw [B.state]; rfl) (Stand.of_body B)
    exact ⟨t, o, a1, b1, b2, ⟨b3.1, b3.2⟩⟩
theorem Ctr.of {l : Launch} {D : va_G} {cI : ClassId} {sd : Nat → Nat} {y : MethodName} {ws ws' : List Cond} {rm : Room} {as : List Value} {w0 w1 : va_W} {ret : Option Value} {cc : ByteArray} {maxL : Nat} {rt : Option FieldType} {own : String}
    (hy : plainFor y = true) (hw : ws = Cond.code y cc maxL rt :: ws') (hcl : y.cls = own) (hsl : (lg_sl as).length ≤ maxL)
    (body : ∀ (p : Program) (e : Env) (s : State) (m : MethodId) (below : List Frame) (meth : Method) (c : Code) (A : Nat → Prop) (ls : Array Slot), p.tables.exec = Jvm.exec → c.code = cc → meth.sig.returnType = rt → c.maxLocals = maxL → s.vm.findClass own = some m.cls → (∀ w ∈ ws, w.before as.toArray s = true) → meth.locks = false → va_K D vwCl [(cI, .int)] s → Ev cI sd A s → (∀ q : Nat, s.heap.size ≤ q → A q) → va_P D vwCl w0 s.heap → va_D A w0 → va_S A s.heap s.heap [] → lv_has ls maxL (lv_args 0 as) →
      W p l e rm s m as.toArray below meth c s.heap [] 0 0 (MQ below (CQ D A w1 ret) as.toArray s 0 0 A) (F0 m 0 ls [])) : Ctr l D cI sd y ws rm as w0 w1 ret := by
  intro sz
  refine met_of (cc := cc) (maxL := maxL) (rt := rt) hy hw ?_
  intro p e s m args below meth c s₁ B hml hv
  obtain ⟨rfl, hsz, hP, hK, hD0, hE⟩ := hv
  subst hsz
  have hts := atoms_spec (ws := ws) B.pre
  have hown : s.vm.findClass y.cls = some m.cls := findClass_of_methodNamed B.named
  rw [lg_entry_eq]
  exact body p e s m below meth c _ _ B.exec B.bytes B.returns hml (hcl ▸ hown) hts B.notSynchronized hK hE (fun q h => Or.inr h) hP hD0.self va_S.rf (lv_entry as hsl)
section RT
variable {p : Program} {l : Launch} {e : Env} {R : Room} {s : State} {m : MethodId} {args : Array Value} {below : List Frame} {meth : Method} {c : Code} {H : Heap} {locs : List Loc} {cc : ByteArray} {D : va_G} {A : Nat → Prop} {w1 : va_W} {ret : Option Value} {pc : Nat} {ls : Array Slot}
theorem rt_v (hx : p.tables.exec = Jvm.exec) (hb : c.code = cc) (hr : meth.sig.returnType = none) (hlk : meth.locks = false) (hP : va_P D vwCl w1 H) (hD : va_D A w1) (hS : va_S A s.heap H locs) (he : ret = none) (hdg : decode cc pc = .ok (.return_, 1)) : W p l e R s m args below meth c H locs 0 0 (MQ below (CQ D A w1 ret) args s 0 0 A) (F0 m pc ls []) := by
  subst he
  exact W.vret hx hb hr (fun t ht hW => ⟨⟨rfl, by rw [ht]; exact hP, hD⟩, hS.F ht⟩) hS.2.2 hdg hlk
theorem rt_i {v : Int32} (hx : p.tables.exec = Jvm.exec) (hb : c.code = cc) (hr : meth.sig.returnType = some .int) (hlk : meth.locks = false) (hP : va_P D vwCl w1 H) (hD : va_D A w1) (hS : va_S A s.heap H locs) (he : ret = some (.int v)) (hdg : decode cc pc = .ok (.ireturn, 1)) : W p l e R s m args below meth c H locs 0 0 (MQ below (CQ D A w1 ret) args s 0 0 A) (F0 m pc ls [.int v]) := by
  subst he
  exact W.iret hx hb hr (fun t ht hW => ⟨⟨rfl, by rw [ht]; exact hP, hD⟩, hS.F ht⟩) hS.2.2 hdg hlk
theorem rt_z {v : Int32} {ty : FieldType} (hx : p.tables.exec = Jvm.exec) (hb : c.code = cc) (hr : meth.sig.returnType = some ty) (hlk : meth.locks = false) (hn : narrow ty (.int v) = .int v) (hP : va_P D vwCl w1 H) (hD : va_D A w1) (hS : va_S A s.heap H locs) (he : ret = some (.int v)) (hdg : decode cc pc = .ok (.ireturn, 1)) : W p l e R s m args below meth c H locs 0 0 (MQ below (CQ D A w1 ret) args s 0 0 A) (F0 m pc ls [.int v]) := by
  subst he
  exact W.zret hx hb hr hn (fun t ht hW => ⟨⟨rfl, by rw [ht]; exact hP, hD⟩, hS.F ht⟩) hS.2.2 hdg hlk
theorem rt_l {v : Int64} (hx : p.tables.exec = Jvm.exec) (hb : c.code = cc) (hr : meth.sig.returnType = some .long) (hlk : meth.locks = false) (hP : va_P D vwCl w1 H) (hD : va_D A w1) (hS : va_S A s.heap H locs) (he : ret = some (.long v)) (hdg : decode cc pc = .ok (.lreturn, 1)) : W p l e R s m args below meth c H locs 0 0 (MQ below (CQ D A w1 ret) args s 0 0 A) (F0 m pc ls [.long v]) := by
  subst he
  exact W.lret hx hb hr (fun t ht hW => ⟨⟨rfl, by rw [ht]; exact hP, hD⟩, hS.F ht⟩) hS.2.2 hdg hlk
end RT
theorem va_subP {D : va_G} {cl : List vw_C} {w wc : va_W} {H : Heap} (hP : va_P D cl w H) (isC : List Nat) (hi : isC.map (fun i => w[i]?) = wc.map some) : va_P D cl wc H := by
  intro k q hk
  have h1 : (isC.map (fun i => w[i]?))[k]? = some (some q) := by rw [hi, List.getElem?_map, hk]; rfl
  rw [List.getElem?_map] at h1
  cases hj : isC[k]? with
  | none => rw [hj] at h1; cases h1
  | some i =>
    rw [hj] at h1
    exact hP i q (Option.some.inj h1)
section CL
variable {p : Program} {l : Launch} {e : Env} {R : Room} {s : State} {m : MethodId} {args : Array Value} {below : List Frame} {meth : Method} {c : Code} {H : Heap} {locs : List Loc} {cells slots : Nat} {Q : State → Prop}
variable {cc : ByteArray} {pc nL : Nat} {ls : Array Slot} {D : va_G} {cI : ClassId} {sd : Nat → Nat} {A : Nat → Prop} {w wc w1 : va_W} {ret : Option Value}
variable {y : MethodName} {bytes : ByteArray} {maxL n index : Nat} {rt : Option FieldType} {ws Ts : List Cond} {rm : Room} {own C host : String} {b : Addr} {As rest st0 : List Value}
/-- behind a call that made nothing: the caller's world with the callee's cells as they are now -/
theorem cl_go (w' : va_W) (st1 : List Value) {a : Array Value} (run : va_Run p l e R s m args below meth c H locs cells slots 0 0 (F0 m pc ls st0) rest (CQ D (va_A wc H.size) w1 ret a) (va_A wc H.size))
    (hA : ∀ q : Nat, s.heap.size ≤ q → A q) (hP : va_P D vwCl w H) (hD : va_D A w) (hS : va_S A s.heap H locs) (isC : List Nat) (hi : isC.map (fun i => w[i]?) = wc.map some) (hw : va_rep w isC w1 = w') (hf1 : w1.length = wc.length) (hf2 : w'.map Prod.fst = w.map Prod.fst) (h1 : ret.toList ++ rest = st1)
    (kk : ∀ (H1 : Heap) (locs1 : List Loc), va_P D vwCl w' H1 → va_D A w' → va_S A s.heap H1 locs1 → W p l e R s m args below meth c H1 locs1 cells slots Q (F0 m (pc + 3) ls st1)) : W p l e R s m args below meth c H locs cells slots Q (F0 m pc ls st0) := by
  have hF := va_free (wc := wc) hD hS hA isC hi
  intro T hT X
  obtain ⟨v, st₀, t, T', L, h0, X', hL, e1, e2, ⟨⟨hv, hP1, hD1⟩, hz, hk⟩, st⟩ := run T hT X
  cases hv
  rw [h0] at hz hk
  rw [h1] at st
  have hk' : ∀ q : Nat, q < H.size → ¬ va_A wc H.size q → T'.heap[q]? = H[q]? := fun q h1 h2 => by rw [e1]; exact hk q h1 h2
  have hP2 : va_P D vwCl w' T'.heap := by
    rw [← hw]
    exact va_rep_P hP hD isC hi hf1 hk' (by rw [e1]; exact hP1)
  obtain ⟨t2, a1, b1⟩ := kk T'.heap (locs ++ L) hP2 (hD.fst hf2)
    ⟨Nat.le_trans hS.1 (by rw [e1]; exact hz), fun q h1 h2 => by rw [hk' q (Nat.lt_of_lt_of_le h1 hS.1) (fun z => h2 (hF q z))]; exact hS.2.1 q h1 h2, fun q hq => by
      rcases List.mem_append.mp hq with h | h
      · exact hS.2.2 q h
      · exact hF _ (hL q h)⟩ T' rfl X'
  exact ⟨t2, st t2 a1, b1⟩
theorem cl_pre (hK : va_K D vwCl [(cI, .int)] s) (hE : Ev cI sd A s) (hA : ∀ q : Nat, s.heap.size ≤ q → A q) (hP : va_P D vwCl w H) (hD : va_D A w) (hS : va_S A s.heap H locs) (isC : List Nat) (hi : isC.map (fun i => w[i]?) = wc.map some) (hnd : va_nd isC = true) (as : List Value) :
    ∀ U : State, U.heap = H → s.WarmedH U.vm → CP D cI sd wc as H.size as.toArray U := by
  have hF := va_free (wc := wc) hD hS hA isC hi
  intro U hU hW
  refine ⟨rfl, by rw [hU], by rw [hU]; exact va_subP hP isC hi, va_K.moved hW.alike hK, (hD.sub isC hnd hi).weaken (fun _ _ _ _ => trivial), Ev.go hW (fun a h1 h2 => by rw [hU]; exact hS.2.1 a h1 h2) hF hE⟩
theorem cl_V (w' : va_W) (st1 : List Value) (F : CallFix p m c cc nL s args Ts own) (hC : Ctr l D cI sd y ws rm (.ref b :: As) wc w1 ret) (cw : CallW R s args own C index y bytes maxL rt ws rm 0 0 n)
    (hK : va_K D vwCl [(cI, .int)] s) (hE : Ev cI sd A s) (hA : ∀ q : Nat, s.heap.size ≤ q → A q) (hP : va_P D vwCl w H) (hD : va_D A w) (hS : va_S A s.heap H locs) (q0 : Nat) {ci N : Nat} {T : u_T} {fs : List Value} (hc : vwCl[ci]? = some (C, T, N)) (he : w[q0]? = some (b, .inr (ci, fs)))
    (isC : List Nat) (hi : isC.map (fun i => w[i]?) = wc.map some) (hnd : va_nd isC = true) (hw : va_rep w isC w1 = w') (hf1 : w1.length = wc.length) (hf2 : w'.map Prod.fst = w.map Prod.fst) (h1 : ret.toList ++ rest = st1)
    (hst : st0 = As.reverse ++ .ref b :: rest) (hn : As.length = n) (hsz : ls.size = nL) (hro : (rest.map fun v => v.category).sum ≤ 8) (hdg : decode cc pc = .ok (.invokevirtual index, 3)) (hf : cells + 0 ≤ R.cells ∧ slots + 0 ≤ R.slots)
    (kk : ∀ (H1 : Heap) (locs1 : List Loc), va_P D vwCl w' H1 → va_D A w' → va_S A s.heap H1 locs1 → W p l e R s m args below meth c H1 locs1 cells slots Q (F0 m (pc + 3) ls st1)) : W p l e R s m args below meth c H locs cells slots Q (F0 m pc ls st0) :=
  cl_go w' st1 (va_runV F (hC H.size) cw ⟨CP.blind, va_recv hK hP hc he, cl_pre hK hE hA hP hD hS isC hi hnd _⟩ rfl hn hsz hst (lv_room hro) hdg hf) hA hP hD hS isC hi hw hf1 hf2 h1 kk
theorem cl_S (w' : va_W) (st1 : List Value) (F : CallFix p m c cc nL s args Ts own) (hC : Ctr l D cI sd y ws rm As wc w1 ret) (cw : CallB R s args own index y bytes maxL rt ws rm 0 0 n ∧ (Cond.static y).before args s = true)
    (hK : va_K D vwCl [(cI, .int)] s) (hE : Ev cI sd A s) (hA : ∀ q : Nat, s.heap.size ≤ q → A q) (hP : va_P D vwCl w H) (hD : va_D A w) (hS : va_S A s.heap H locs)
    (isC : List Nat) (hi : isC.map (fun i => w[i]?) = wc.map some) (hnd : va_nd isC = true) (hw : va_rep w isC w1 = w') (hf1 : w1.length = wc.length) (hf2 : w'.map Prod.fst = w.map Prod.fst) (h1 : ret.toList ++ rest = st1)
    (hst : st0 = As.reverse ++ rest) (hn : As.length = n) (hsz : ls.size = nL) (hro : (rest.map fun v => v.category).sum ≤ 8) (hdg : decode cc pc = .ok (.invokestatic index, 3)) (hf : cells + 0 ≤ R.cells ∧ slots + 0 ≤ R.slots)
    (kk : ∀ (H1 : Heap) (locs1 : List Loc), va_P D vwCl w' H1 → va_D A w' → va_S A s.heap H1 locs1 → W p l e R s m args below meth c H1 locs1 cells slots Q (F0 m (pc + 3) ls st1)) : W p l e R s m args below meth c H locs cells slots Q (F0 m pc ls st0) :=
  cl_go w' st1 (va_runS F (hC H.size) cw ⟨CP.blind, cl_pre hK hE hA hP hD hS isC hi hnd _⟩ rfl hn hsz hst (lv_room hro) hdg hf) hA hP hD hS isC hi hw hf1 hf2 h1 kk
theorem cl_SN (w' : va_W) (st1 : List Value) (F : CallFix p m c cc nL s args Ts own) (hC : Ctr l D cI sd y ws rm As wc w1 ret) (cw : va_CN R s args own index y host bytes maxL rt ws rm 0 0 n ∧ (Cond.static y).before args s = true ∧ True)
    (hK : va_K D vwCl [(cI, .int)] s) (hE : Ev cI sd A s) (hA : ∀ q : Nat, s.heap.size ≤ q → A q) (hP : va_P D vwCl w H) (hD : va_D A w) (hS : va_S A s.heap H locs)
    (isC : List Nat) (hi : isC.map (fun i => w[i]?) = wc.map some) (hnd : va_nd isC = true) (hw : va_rep w isC w1 = w') (hf1 : w1.length = wc.length) (hf2 : w'.map Prod.fst = w.map Prod.fst) (h1 : ret.toList ++ rest = st1)
    (hst : st0 = As.reverse ++ rest) (hn : As.length = n) (hsz : ls.size = nL) (hro : (rest.map fun v => v.category).sum ≤ 8) (hdg : decode cc pc = .ok (.invokestatic index, 3)) (hf : cells + 0 ≤ R.cells ∧ slots + 0 ≤ R.slots)
    (kk : ∀ (H1 : Heap) (locs1 : List Loc), va_P D vwCl w' H1 → va_D A w' → va_S A s.heap H1 locs1 → W p l e R s m args below meth c H1 locs1 cells slots Q (F0 m (pc + 3) ls st1)) : W p l e R s m args below meth c H locs cells slots Q (F0 m pc ls st0) :=
  cl_go w' st1 (va_runSN F (hC H.size) cw ⟨CP.blind, cl_pre hK hE hA hP hD hS isC hi hnd _⟩ rfl hn hsz hst (lv_room hro) hdg hf) hA hP hD hS isC hi hw hf1 hf2 h1 kk
end CL
/-! A constructor: it makes k cells; their addresses come with the world behind it. -/
def CQN (D : va_G) (A : Nat → Prop) (k : Nat) (w1 : List Nat → va_W) : Array Value → State → Outcome → State → Prop := fun _ st oc t => (oc = .returned none ∧ ∃ qs : List Nat, qs.length = k ∧ va_P D vwCl (w1 qs) t.heap ∧ va_D A (w1 qs)) ∧ va_F A st t
def CtrN (l : Launch) (D : va_G) (cI : ClassId) (sd : Nat → Nat) (y : MethodName) (ws : List Cond) (rm : Room) (as : List Value) (w0 : va_W) (k : Nat) (w1 : List Nat → va_W) (mc ms : Nat) : Prop := ∀ sz : Nat, Met l y ws rm (CP D cI sd w0 as sz) (CQN D (va_A w0 sz) k w1) mc ms (va_A w0 sz)
theorem CtrN.of {l : Launch} {D : va_G} {cI : ClassId} {sd : Nat → Nat} {y : MethodName} {ws ws' : List Cond} {rm : Room} {as : List Value} {w0 : va_W} {k : Nat} {w1 : List Nat → va_W} {mc ms : Nat} {cc : ByteArray} {maxL : Nat} {rt : Option FieldType} {own : String}
    (hy : plainFor y = true) (hw : ws = Cond.code y cc maxL rt :: ws') (hcl : y.cls = own) (hsl : (lg_sl as).length ≤ maxL)
    (body : ∀ (p : Program) (e : Env) (s : State) (m : MethodId) (below : List Frame) (meth : Method) (c : Code) (A : Nat → Prop) (ls : Array Slot), p.tables.exec = Jvm.exec → c.code = cc → meth.sig.returnType = rt → c.maxLocals = maxL → s.vm.findClass own = some m.cls → (∀ w ∈ ws, w.before as.toArray s = true) → meth.locks = false → va_K D vwCl [(cI, .int)] s → Ev cI sd A s → (∀ q : Nat, s.heap.size ≤ q → A q) → va_P D vwCl w0 s.heap → va_D A w0 → va_S A s.heap s.heap [] → lv_has ls maxL (lv_args 0 as) → meth.name = y.name →
      W p l e rm s m as.toArray below meth c s.heap [] 0 0 (MQ below (CQN D A k w1) as.toArray s mc ms A) (F0 m 0 ls [])) : CtrN l D cI sd y ws rm as w0 k w1 mc ms := by
  intro sz
  refine met_of (cc := cc) (maxL := maxL) (rt := rt) hy hw ?_
  intro p e s m args below meth c s₁ B hml hv
  obtain ⟨rfl, hsz, hP, hK, hD0, hE⟩ := hv
  subst hsz
  have hts := atoms_spec (ws := ws) B.pre
  have hown : s.vm.findClass y.cls = some m.cls := findClass_of_methodNamed B.named
  rw [lg_entry_eq]
  exact body p e s m below meth c _ _ B.exec B.bytes B.returns hml (hcl ▸ hown) hts B.notSynchronized hK hE (fun q h => Or.inr h) hP hD0.self va_S.rf (lv_entry as hsl) (name_of_methodNamed B.named B.method).1
section CN
variable {p : Program} {l : Launch} {e : Env} {R : Room} {s : State} {m : MethodId} {args : Array Value} {below : List Frame} {meth : Method} {c : Code} {H : Heap} {locs : List Loc} {cells slots : Nat} {Q : State → Prop}
variable {cc : ByteArray} {pc nL : Nat} {ls : Array Slot} {D : va_G} {cI : ClassId} {sd : Nat → Nat} {A : Nat → Prop} {w wc : va_W}
variable {y : MethodName} {bytes : ByteArray} {maxL n index k mc ms : Nat} {ws Ts : List Cond} {rm : Room} {own : String} {b : Addr} {As rest st0 : List Value} {w1 : List Nat → va_W}
theorem cl_N (wr : va_W) (F : CallFix p m c cc nL s args Ts own) (hC : CtrN l D cI sd y ws rm (.ref b :: As) wc k w1 mc ms) (cw : CallB R s args own index y bytes maxL none ws rm mc ms n ∧ y.name = "<init>" ∧ (Cond.instanceMethod y).before args s = true)
    (hK : va_K D vwCl [(cI, .int)] s) (hE : Ev cI sd A s) (hA : ∀ q : Nat, s.heap.size ≤ q → A q) (hP : va_P D vwCl w H) (hD : va_D A w) (hS : va_S A s.heap H locs)
    (isC isR : List Nat) (hi : isC.map (fun i => w[i]?) = wc.map some) (hnd : va_nd isC = true) (hR : isR.map (fun i => w[i]?) = wr.map some) (hnR : va_nd isR = true) (hdis : ∀ i ∈ isR, i ∉ isC)
    (hst : st0 = As.reverse ++ .ref b :: rest) (hn : As.length = n) (hsz : ls.size = nL) (hro : (rest.map fun v => v.category).sum ≤ 8) (hdg : decode cc pc = .ok (.invokespecial index, 3)) (hf : cells + mc ≤ R.cells ∧ slots + ms ≤ R.slots)
    (kk : ∀ (qs : List Nat) (H1 : Heap) (locs1 : List Loc), qs.length = k → va_P D vwCl (wr ++ w1 qs) H1 → va_D A (wr ++ w1 qs) → va_S A s.heap H1 locs1 → W p l e R s m args below meth c H1 locs1 (cells + mc) (slots + ms) Q (F0 m (pc + 3) ls rest)) : W p l e R s m args below meth c H locs cells slots Q (F0 m pc ls st0) := by
  have run : va_Run p l e R s m args below meth c H locs cells slots mc ms (F0 m pc ls st0) rest (CQN D (va_A wc H.size) k w1 (Value.ref b :: As).toArray) (va_A wc H.size) := va_runI F (hC H.size) cw ⟨CP.blind, cl_pre hK hE hA hP hD hS isC hi hnd _⟩ rfl hn hsz hst (lv_room hro) hdg hf
  have hF := va_free (wc := wc) hD hS hA isC hi
  intro T hT X
  obtain ⟨v, st₀, t, T', L, h0, X', hL, e1, e2, ⟨⟨hv, qs, hq, hP1, hD1⟩, hz, hk⟩, st⟩ := run T hT X
  cases hv
  rw [h0] at hz hk
  have hk' : ∀ q : Nat, q < H.size → ¬ va_A wc H.size q → T'.heap[q]? = H[q]? := fun q h1 h2 => by rw [e1]; exact hk q h1 h2
  obtain ⟨hP2, hD2⟩ := va_join hP hD isC isR hi hR hnR hdis hk' hF (by rw [e1]; exact hP1) hD1
  obtain ⟨t2, a1, b1⟩ := kk qs T'.heap (locs ++ L) hq hP2 hD2
    ⟨Nat.le_trans hS.1 (by rw [e1]; exact hz), fun q h1 h2 => by rw [hk' q (Nat.lt_of_lt_of_le h1 hS.1) (fun z => h2 (hF q z))]; exact hS.2.1 q h1 h2, fun q hq => by
      rcases List.mem_append.mp hq with h | h
      · exact hS.2.2 q h
      · exact hF _ (hL q h)⟩ T' rfl X'
  exact ⟨t2, st t2 a1, b1⟩
/-- a new array of numbers, its class the one that is known -/
theorem cl_newi (hx : p.tables.exec = Jvm.exec) (hb : c.code = cc) (harr : (Cond.arrayClass .int).before args s = true) (hK : va_K D vwCl [(cI, .int)] s) (hP : va_P D vwCl w H) (hD : va_D A w) (hS : va_S A s.heap H locs) (hA : ∀ q : Nat, s.heap.size ≤ q → A q)
    {nn : Int32} (N' : Nat) (hn : ¬ nn < 0) (hN : nn.toNatClampNeg = N') (hby : N' * 4 ≤ 536870912) (hc : cells + 1 ≤ R.cells) (hs : slots + N' ≤ R.slots) (hdg : decode cc pc = .ok (.newarray .int, 2))
    (kk : ∀ (q : Nat) (H1 : Heap), va_P D vwCl (w ++ [(q, .inl (cI, N', .inl (fun _ => 0)))]) H1 → va_D A (w ++ [(q, .inl (cI, N', .inl (fun _ => 0)))]) → va_S A s.heap H1 locs → W p l e R s m args below meth c H1 locs (cells + 1) (slots + N') Q (F0 m (pc + 2) ls (.ref q :: rest))) : W p l e R s m args below meth c H locs cells slots Q (F0 m pc ls (.int nn :: rest)) := by
  refine va_newa (atype := .int) (ty := .int) (a0 := (N', .inl (fun _ => 0))) hx hb harr rfl hK hP hD hS hA (fun cA => rfl) hn hN (by rw [show componentBytes .int = 4 from rfl]; exact hby) hc hs hdg (fun q cA H1 hK1 hP1 hD1 hS1 => ?_)
  have e1 : s.vm.findClass ("[" ++ FieldType.int.toString) = some cI := (hK.2 0 _ rfl).2
  have e2 : s.vm.findClass ("[" ++ FieldType.int.toString) = some cA := (hK1.2 1 _ rfl).2
  have e3 : cA = cI := Option.some.inj (e2.symm.trans e1)
  subst e3
  exact kk q H1 hP1 hD1 hS1
end CN
end
section
abbrev S_Bytes : Type := Int32 × (Nat → Int32)
abbrev S_Names : Type := Int32 × Int32 × (Nat → Int32) × (Nat → Int32) × (Nat → Int32) × (Nat → Int32)
abbrev S_Tokens : Type := Int32 × Int32 × (Nat → Int32) × (Nat → Int32) × (Nat → Int32)
abbrev S_Tree : Type := Int32 × (Nat → Int32) × (Nat → Int32) × (Nat → Int32) × (Nat → Int32) × (Nat → Int32) × (Nat → Int32) × (Nat → Int32)
abbrev S_Parser : Type := Int32 × Int32 × Int32 × Int32 × Int32 × Int32 × Int32 × Int32 × Int32 × Int32
abbrev wB (cI : ClassId) (h a n : Nat) (x : S_Bytes) : va_W := [(h, .inr (0, [.ref a, .int x.1])), (a, .inl (cI, n, .inl x.2))]
abbrev wN (cI : ClassId) (ad : Nat → Nat) (x : S_Names) : va_W := [(ad 5, .inr (1, [.ref (ad 6), .ref (ad 7), .ref (ad 8), .ref (ad 9), .int x.1, .int x.2.1])), ((ad 6), .inl (cI, 8704, .inl x.2.2.1)), ((ad 7), .inl (cI, 4138, .inl x.2.2.2.1)), ((ad 8), .inl (cI, 4137, .inl x.2.2.2.2.1)), ((ad 9), .inl (cI, 8192, .inl x.2.2.2.2.2))]
abbrev wK (cI : ClassId) (ad : Nat → Nat) (x : S_Tokens) : va_W := [(ad 10, .inr (2, [.ref (ad 1), .ref (ad 5), .ref (ad 11), .ref (ad 12), .ref (ad 13), .int x.1, .int x.2.1])), ((ad 11), .inl (cI, 8193, .inl x.2.2.1)), ((ad 12), .inl (cI, 8193, .inl x.2.2.2.1)), ((ad 13), .inl (cI, 8193, .inl x.2.2.2.2))]
abbrev wT (cI : ClassId) (ad : Nat → Nat) (x : S_Tree) : va_W := [(ad 14, .inr (3, [.ref (ad 15), .ref (ad 16), .ref (ad 17), .ref (ad 18), .ref (ad 19), .ref (ad 20), .ref (ad 21), .int x.1])), ((ad 15), .inl (cI, 16384, .inl x.2.1)), ((ad 16), .inl (cI, 16384, .inl x.2.2.1)), ((ad 17), .inl (cI, 16384, .inl x.2.2.2.1)), ((ad 18), .inl (cI, 16384, .inl x.2.2.2.2.1)), ((ad 19), .inl (cI, 16384, .inl x.2.2.2.2.2.1)), ((ad 20), .inl (cI, 16384, .inl x.2.2.2.2.2.2.1)), ((ad 21), .inl (cI, 16384, .inl x.2.2.2.2.2.2.2))]
abbrev wP (cI : ClassId) (ad : Nat → Nat) (x : S_Parser) : va_W := [(ad 22, .inr (4, [.ref (ad 10), .ref (ad 14), .int x.1, .int x.2.1, .int x.2.2.1, .int x.2.2.2.1, .int x.2.2.2.2.1, .int x.2.2.2.2.2.1, .int x.2.2.2.2.2.2.1, .int x.2.2.2.2.2.2.2.1, .int x.2.2.2.2.2.2.2.2.1, .int x.2.2.2.2.2.2.2.2.2]))]
abbrev wW (ad : Nat → Nat) : va_W := [(ad 23, .inr (5, [.ref (ad 14), .ref (ad 5), .ref (ad 3)]))]
abbrev wC (ad : Nat → Nat) : va_W := [(ad 0, .inr (6, [.ref (ad 1), .ref (ad 3), .ref (ad 5), .ref (ad 10), .ref (ad 14), .ref (ad 22), .ref (ad 23)]))]
end
section
theorem dX10_min_0 : decode cX10_min 0 = .ok (.lload_n 0, 1) := by decide +kernel
theorem dX10_min_1 : decode cX10_min 1 = .ok (.lload_n 2, 1) := by decide +kernel
theorem dX10_min_2 : decode cX10_min 2 = .ok (.lcmp, 1) := by decide +kernel
theorem dX10_min_3 : decode cX10_min 3 = .ok (.ifCond .gt 7, 3) := by decide +kernel
theorem dX10_min_6 : decode cX10_min 6 = .ok (.lload_n 0, 1) := by decide +kernel
theorem dX10_min_7 : decode cX10_min 7 = .ok (.goto 4, 3) := by decide +kernel
theorem dX10_min_10 : decode cX10_min 10 = .ok (.lload_n 2, 1) := by decide +kernel
theorem dX10_min_11 : decode cX10_min 11 = .ok (.lreturn, 1) := by decide +kernel

theorem dX10_max_0 : decode cX10_max 0 = .ok (.iload_n 0, 1) := by decide +kernel
theorem dX10_max_1 : decode cX10_max 1 = .ok (.iload_n 1, 1) := by decide +kernel
theorem dX10_max_2 : decode cX10_max 2 = .ok (.if_icmp .lt 7, 3) := by decide +kernel
theorem dX10_max_5 : decode cX10_max 5 = .ok (.iload_n 0, 1) := by decide +kernel
theorem dX10_max_6 : decode cX10_max 6 = .ok (.goto 4, 3) := by decide +kernel
theorem dX10_max_9 : decode cX10_max 9 = .ok (.iload_n 1, 1) := by decide +kernel
theorem dX10_max_10 : decode cX10_max 10 = .ok (.ireturn, 1) := by decide +kernel

theorem dX10_abs_0 : decode cX10_abs 0 = .ok (.iload_n 0, 1) := by decide +kernel
theorem dX10_abs_1 : decode cX10_abs 1 = .ok (.ifCond .ge 8, 3) := by decide +kernel
theorem dX10_abs_4 : decode cX10_abs 4 = .ok (.iload_n 0, 1) := by decide +kernel
theorem dX10_abs_5 : decode cX10_abs 5 = .ok (.ineg, 1) := by decide +kernel
theorem dX10_abs_6 : decode cX10_abs 6 = .ok (.goto 4, 3) := by decide +kernel
theorem dX10_abs_9 : decode cX10_abs 9 = .ok (.iload_n 0, 1) := by decide +kernel
theorem dX10_abs_10 : decode cX10_abs 10 = .ok (.ireturn, 1) := by decide +kernel
end
section
def f_Math_min (a1 : Int64) (a2 : Int64) : Option (Int64) :=
  if 0 < (lg_cmp a1 a2) then
    some a2
  else
    some a1

def f_Math_max (a1 : Int32) (a2 : Int32) : Option (Int32) :=
  if a1 < a2 then
    some a2
  else
    some a1

def f_Math_abs (a1 : Int32) : Option (Int32) :=
  if 0 ≤ a1 then
    some a1
  else
    some (-a1)
end
section
set_option maxHeartbeats 4000000 in
set_option maxRecDepth 100000 in
theorem c_Math_min (l : Launch) (D : va_G) (cI : ClassId) (sd : Nat → Nat) (ad : Nat → Nat) (a1 : Int64) (a2 : Int64) (res : Int64) (hM : f_Math_min a1 a2 = some res) : Ctr l D cI sd yX10_min (wsM yX10_min cX10_min 4 (Option.some Jvm.ClassFile.FieldType.long)) { frames := 0, cells := 0, slots := 0, locals := 0 } [.long a1, .long a2] (([] : va_W)) (([] : va_W)) (some (.long res)) := by
  refine Ctr.of (cc := cX10_min) (maxL := 4) (own := RX10) (by decide +kernel) rfl rfl (Nat.le_of_ble_eq_true rfl) ?_
  intro p e s m below meth c A ls hx hb hr hml hown hts hlk hK hE hA hP hD hS hl
  have hl : lv_has ls 4 [(0, .long a1), (2, .long a2)] := hl
  unfold f_Math_min at hM
  refine lv_lload_n hx hb dX10_min_0 rfl (lv_at hl 0 rfl) ?_
  refine lv_lload_n hx hb dX10_min_1 rfl (lv_at hl 1 rfl) ?_
  refine W.lcmp hx hb dX10_min_2 ?_
  refine lv_if_gt (tgt := 10) hx hb dX10_min_3 (by decide) (fun c1 => ?_) (fun c1 => ?_)
  · replace hM := if_t c1 hM
    refine lv_lload_n hx hb dX10_min_10 rfl (lv_at hl 1 rfl) ?_
    cases hM
    exact rt_l hx hb hr hlk hP hD hS rfl dX10_min_11
  · replace hM := if_f c1 hM
    refine lv_lload_n hx hb dX10_min_6 rfl (lv_at hl 0 rfl) ?_
    refine lv_goto (tgt := 11) hx hb dX10_min_7 (by decide) ?_
    cases hM
    exact rt_l hx hb hr hlk hP hD hS rfl dX10_min_11

set_option maxHeartbeats 4000000 in
set_option maxRecDepth 100000 in
theorem c_Math_max (l : Launch) (D : va_G) (cI : ClassId) (sd : Nat → Nat) (ad : Nat → Nat) (a1 : Int32) (a2 : Int32) (res : Int32) (hM : f_Math_max a1 a2 = some res) : Ctr l D cI sd yX10_max (wsM yX10_max cX10_max 2 (Option.some Jvm.ClassFile.FieldType.int)) { frames := 0, cells := 0, slots := 0, locals := 0 } [.int a1, .int a2] (([] : va_W)) (([] : va_W)) (some (.int res)) := by
  refine Ctr.of (cc := cX10_max) (maxL := 2) (own := RX10) (by decide +kernel) rfl rfl (Nat.le_of_ble_eq_true rfl) ?_
  intro p e s m below meth c A ls hx hb hr hml hown hts hlk hK hE hA hP hD hS hl
  have hl : lv_has ls 2 [(0, .int a1), (1, .int a2)] := hl
  unfold f_Math_max at hM
  refine lv_iload_n hx hb dX10_max_0 rfl (lv_at hl 0 rfl) ?_
  refine lv_iload_n hx hb dX10_max_1 rfl (lv_at hl 1 rfl) ?_
  refine lv_icmp_lt (tgt := 9) hx hb dX10_max_2 (by decide) (fun c1 => ?_) (fun c1 => ?_)
  · replace hM := if_t c1 hM
    refine lv_iload_n hx hb dX10_max_9 rfl (lv_at hl 1 rfl) ?_
    cases hM
    exact rt_i hx hb hr hlk hP hD hS rfl dX10_max_10
  · replace hM := if_f c1 hM
    refine lv_iload_n hx hb dX10_max_5 rfl (lv_at hl 0 rfl) ?_
    refine lv_goto (tgt := 10) hx hb dX10_max_6 (by decide) ?_
    cases hM
    exact rt_i hx hb hr hlk hP hD hS rfl dX10_max_10

set_option maxHeartbeats 4000000 in
set_option maxRecDepth 100000 in
theorem c_Math_abs (l : Launch) (D : va_G) (cI : ClassId) (sd : Nat → Nat) (ad : Nat → Nat) (a1 : Int32) (res : Int32) (hM : f_Math_abs a1 = some res) : Ctr l D cI sd yX10_abs (wsM yX10_abs cX10_abs 1 (Option.some Jvm.ClassFile.FieldType.int)) { frames := 0, cells := 0, slots := 0, locals := 0 } [.int a1] (([] : va_W)) (([] : va_W)) (some (.int res)) := by
  refine Ctr.of (cc := cX10_abs) (maxL := 1) (own := RX10) (by decide +kernel) rfl rfl (Nat.le_of_ble_eq_true rfl) ?_
  intro p e s m below meth c A ls hx hb hr hml hown hts hlk hK hE hA hP hD hS hl
  have hl : lv_has ls 1 [(0, .int a1)] := hl
  unfold f_Math_abs at hM
  refine lv_iload_n hx hb dX10_abs_0 rfl (lv_at hl 0 rfl) ?_
  refine lv_if_ge (tgt := 9) hx hb dX10_abs_1 (by decide) (fun c1 => ?_) (fun c1 => ?_)
  · replace hM := if_t c1 hM
    refine lv_iload_n hx hb dX10_abs_9 rfl (lv_at hl 0 rfl) ?_
    cases hM
    exact rt_i hx hb hr hlk hP hD hS rfl dX10_abs_10
  · replace hM := if_f c1 hM
    refine lv_iload_n hx hb dX10_abs_4 rfl (lv_at hl 0 rfl) ?_
    refine lv_ineg hx hb dX10_abs_5 ?_
    refine lv_goto (tgt := 10) hx hb dX10_abs_6 (by decide) ?_
    cases hM
    exact rt_i hx hb hr hlk hP hD hS rfl dX10_abs_10
end
section
theorem dX0_cut_0 : decode cX0_cut 0 = .ok (.iload_n 1, 1) := by decide +kernel
theorem dX0_cut_1 : decode cX0_cut 1 = .ok (.ifCond .lt 16, 3) := by decide +kernel
theorem dX0_cut_4 : decode cX0_cut 4 = .ok (.iload_n 1, 1) := by decide +kernel
theorem dX0_cut_5 : decode cX0_cut 5 = .ok (.aload_n 0, 1) := by decide +kernel
theorem dX0_cut_6 : decode cX0_cut 6 = .ok (.getfield 15, 3) := by decide +kernel
theorem dX0_cut_9 : decode cX0_cut 9 = .ok (.if_icmp .ge 8, 3) := by decide +kernel
theorem dX0_cut_12 : decode cX0_cut 12 = .ok (.aload_n 0, 1) := by decide +kernel
theorem dX0_cut_13 : decode cX0_cut 13 = .ok (.iload_n 1, 1) := by decide +kernel
theorem dX0_cut_14 : decode cX0_cut 14 = .ok (.putfield 15, 3) := by decide +kernel
theorem dX0_cut_17 : decode cX0_cut 17 = .ok (.return_, 1) := by decide +kernel

theorem dX0_put_0 : decode cX0_put 0 = .ok (.aload_n 0, 1) := by decide +kernel
theorem dX0_put_1 : decode cX0_put 1 = .ok (.getfield 15, 3) := by decide +kernel
theorem dX0_put_4 : decode cX0_put 4 = .ok (.ifCond .lt 35, 3) := by decide +kernel
theorem dX0_put_7 : decode cX0_put 7 = .ok (.aload_n 0, 1) := by decide +kernel
theorem dX0_put_8 : decode cX0_put 8 = .ok (.getfield 15, 3) := by decide +kernel
theorem dX0_put_11 : decode cX0_put 11 = .ok (.aload_n 0, 1) := by decide +kernel
theorem dX0_put_12 : decode cX0_put 12 = .ok (.getfield 9, 3) := by decide +kernel
theorem dX0_put_15 : decode cX0_put 15 = .ok (.arraylength, 1) := by decide +kernel
theorem dX0_put_16 : decode cX0_put 16 = .ok (.if_icmp .ge 23, 3) := by decide +kernel
theorem dX0_put_19 : decode cX0_put 19 = .ok (.aload_n 0, 1) := by decide +kernel
theorem dX0_put_20 : decode cX0_put 20 = .ok (.getfield 9, 3) := by decide +kernel
theorem dX0_put_23 : decode cX0_put 23 = .ok (.aload_n 0, 1) := by decide +kernel
theorem dX0_put_24 : decode cX0_put 24 = .ok (.getfield 15, 3) := by decide +kernel
theorem dX0_put_27 : decode cX0_put 27 = .ok (.iload_n 1, 1) := by decide +kernel
theorem dX0_put_28 : decode cX0_put 28 = .ok (.iastore, 1) := by decide +kernel
theorem dX0_put_29 : decode cX0_put 29 = .ok (.aload_n 0, 1) := by decide +kernel
theorem dX0_put_30 : decode cX0_put 30 = .ok (.dup, 1) := by decide +kernel
theorem dX0_put_31 : decode cX0_put 31 = .ok (.getfield 15, 3) := by decide +kernel
theorem dX0_put_34 : decode cX0_put 34 = .ok (.iconst 1, 1) := by decide +kernel
theorem dX0_put_35 : decode cX0_put 35 = .ok (.iadd, 1) := by decide +kernel
theorem dX0_put_36 : decode cX0_put 36 = .ok (.putfield 15, 3) := by decide +kernel
theorem dX0_put_39 : decode cX0_put 39 = .ok (.return_, 1) := by decide +kernel

theorem dX0_get_0 : decode cX0_get 0 = .ok (.iload_n 1, 1) := by decide +kernel
theorem dX0_get_1 : decode cX0_get 1 = .ok (.ifCond .lt 29, 3) := by decide +kernel
theorem dX0_get_4 : decode cX0_get 4 = .ok (.iload_n 1, 1) := by decide +kernel
theorem dX0_get_5 : decode cX0_get 5 = .ok (.aload_n 0, 1) := by decide +kernel
theorem dX0_get_6 : decode cX0_get 6 = .ok (.getfield 15, 3) := by decide +kernel
theorem dX0_get_9 : decode cX0_get 9 = .ok (.if_icmp .ge 21, 3) := by decide +kernel
theorem dX0_get_12 : decode cX0_get 12 = .ok (.iload_n 1, 1) := by decide +kernel
theorem dX0_get_13 : decode cX0_get 13 = .ok (.aload_n 0, 1) := by decide +kernel
theorem dX0_get_14 : decode cX0_get 14 = .ok (.getfield 9, 3) := by decide +kernel
theorem dX0_get_17 : decode cX0_get 17 = .ok (.arraylength, 1) := by decide +kernel
theorem dX0_get_18 : decode cX0_get 18 = .ok (.if_icmp .ge 12, 3) := by decide +kernel
theorem dX0_get_21 : decode cX0_get 21 = .ok (.aload_n 0, 1) := by decide +kernel
theorem dX0_get_22 : decode cX0_get 22 = .ok (.getfield 9, 3) := by decide +kernel
theorem dX0_get_25 : decode cX0_get 25 = .ok (.iload_n 1, 1) := by decide +kernel
theorem dX0_get_26 : decode cX0_get 26 = .ok (.iaload, 1) := by decide +kernel
theorem dX0_get_27 : decode cX0_get 27 = .ok (.goto 4, 3) := by decide +kernel
theorem dX0_get_30 : decode cX0_get 30 = .ok (.iconst (-1), 1) := by decide +kernel
theorem dX0_get_31 : decode cX0_get 31 = .ok (.ireturn, 1) := by decide +kernel

theorem dX0_swap_0 : decode cX0_swap 0 = .ok (.aload_n 0, 1) := by decide +kernel
theorem dX0_swap_1 : decode cX0_swap 1 = .ok (.iload_n 1, 1) := by decide +kernel
theorem dX0_swap_2 : decode cX0_swap 2 = .ok (.invokevirtual 19, 3) := by decide +kernel
theorem dX0_swap_5 : decode cX0_swap 5 = .ok (.istore_n 3, 1) := by decide +kernel
theorem dX0_swap_6 : decode cX0_swap 6 = .ok (.iload_n 3, 1) := by decide +kernel
theorem dX0_swap_7 : decode cX0_swap 7 = .ok (.iconst (-1), 1) := by decide +kernel
theorem dX0_swap_8 : decode cX0_swap 8 = .ok (.if_icmp .eq 23, 3) := by decide +kernel
theorem dX0_swap_11 : decode cX0_swap 11 = .ok (.iload_n 1, 1) := by decide +kernel
theorem dX0_swap_12 : decode cX0_swap 12 = .ok (.ifCond .lt 19, 3) := by decide +kernel
theorem dX0_swap_15 : decode cX0_swap 15 = .ok (.iload_n 1, 1) := by decide +kernel
theorem dX0_swap_16 : decode cX0_swap 16 = .ok (.aload_n 0, 1) := by decide +kernel
theorem dX0_swap_17 : decode cX0_swap 17 = .ok (.getfield 9, 3) := by decide +kernel
theorem dX0_swap_20 : decode cX0_swap 20 = .ok (.arraylength, 1) := by decide +kernel
theorem dX0_swap_21 : decode cX0_swap 21 = .ok (.if_icmp .ge 10, 3) := by decide +kernel
theorem dX0_swap_24 : decode cX0_swap 24 = .ok (.aload_n 0, 1) := by decide +kernel
theorem dX0_swap_25 : decode cX0_swap 25 = .ok (.getfield 9, 3) := by decide +kernel
theorem dX0_swap_28 : decode cX0_swap 28 = .ok (.iload_n 1, 1) := by decide +kernel
theorem dX0_swap_29 : decode cX0_swap 29 = .ok (.iload_n 2, 1) := by decide +kernel
theorem dX0_swap_30 : decode cX0_swap 30 = .ok (.iastore, 1) := by decide +kernel
theorem dX0_swap_31 : decode cX0_swap 31 = .ok (.iload_n 3, 1) := by decide +kernel
theorem dX0_swap_32 : decode cX0_swap 32 = .ok (.ireturn, 1) := by decide +kernel
end
section
def f_Bytes_cut (n : Nat) (o_this : S_Bytes) (a1 : Int32) : Option (S_Bytes) :=
  if a1 < 0 then
    some o_this
  else
    if o_this.1 ≤ a1 then
      some o_this
    else
      some (a1, o_this.2)

def f_Bytes_put (n : Nat) (o_this : S_Bytes) (a1 : Int32) : Option (S_Bytes) :=
  if o_this.1 < 0 then
    some o_this
  else
    if (Int32.ofNat n) ≤ o_this.1 then
      some o_this
    else
      gd o_this.1 n <|
      some (o_this.1 + 1, upd o_this.2 o_this.1.toNatClampNeg a1)

def f_Bytes_get (n : Nat) (o_this : S_Bytes) (a1 : Int32) : Option (Int32) :=
  if a1 < 0 then
    some (-1)
  else
    if o_this.1 ≤ a1 then
      some (-1)
    else
      if (Int32.ofNat n) ≤ a1 then
        some (-1)
      else
        gd a1 n <|
        some (o_this.2 a1.toNatClampNeg)

def f_Bytes_swap (n : Nat) (o_this : S_Bytes) (a1 : Int32) (a2 : Int32) : Option (Int32 × S_Bytes) :=
  (f_Bytes_get n o_this a1).bind fun r1 =>
  if r1 = (-1) then
    some (r1, o_this)
  else
    if a1 < 0 then
      some (r1, o_this)
    else
      if (Int32.ofNat n) ≤ a1 then
        some (r1, o_this)
      else
        gd a1 n <|
        some (r1, (o_this.1, upd o_this.2 a1.toNatClampNeg a2))
end
section
set_option maxHeartbeats 4000000 in
set_option maxRecDepth 100000 in
theorem c_Bytes_cut (l : Launch) (D : va_G) (cI : ClassId) (sd : Nat → Nat) (h a : Nat) (n : Nat) (o_this : S_Bytes) (a1 : Int32) (res : S_Bytes) (hM : f_Bytes_cut n o_this a1 = some res) : Ctr l D cI sd yX0_cut (wsM yX0_cut cX0_cut 2 (Option.none : Option Jvm.ClassFile.FieldType)) { frames := 0, cells := 0, slots := 0, locals := 0 } [.ref h, .int a1] (wB cI h a n o_this) (wB cI h a n res) none := by
  refine Ctr.of (cc := cX0_cut) (maxL := 2) (own := RX0) (by decide +kernel) rfl rfl (Nat.le_of_ble_eq_true rfl) ?_
  intro p e s m below meth c A ls hx hb hr hml hown hts hlk hK hE hA hP hD hS hl
  have hl : lv_has ls 2 [(0, .ref h), (1, .int a1)] := hl
  unfold f_Bytes_cut at hM
  refine lv_iload_n hx hb dX0_cut_0 rfl (lv_at hl 1 rfl) ?_
  refine lv_if_lt (tgt := 17) hx hb dX0_cut_1 (by decide) (fun c1 => ?_) (fun c1 => ?_)
  · replace hM := if_t c1 hM
    cases hM
    exact rt_v hx hb hr hlk hP hD hS rfl dX0_cut_17
  · replace hM := if_f c1 hM
    refine lv_iload_n hx hb dX0_cut_4 rfl (lv_at hl 1 rfl) ?_
    refine lv_aload_n hx hb dX0_cut_5 rfl (lv_at hl 0 rfl) ?_
    refine va_get (D := D) (ci := 0) (v := .int o_this.1) (C := RX0) (T := TX0) (N := 2) hx hb hts layX0 hown hK hP 0 rfl rfl 1 (by decide) (hts _ (inA q204)) (fun _ h9 => h9) rfl dX0_cut_6 ?_
    refine lv_icmp_ge (tgt := 17) hx hb dX0_cut_9 (by decide) (fun c2 => ?_) (fun c2 => ?_)
    · replace hM := if_t c2 hM
      cases hM
      exact rt_v hx hb hr hlk hP hD hS rfl dX0_cut_17
    · replace hM := if_f c2 hM
      refine lv_aload_n hx hb dX0_cut_12 rfl (lv_at hl 0 rfl) ?_
      refine lv_iload_n hx hb dX0_cut_13 rfl (lv_at hl 1 rfl) ?_
      refine va_put (D := D) (ci := 0) (v := .int a1) (ty := .int) (C := RX0) (T := TX0) (N := 2) hx hb hts layX0 tyX0 tyX0_ok nmX0 hown hK hP hD hS 0 rfl rfl 1 (by decide) (hts _ (inA q204)) (fun _ h9 => h9) rfl (by decide +kernel) rfl rfl (Nat.le_of_ble_eq_true rfl) dX0_cut_14 (fun H locs hP hD hS => ?_)
      have hP : va_P D vwCl (wB cI h a n (a1, o_this.2)) H := hP
      have hD : va_D A (wB cI h a n (a1, o_this.2)) := hD
      cases hM
      exact rt_v hx hb hr hlk hP hD hS rfl dX0_cut_17

set_option maxHeartbeats 4000000 in
set_option maxRecDepth 100000 in
theorem c_Bytes_put (l : Launch) (D : va_G) (cI : ClassId) (sd : Nat → Nat) (h a : Nat) (n : Nat) (o_this : S_Bytes) (a1 : Int32) (res : S_Bytes) (hM : f_Bytes_put n o_this a1 = some res) : Ctr l D cI sd yX0_put (wsM yX0_put cX0_put 2 (Option.none : Option Jvm.ClassFile.FieldType)) { frames := 0, cells := 0, slots := 0, locals := 0 } [.ref h, .int a1] (wB cI h a n o_this) (wB cI h a n res) none := by
  refine Ctr.of (cc := cX0_put) (maxL := 2) (own := RX0) (by decide +kernel) rfl rfl (Nat.le_of_ble_eq_true rfl) ?_
  intro p e s m below meth c A ls hx hb hr hml hown hts hlk hK hE hA hP hD hS hl
  have hl : lv_has ls 2 [(0, .ref h), (1, .int a1)] := hl
  unfold f_Bytes_put at hM
  refine lv_aload_n hx hb dX0_put_0 rfl (lv_at hl 0 rfl) ?_
  refine va_get (D := D) (ci := 0) (v := .int o_this.1) (C := RX0) (T := TX0) (N := 2) hx hb hts layX0 hown hK hP 0 rfl rfl 1 (by decide) (hts _ (inA q204)) (fun _ h9 => h9) rfl dX0_put_1 ?_
  refine lv_if_lt (tgt := 39) hx hb dX0_put_4 (by decide) (fun c1 => ?_) (fun c1 => ?_)
  · replace hM := if_t c1 hM
    cases hM
    exact rt_v hx hb hr hlk hP hD hS rfl dX0_put_39
  · replace hM := if_f c1 hM
    refine lv_aload_n hx hb dX0_put_7 rfl (lv_at hl 0 rfl) ?_
    refine va_get (D := D) (ci := 0) (v := .int o_this.1) (C := RX0) (T := TX0) (N := 2) hx hb hts layX0 hown hK hP 0 rfl rfl 1 (by decide) (hts _ (inA q204)) (fun _ h9 => h9) rfl dX0_put_8 ?_
    refine lv_aload_n hx hb dX0_put_11 rfl (lv_at hl 0 rfl) ?_
    refine va_get (D := D) (ci := 0) (v := .ref a) (C := RX0) (T := TX0) (N := 2) hx hb hts layX0 hown hK hP 0 rfl rfl 0 (by decide) (hts _ (inA q202)) (fun _ h9 => h9) rfl dX0_put_12 ?_
    refine va_alen (v := Int32.ofNat n) hx hb hK hP 1 0 rfl rfl rfl dX0_put_15 ?_
    refine lv_icmp_ge (tgt := 39) hx hb dX0_put_16 (by decide) (fun c2 => ?_) (fun c2 => ?_)
    · replace hM := if_t c2 hM
      cases hM
      exact rt_v hx hb hr hlk hP hD hS rfl dX0_put_39
    · replace hM := if_f c2 hM
      refine lv_aload_n hx hb dX0_put_19 rfl (lv_at hl 0 rfl) ?_
      refine va_get (D := D) (ci := 0) (v := .ref a) (C := RX0) (T := TX0) (N := 2) hx hb hts layX0 hown hK hP 0 rfl rfl 0 (by decide) (hts _ (inA q202)) (fun _ h9 => h9) rfl dX0_put_20 ?_
      refine lv_aload_n hx hb dX0_put_23 rfl (lv_at hl 0 rfl) ?_
      refine va_get (D := D) (ci := 0) (v := .int o_this.1) (C := RX0) (T := TX0) (N := 2) hx hb hts layX0 hown hK hP 0 rfl rfl 1 (by decide) (hts _ (inA q204)) (fun _ h9 => h9) rfl dX0_put_24 ?_
      refine lv_iload_n hx hb dX0_put_27 rfl (lv_at hl 1 rfl) ?_
      obtain ⟨b3, hM⟩ := gd_use hM
      refine va_iast hx hb hK hP hD hS 1 0 rfl rfl b3 dX0_put_28 (fun H locs hP hD hS => ?_)
      have hP : va_P D vwCl (wB cI h a n (o_this.1, upd o_this.2 o_this.1.toNatClampNeg a1)) H := hP
      have hD : va_D A (wB cI h a n (o_this.1, upd o_this.2 o_this.1.toNatClampNeg a1)) := hD
      refine lv_aload_n hx hb dX0_put_29 rfl (lv_at hl 0 rfl) ?_
      refine lv_dup hx hb dX0_put_30 rfl ?_
      refine va_get (D := D) (ci := 0) (v := .int o_this.1) (C := RX0) (T := TX0) (N := 2) hx hb hts layX0 hown hK hP 0 rfl rfl 1 (by decide) (hts _ (inA q204)) (fun _ h9 => h9) rfl dX0_put_31 ?_
      refine lv_iconst (v := 1) hx hb dX0_put_34 (by decide) ?_
      refine lv_iadd hx hb dX0_put_35 ?_
      refine va_put (D := D) (ci := 0) (v := .int (o_this.1 + 1)) (ty := .int) (C := RX0) (T := TX0) (N := 2) hx hb hts layX0 tyX0 tyX0_ok nmX0 hown hK hP hD hS 0 rfl rfl 1 (by decide) (hts _ (inA q204)) (fun _ h9 => h9) rfl (by decide +kernel) rfl rfl (Nat.le_of_ble_eq_true rfl) dX0_put_36 (fun H locs hP hD hS => ?_)
      have hP : va_P D vwCl (wB cI h a n (o_this.1 + 1, upd o_this.2 o_this.1.toNatClampNeg a1)) H := hP
      have hD : va_D A (wB cI h a n (o_this.1 + 1, upd o_this.2 o_this.1.toNatClampNeg a1)) := hD
      cases hM
      exact rt_v hx hb hr hlk hP hD hS rfl dX0_put_39

set_option maxHeartbeats 4000000 in
set_option maxRecDepth 100000 in
theorem c_Bytes_get (l : Launch) (D : va_G) (cI : ClassId) (sd : Nat → Nat) (h a : Nat) (n : Nat) (o_this : S_Bytes) (a1 : Int32) (res : Int32) (hM : f_Bytes_get n o_this a1 = some res) : Ctr l D cI sd yX0_get (wsM yX0_get cX0_get 2 (Option.some Jvm.ClassFile.FieldType.int)) { frames := 0, cells := 0, slots := 0, locals := 0 } [.ref h, .int a1] (wB cI h a n o_this) (wB cI h a n o_this) (some (.int res)) := by
  refine Ctr.of (cc := cX0_get) (maxL := 2) (own := RX0) (by decide +kernel) rfl rfl (Nat.le_of_ble_eq_true rfl) ?_
  intro p e s m below meth c A ls hx hb hr hml hown hts hlk hK hE hA hP hD hS hl
  have hl : lv_has ls 2 [(0, .ref h), (1, .int a1)] := hl
  unfold f_Bytes_get at hM
  refine lv_iload_n hx hb dX0_get_0 rfl (lv_at hl 1 rfl) ?_
  refine lv_if_lt (tgt := 30) hx hb dX0_get_1 (by decide) (fun c1 => ?_) (fun c1 => ?_)
  · replace hM := if_t c1 hM
    refine lv_iconst (v := (-1)) hx hb dX0_get_30 (by decide) ?_
    cases hM
    exact rt_i hx hb hr hlk hP hD hS rfl dX0_get_31
  · replace hM := if_f c1 hM
    refine lv_iload_n hx hb dX0_get_4 rfl (lv_at hl 1 rfl) ?_
    refine lv_aload_n hx hb dX0_get_5 rfl (lv_at hl 0 rfl) ?_
    refine va_get (D := D) (ci := 0) (v := .int o_this.1) (C := RX0) (T := TX0) (N := 2) hx hb hts layX0 hown hK hP 0 rfl rfl 1 (by decide) (hts _ (inA q204)) (fun _ h9 => h9) rfl dX0_get_6 ?_
    refine lv_icmp_ge (tgt := 30) hx hb dX0_get_9 (by decide) (fun c2 => ?_) (fun c2 => ?_)
    · replace hM := if_t c2 hM
      refine lv_iconst (v := (-1)) hx hb dX0_get_30 (by decide) ?_
      cases hM
      exact rt_i hx hb hr hlk hP hD hS rfl dX0_get_31
    · replace hM := if_f c2 hM
      refine lv_iload_n hx hb dX0_get_12 rfl (lv_at hl 1 rfl) ?_
      refine lv_aload_n hx hb dX0_get_13 rfl (lv_at hl 0 rfl) ?_
      refine va_get (D := D) (ci := 0) (v := .ref a) (C := RX0) (T := TX0) (N := 2) hx hb hts layX0 hown hK hP 0 rfl rfl 0 (by decide) (hts _ (inA q202)) (fun _ h9 => h9) rfl dX0_get_14 ?_
      refine va_alen (v := Int32.ofNat n) hx hb hK hP 1 0 rfl rfl rfl dX0_get_17 ?_
      refine lv_icmp_ge (tgt := 30) hx hb dX0_get_18 (by decide) (fun c3 => ?_) (fun c3 => ?_)
      · replace hM := if_t c3 hM
        refine lv_iconst (v := (-1)) hx hb dX0_get_30 (by decide) ?_
        cases hM
        exact rt_i hx hb hr hlk hP hD hS rfl dX0_get_31
      · replace hM := if_f c3 hM
        refine lv_aload_n hx hb dX0_get_21 rfl (lv_at hl 0 rfl) ?_
        refine va_get (D := D) (ci := 0) (v := .ref a) (C := RX0) (T := TX0) (N := 2) hx hb hts layX0 hown hK hP 0 rfl rfl 0 (by decide) (hts _ (inA q202)) (fun _ h9 => h9) rfl dX0_get_22 ?_
        refine lv_iload_n hx hb dX0_get_25 rfl (lv_at hl 1 rfl) ?_
        obtain ⟨b4, hM⟩ := gd_use hM
        refine va_iald hx hb hK hP 1 0 rfl rfl b4 dX0_get_26 ?_
        refine lv_goto (tgt := 31) hx hb dX0_get_27 (by decide) ?_
        cases hM
        exact rt_i hx hb hr hlk hP hD hS rfl dX0_get_31

set_option maxHeartbeats 4000000 in
set_option maxRecDepth 100000 in
theorem c_Bytes_swap (l : Launch) (D : va_G) (cI : ClassId) (sd : Nat → Nat) (h a : Nat) (n : Nat) (o_this : S_Bytes) (a1 : Int32) (a2 : Int32) (res : Int32 × S_Bytes) (hM : f_Bytes_swap n o_this a1 a2 = some res) : Ctr l D cI sd yX0_swap (wsM yX0_swap cX0_swap 4 (Option.some Jvm.ClassFile.FieldType.int)) { frames := 1, cells := 0, slots := 0, locals := 21 } [.ref h, .int a1, .int a2] (wB cI h a n o_this) (wB cI h a n res.2) (some (.int res.1)) := by
  refine Ctr.of (cc := cX0_swap) (maxL := 4) (own := RX0) (by decide +kernel) rfl rfl (Nat.le_of_ble_eq_true rfl) ?_
  intro p e s m below meth c A ls hx hb hr hml hown hts hlk hK hE hA hP hD hS hl
  have hl : lv_has ls 4 [(0, .ref h), (1, .int a1), (2, .int a2)] := hl
  unfold f_Bytes_swap at hM
  refine lv_aload_n hx hb dX0_swap_0 rfl (lv_at hl 0 rfl) ?_
  refine lv_iload_n hx hb dX0_swap_1 rfl (lv_at hl 1 rfl) ?_
  obtain ⟨r1, hcr1, hM⟩ := ob_use hM
  refine cl_V (As := [.int a1]) (rest := []) (wB cI h a n o_this) (.int r1 :: []) ⟨hx, hb, hml, hown, hts⟩ (c_Bytes_get l D cI sd h a n o_this a1 r1 hcr1) (cwV2 hts q506 mvX0_get rfl rfl ⟨(Nat.le_of_ble_eq_true rfl), (Nat.le_of_ble_eq_true rfl)⟩) hK hE hA hP hD hS 0 (T := TX0) (N := 2) (ci := 0) rfl rfl [0, 1] rfl (by decide) rfl rfl rfl rfl rfl rfl hl.1 (Nat.le_of_ble_eq_true rfl) dX0_swap_2 ⟨Nat.zero_le _, Nat.zero_le _⟩ (fun H locs hP hD hS => ?_)
  refine lv_istore_n (lv' := [(3, .int r1), (0, .ref h), (1, .int a1), (2, .int a2)]) hx hb dX0_swap_5 rfl hl (by decide) rfl (fun ls hl => ?_)
  refine lv_iload_n hx hb dX0_swap_6 rfl (lv_at hl 0 rfl) ?_
  refine lv_iconst (v := (-1)) hx hb dX0_swap_7 (by decide) ?_
  refine lv_icmp_eq (tgt := 31) hx hb dX0_swap_8 (by decide) (fun c2 => ?_) (fun c2 => ?_)
  · replace hM := if_t c2 hM
    refine lv_iload_n hx hb dX0_swap_31 rfl (lv_at hl 0 rfl) ?_
    cases hM
    exact rt_i hx hb hr hlk hP hD hS rfl dX0_swap_32
  · replace hM := if_f c2 hM
    refine lv_iload_n hx hb dX0_swap_11 rfl (lv_at hl 2 rfl) ?_
    refine lv_if_lt (tgt := 31) hx hb dX0_swap_12 (by decide) (fun c3 => ?_) (fun c3 => ?_)
    · replace hM := if_t c3 hM
      refine lv_iload_n hx hb dX0_swap_31 rfl (lv_at hl 0 rfl) ?_
      cases hM
      exact rt_i hx hb hr hlk hP hD hS rfl dX0_swap_32
    · replace hM := if_f c3 hM
      refine lv_iload_n hx hb dX0_swap_15 rfl (lv_at hl 2 rfl) ?_
      refine lv_aload_n hx hb dX0_swap_16 rfl (lv_at hl 1 rfl) ?_
      refine va_get (D := D) (ci := 0) (v := .ref a) (C := RX0) (T := TX0) (N := 2) hx hb hts layX0 hown hK hP 0 rfl rfl 0 (by decide) (hts _ (inA q202)) (fun _ h9 => h9) rfl dX0_swap_17 ?_
      refine va_alen (v := Int32.ofNat n) hx hb hK hP 1 0 rfl rfl rfl dX0_swap_20 ?_
      refine lv_icmp_ge (tgt := 31) hx hb dX0_swap_21 (by decide) (fun c4 => ?_) (fun c4 => ?_)
      · replace hM := if_t c4 hM
        refine lv_iload_n hx hb dX0_swap_31 rfl (lv_at hl 0 rfl) ?_
        cases hM
        exact rt_i hx hb hr hlk hP hD hS rfl dX0_swap_32
      · replace hM := if_f c4 hM
        refine lv_aload_n hx hb dX0_swap_24 rfl (lv_at hl 1 rfl) ?_
        refine va_get (D := D) (ci := 0) (v := .ref a) (C := RX0) (T := TX0) (N := 2) hx hb hts layX0 hown hK hP 0 rfl rfl 0 (by decide) (hts _ (inA q202)) (fun _ h9 => h9) rfl dX0_swap_25 ?_
        refine lv_iload_n hx hb dX0_swap_28 rfl (lv_at hl 2 rfl) ?_
        refine lv_iload_n hx hb dX0_swap_29 rfl (lv_at hl 3 rfl) ?_
        obtain ⟨b5, hM⟩ := gd_use hM
        refine va_iast hx hb hK hP hD hS 1 0 rfl rfl b5 dX0_swap_30 (fun H locs hP hD hS => ?_)
        have hP : va_P D vwCl (wB cI h a n (o_this.1, upd o_this.2 a1.toNatClampNeg a2)) H := hP
        have hD : va_D A (wB cI h a n (o_this.1, upd o_this.2 a1.toNatClampNeg a2)) := hD
        refine lv_iload_n hx hb dX0_swap_31 rfl (lv_at hl 0 rfl) ?_
        cases hM
        exact rt_i hx hb hr hlk hP hD hS rfl dX0_swap_32
end
